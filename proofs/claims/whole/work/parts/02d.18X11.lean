theorem dX11_init_0 : decode cX11_init 0 = .ok (.aload_n 0, 1) := by decide +kernel
theorem dX11_init_1 : decode cX11_init 1 = .ok (.invokespecial 1, 3) := by decide +kernel
theorem dX11_init_4 : decode cX11_init 4 = .ok (.aload_n 0, 1) := by decide +kernel
theorem dX11_init_5 : decode cX11_init 5 = .ok (.new 7, 3) := by decide +kernel
theorem dX11_init_8 : decode cX11_init 8 = .ok (.dup, 1) := by decide +kernel
theorem dX11_init_9 : decode cX11_init 9 = .ok (.invokespecial 9, 3) := by decide +kernel
theorem dX11_init_12 : decode cX11_init 12 = .ok (.putfield 10, 3) := by decide +kernel
theorem dX11_init_15 : decode cX11_init 15 = .ok (.aload_n 0, 1) := by decide +kernel
theorem dX11_init_16 : decode cX11_init 16 = .ok (.new 7, 3) := by decide +kernel
theorem dX11_init_19 : decode cX11_init 19 = .ok (.dup, 1) := by decide +kernel
theorem dX11_init_20 : decode cX11_init 20 = .ok (.invokespecial 9, 3) := by decide +kernel
theorem dX11_init_23 : decode cX11_init 23 = .ok (.putfield 16, 3) := by decide +kernel
theorem dX11_init_26 : decode cX11_init 26 = .ok (.aload_n 0, 1) := by decide +kernel
theorem dX11_init_27 : decode cX11_init 27 = .ok (.iconst 2, 1) := by decide +kernel
theorem dX11_init_28 : decode cX11_init 28 = .ok (.anewarray 7, 3) := by decide +kernel
theorem dX11_init_31 : decode cX11_init 31 = .ok (.putfield 19, 3) := by decide +kernel
theorem dX11_init_34 : decode cX11_init 34 = .ok (.aload_n 0, 1) := by decide +kernel
theorem dX11_init_35 : decode cX11_init 35 = .ok (.iconst 2, 1) := by decide +kernel
theorem dX11_init_36 : decode cX11_init 36 = .ok (.newarray .boolean, 2) := by decide +kernel
theorem dX11_init_38 : decode cX11_init 38 = .ok (.putfield 23, 3) := by decide +kernel
theorem dX11_init_41 : decode cX11_init 41 = .ok (.aload_n 0, 1) := by decide +kernel
theorem dX11_init_42 : decode cX11_init 42 = .ok (.new 27, 3) := by decide +kernel
theorem dX11_init_45 : decode cX11_init 45 = .ok (.dup, 1) := by decide +kernel
theorem dX11_init_46 : decode cX11_init 46 = .ok (.invokespecial 29, 3) := by decide +kernel
theorem dX11_init_49 : decode cX11_init 49 = .ok (.putfield 30, 3) := by decide +kernel
theorem dX11_init_52 : decode cX11_init 52 = .ok (.aload_n 0, 1) := by decide +kernel
theorem dX11_init_53 : decode cX11_init 53 = .ok (.new 34, 3) := by decide +kernel
theorem dX11_init_56 : decode cX11_init 56 = .ok (.dup, 1) := by decide +kernel
theorem dX11_init_57 : decode cX11_init 57 = .ok (.aload_n 0, 1) := by decide +kernel
theorem dX11_init_58 : decode cX11_init 58 = .ok (.getfield 10, 3) := by decide +kernel
theorem dX11_init_61 : decode cX11_init 61 = .ok (.invokespecial 36, 3) := by decide +kernel
theorem dX11_init_64 : decode cX11_init 64 = .ok (.putfield 39, 3) := by decide +kernel
theorem dX11_init_67 : decode cX11_init 67 = .ok (.aload_n 0, 1) := by decide +kernel
theorem dX11_init_68 : decode cX11_init 68 = .ok (.new 43, 3) := by decide +kernel
theorem dX11_init_71 : decode cX11_init 71 = .ok (.dup, 1) := by decide +kernel
theorem dX11_init_72 : decode cX11_init 72 = .ok (.aload_n 0, 1) := by decide +kernel
theorem dX11_init_73 : decode cX11_init 73 = .ok (.getfield 39, 3) := by decide +kernel
theorem dX11_init_76 : decode cX11_init 76 = .ok (.invokespecial 45, 3) := by decide +kernel
theorem dX11_init_79 : decode cX11_init 79 = .ok (.putfield 48, 3) := by decide +kernel
theorem dX11_init_82 : decode cX11_init 82 = .ok (.aload_n 0, 1) := by decide +kernel
theorem dX11_init_83 : decode cX11_init 83 = .ok (.new 52, 3) := by decide +kernel
theorem dX11_init_86 : decode cX11_init 86 = .ok (.dup, 1) := by decide +kernel
theorem dX11_init_87 : decode cX11_init 87 = .ok (.invokespecial 54, 3) := by decide +kernel
theorem dX11_init_90 : decode cX11_init 90 = .ok (.putfield 55, 3) := by decide +kernel
theorem dX11_init_93 : decode cX11_init 93 = .ok (.aload_n 0, 1) := by decide +kernel
theorem dX11_init_94 : decode cX11_init 94 = .ok (.new 59, 3) := by decide +kernel
theorem dX11_init_97 : decode cX11_init 97 = .ok (.dup, 1) := by decide +kernel
theorem dX11_init_98 : decode cX11_init 98 = .ok (.aload_n 0, 1) := by decide +kernel
theorem dX11_init_99 : decode cX11_init 99 = .ok (.getfield 39, 3) := by decide +kernel
theorem dX11_init_102 : decode cX11_init 102 = .ok (.aload_n 0, 1) := by decide +kernel
theorem dX11_init_103 : decode cX11_init 103 = .ok (.getfield 55, 3) := by decide +kernel
theorem dX11_init_106 : decode cX11_init 106 = .ok (.invokespecial 61, 3) := by decide +kernel
theorem dX11_init_109 : decode cX11_init 109 = .ok (.putfield 64, 3) := by decide +kernel
theorem dX11_init_112 : decode cX11_init 112 = .ok (.aload_n 0, 1) := by decide +kernel
theorem dX11_init_113 : decode cX11_init 113 = .ok (.new 68, 3) := by decide +kernel
theorem dX11_init_116 : decode cX11_init 116 = .ok (.dup, 1) := by decide +kernel
theorem dX11_init_117 : decode cX11_init 117 = .ok (.invokespecial 70, 3) := by decide +kernel
theorem dX11_init_120 : decode cX11_init 120 = .ok (.putfield 71, 3) := by decide +kernel
theorem dX11_init_123 : decode cX11_init 123 = .ok (.aload_n 0, 1) := by decide +kernel
theorem dX11_init_124 : decode cX11_init 124 = .ok (.new 75, 3) := by decide +kernel
theorem dX11_init_127 : decode cX11_init 127 = .ok (.dup, 1) := by decide +kernel
theorem dX11_init_128 : decode cX11_init 128 = .ok (.aload_n 0, 1) := by decide +kernel
theorem dX11_init_129 : decode cX11_init 129 = .ok (.getfield 39, 3) := by decide +kernel
theorem dX11_init_132 : decode cX11_init 132 = .ok (.aload_n 0, 1) := by decide +kernel
theorem dX11_init_133 : decode cX11_init 133 = .ok (.getfield 48, 3) := by decide +kernel
theorem dX11_init_136 : decode cX11_init 136 = .ok (.invokespecial 77, 3) := by decide +kernel
theorem dX11_init_139 : decode cX11_init 139 = .ok (.putfield 80, 3) := by decide +kernel
theorem dX11_init_142 : decode cX11_init 142 = .ok (.aload_n 0, 1) := by decide +kernel
theorem dX11_init_143 : decode cX11_init 143 = .ok (.iconst 5, 1) := by decide +kernel
theorem dX11_init_144 : decode cX11_init 144 = .ok (.newarray .int, 2) := by decide +kernel
theorem dX11_init_146 : decode cX11_init 146 = .ok (.putfield 84, 3) := by decide +kernel
theorem dX11_init_149 : decode cX11_init 149 = .ok (.aload_n 0, 1) := by decide +kernel
theorem dX11_init_150 : decode cX11_init 150 = .ok (.bipush 6, 2) := by decide +kernel
theorem dX11_init_152 : decode cX11_init 152 = .ok (.newarray .int, 2) := by decide +kernel
theorem dX11_init_154 : decode cX11_init 154 = .ok (.putfield 88, 3) := by decide +kernel
theorem dX11_init_157 : decode cX11_init 157 = .ok (.aload_n 0, 1) := by decide +kernel
theorem dX11_init_158 : decode cX11_init 158 = .ok (.bipush 20, 2) := by decide +kernel
theorem dX11_init_160 : decode cX11_init 160 = .ok (.newarray .long, 2) := by decide +kernel
theorem dX11_init_162 : decode cX11_init 162 = .ok (.putfield 91, 3) := by decide +kernel
theorem dX11_init_165 : decode cX11_init 165 = .ok (.aload_n 0, 1) := by decide +kernel
theorem dX11_init_166 : decode cX11_init 166 = .ok (.iconst (-1), 1) := by decide +kernel
theorem dX11_init_167 : decode cX11_init 167 = .ok (.putfield 95, 3) := by decide +kernel
theorem dX11_init_170 : decode cX11_init 170 = .ok (.aload_n 0, 1) := by decide +kernel
theorem dX11_init_171 : decode cX11_init 171 = .ok (.getfield 19, 3) := by decide +kernel
theorem dX11_init_174 : decode cX11_init 174 = .ok (.iconst 0, 1) := by decide +kernel
theorem dX11_init_175 : decode cX11_init 175 = .ok (.new 7, 3) := by decide +kernel
theorem dX11_init_178 : decode cX11_init 178 = .ok (.dup, 1) := by decide +kernel
theorem dX11_init_179 : decode cX11_init 179 = .ok (.invokespecial 9, 3) := by decide +kernel
theorem dX11_init_182 : decode cX11_init 182 = .ok (.aastore, 1) := by decide +kernel
theorem dX11_init_183 : decode cX11_init 183 = .ok (.aload_n 0, 1) := by decide +kernel
theorem dX11_init_184 : decode cX11_init 184 = .ok (.getfield 19, 3) := by decide +kernel
theorem dX11_init_187 : decode cX11_init 187 = .ok (.iconst 1, 1) := by decide +kernel
theorem dX11_init_188 : decode cX11_init 188 = .ok (.new 7, 3) := by decide +kernel
theorem dX11_init_191 : decode cX11_init 191 = .ok (.dup, 1) := by decide +kernel
theorem dX11_init_192 : decode cX11_init 192 = .ok (.invokespecial 9, 3) := by decide +kernel
theorem dX11_init_195 : decode cX11_init 195 = .ok (.aastore, 1) := by decide +kernel
theorem dX11_init_196 : decode cX11_init 196 = .ok (.aload_n 0, 1) := by decide +kernel
theorem dX11_init_197 : decode cX11_init 197 = .ok (.getfield 88, 3) := by decide +kernel
theorem dX11_init_200 : decode cX11_init 200 = .ok (.iconst (-1), 1) := by decide +kernel
theorem dX11_init_201 : decode cX11_init 201 = .ok (.invokestatic 99, 3) := by decide +kernel
theorem dX11_init_204 : decode cX11_init 204 = .ok (.return_, 1) := by decide +kernel
theorem dX11_person_0 : decode cX11_person 0 = .ok (.aload_n 0, 1) := by decide +kernel
theorem dX11_person_1 : decode cX11_person 1 = .ok (.getfield 10, 3) := by decide +kernel
theorem dX11_person_4 : decode cX11_person 4 = .ok (.iload_n 1, 1) := by decide +kernel
theorem dX11_person_5 : decode cX11_person 5 = .ok (.iload_n 2, 1) := by decide +kernel
theorem dX11_person_6 : decode cX11_person 6 = .ok (.invokevirtual 105, 3) := by decide +kernel
theorem dX11_person_9 : decode cX11_person 9 = .ok (.istore_n 3, 1) := by decide +kernel
theorem dX11_person_10 : decode cX11_person 10 = .ok (.iload_n 3, 1) := by decide +kernel
theorem dX11_person_11 : decode cX11_person 11 = .ok (.ifCond .ge 9, 3) := by decide +kernel
theorem dX11_person_14 : decode cX11_person 14 = .ok (.aload_n 0, 1) := by decide +kernel
theorem dX11_person_15 : decode cX11_person 15 = .ok (.iload_n 3, 1) := by decide +kernel
theorem dX11_person_16 : decode cX11_person 16 = .ok (.invokevirtual 109, 3) := by decide +kernel
theorem dX11_person_19 : decode cX11_person 19 = .ok (.ireturn, 1) := by decide +kernel
theorem dX11_person_20 : decode cX11_person 20 = .ok (.aload_n 0, 1) := by decide +kernel
theorem dX11_person_21 : decode cX11_person 21 = .ok (.getfield 10, 3) := by decide +kernel
theorem dX11_person_24 : decode cX11_person 24 = .ok (.getfield 113, 3) := by decide +kernel
theorem dX11_person_27 : decode cX11_person 27 = .ok (.invokevirtual 117, 3) := by decide +kernel
theorem dX11_person_30 : decode cX11_person 30 = .ok (.aload_n 0, 1) := by decide +kernel
theorem dX11_person_31 : decode cX11_person 31 = .ok (.iload_n 3, 1) := by decide +kernel
theorem dX11_person_32 : decode cX11_person 32 = .ok (.invokevirtual 122, 3) := by decide +kernel
theorem dX11_person_35 : decode cX11_person 35 = .ok (.ireturn, 1) := by decide +kernel
theorem dX11_of_0 : decode cX11_of 0 = .ok (.aload_n 0, 1) := by decide +kernel
theorem dX11_of_1 : decode cX11_of 1 = .ok (.getfield 10, 3) := by decide +kernel
theorem dX11_of_4 : decode cX11_of 4 = .ok (.iload_n 1, 1) := by decide +kernel
theorem dX11_of_5 : decode cX11_of 5 = .ok (.invokevirtual 125, 3) := by decide +kernel
theorem dX11_of_8 : decode cX11_of 8 = .ok (.ifCond .ne 5, 3) := by decide +kernel
theorem dX11_of_11 : decode cX11_of 11 = .ok (.iconst (-1), 1) := by decide +kernel
theorem dX11_of_12 : decode cX11_of 12 = .ok (.ireturn, 1) := by decide +kernel
theorem dX11_of_13 : decode cX11_of 13 = .ok (.iload_n 2, 1) := by decide +kernel
theorem dX11_of_14 : decode cX11_of 14 = .ok (.tableswitch 87 0 3 #[30, 40, 50, 60], 30) := by decide +kernel
theorem dX11_of_44 : decode cX11_of 44 = .ok (.aload_n 0, 1) := by decide +kernel
theorem dX11_of_45 : decode cX11_of 45 = .ok (.getfield 10, 3) := by decide +kernel
theorem dX11_of_48 : decode cX11_of 48 = .ok (.getfield 129, 3) := by decide +kernel
theorem dX11_of_51 : decode cX11_of 51 = .ok (.iload_n 1, 1) := by decide +kernel
theorem dX11_of_52 : decode cX11_of 52 = .ok (.iaload, 1) := by decide +kernel
theorem dX11_of_53 : decode cX11_of 53 = .ok (.ireturn, 1) := by decide +kernel
theorem dX11_of_54 : decode cX11_of 54 = .ok (.aload_n 0, 1) := by decide +kernel
theorem dX11_of_55 : decode cX11_of 55 = .ok (.getfield 10, 3) := by decide +kernel
theorem dX11_of_58 : decode cX11_of 58 = .ok (.getfield 132, 3) := by decide +kernel
theorem dX11_of_61 : decode cX11_of 61 = .ok (.iload_n 1, 1) := by decide +kernel
theorem dX11_of_62 : decode cX11_of 62 = .ok (.iaload, 1) := by decide +kernel
theorem dX11_of_63 : decode cX11_of 63 = .ok (.ireturn, 1) := by decide +kernel
theorem dX11_of_64 : decode cX11_of 64 = .ok (.aload_n 0, 1) := by decide +kernel
theorem dX11_of_65 : decode cX11_of 65 = .ok (.getfield 10, 3) := by decide +kernel
theorem dX11_of_68 : decode cX11_of 68 = .ok (.getfield 135, 3) := by decide +kernel
theorem dX11_of_71 : decode cX11_of 71 = .ok (.iload_n 1, 1) := by decide +kernel
theorem dX11_of_72 : decode cX11_of 72 = .ok (.iaload, 1) := by decide +kernel
theorem dX11_of_73 : decode cX11_of 73 = .ok (.ireturn, 1) := by decide +kernel
theorem dX11_of_74 : decode cX11_of 74 = .ok (.aload_n 0, 1) := by decide +kernel
theorem dX11_of_75 : decode cX11_of 75 = .ok (.getfield 39, 3) := by decide +kernel
theorem dX11_of_78 : decode cX11_of 78 = .ok (.aload_n 0, 1) := by decide +kernel
theorem dX11_of_79 : decode cX11_of 79 = .ok (.getfield 10, 3) := by decide +kernel
theorem dX11_of_82 : decode cX11_of 82 = .ok (.aload_n 0, 1) := by decide +kernel
theorem dX11_of_83 : decode cX11_of 83 = .ok (.getfield 10, 3) := by decide +kernel
theorem dX11_of_86 : decode cX11_of 86 = .ok (.invokevirtual 138, 3) := by decide +kernel
theorem dX11_of_89 : decode cX11_of 89 = .ok (.invokevirtual 142, 3) := by decide +kernel
theorem dX11_of_92 : decode cX11_of 92 = .ok (.aload_n 0, 1) := by decide +kernel
theorem dX11_of_93 : decode cX11_of 93 = .ok (.getfield 39, 3) := by decide +kernel
theorem dX11_of_96 : decode cX11_of 96 = .ok (.iload_n 1, 1) := by decide +kernel
theorem dX11_of_97 : decode cX11_of 97 = .ok (.invokevirtual 146, 3) := by decide +kernel
theorem dX11_of_100 : decode cX11_of 100 = .ok (.ireturn, 1) := by decide +kernel
theorem dX11_of_101 : decode cX11_of 101 = .ok (.iconst (-1), 1) := by decide +kernel
theorem dX11_of_102 : decode cX11_of 102 = .ok (.ireturn, 1) := by decide +kernel
theorem dX11_ticket_0 : decode cX11_ticket 0 = .ok (.aload_n 0, 1) := by decide +kernel
theorem dX11_ticket_1 : decode cX11_ticket 1 = .ok (.getfield 10, 3) := by decide +kernel
theorem dX11_ticket_4 : decode cX11_ticket 4 = .ok (.iload_n 1, 1) := by decide +kernel
theorem dX11_ticket_5 : decode cX11_ticket 5 = .ok (.iload_n 2, 1) := by decide +kernel
theorem dX11_ticket_6 : decode cX11_ticket 6 = .ok (.invokevirtual 149, 3) := by decide +kernel
theorem dX11_ticket_9 : decode cX11_ticket 9 = .ok (.istore_n 3, 1) := by decide +kernel
theorem dX11_ticket_10 : decode cX11_ticket 10 = .ok (.iload_n 3, 1) := by decide +kernel
theorem dX11_ticket_11 : decode cX11_ticket 11 = .ok (.ifCond .ge 9, 3) := by decide +kernel
theorem dX11_ticket_14 : decode cX11_ticket 14 = .ok (.aload_n 0, 1) := by decide +kernel
theorem dX11_ticket_15 : decode cX11_ticket 15 = .ok (.iload_n 3, 1) := by decide +kernel
theorem dX11_ticket_16 : decode cX11_ticket 16 = .ok (.invokevirtual 109, 3) := by decide +kernel
theorem dX11_ticket_19 : decode cX11_ticket 19 = .ok (.ireturn, 1) := by decide +kernel
theorem dX11_ticket_20 : decode cX11_ticket 20 = .ok (.aload_n 0, 1) := by decide +kernel
theorem dX11_ticket_21 : decode cX11_ticket 21 = .ok (.getfield 10, 3) := by decide +kernel
theorem dX11_ticket_24 : decode cX11_ticket 24 = .ok (.getfield 113, 3) := by decide +kernel
theorem dX11_ticket_27 : decode cX11_ticket 27 = .ok (.invokevirtual 117, 3) := by decide +kernel
theorem dX11_ticket_30 : decode cX11_ticket 30 = .ok (.aload_n 0, 1) := by decide +kernel
theorem dX11_ticket_31 : decode cX11_ticket 31 = .ok (.iload_n 3, 1) := by decide +kernel
theorem dX11_ticket_32 : decode cX11_ticket 32 = .ok (.invokevirtual 122, 3) := by decide +kernel
theorem dX11_ticket_35 : decode cX11_ticket 35 = .ok (.ireturn, 1) := by decide +kernel
theorem dX11_at_0 : decode cX11_at 0 = .ok (.aload_n 0, 1) := by decide +kernel
theorem dX11_at_1 : decode cX11_at 1 = .ok (.getfield 10, 3) := by decide +kernel
theorem dX11_at_4 : decode cX11_at 4 = .ok (.iload_n 1, 1) := by decide +kernel
theorem dX11_at_5 : decode cX11_at 5 = .ok (.invokevirtual 152, 3) := by decide +kernel
theorem dX11_at_8 : decode cX11_at 8 = .ok (.ifCond .ne 5, 3) := by decide +kernel
theorem dX11_at_11 : decode cX11_at 11 = .ok (.iconst (-1), 1) := by decide +kernel
theorem dX11_at_12 : decode cX11_at 12 = .ok (.ireturn, 1) := by decide +kernel
theorem dX11_at_13 : decode cX11_at 13 = .ok (.iload_n 2, 1) := by decide +kernel
theorem dX11_at_14 : decode cX11_at 14 = .ok (.tableswitch 56 0 2 #[26, 36, 46], 26) := by decide +kernel
theorem dX11_at_40 : decode cX11_at 40 = .ok (.aload_n 0, 1) := by decide +kernel
theorem dX11_at_41 : decode cX11_at 41 = .ok (.getfield 10, 3) := by decide +kernel
theorem dX11_at_44 : decode cX11_at 44 = .ok (.getfield 155, 3) := by decide +kernel
theorem dX11_at_47 : decode cX11_at 47 = .ok (.iload_n 1, 1) := by decide +kernel
theorem dX11_at_48 : decode cX11_at 48 = .ok (.iaload, 1) := by decide +kernel
theorem dX11_at_49 : decode cX11_at 49 = .ok (.ireturn, 1) := by decide +kernel
theorem dX11_at_50 : decode cX11_at 50 = .ok (.aload_n 0, 1) := by decide +kernel
theorem dX11_at_51 : decode cX11_at 51 = .ok (.getfield 10, 3) := by decide +kernel
theorem dX11_at_54 : decode cX11_at 54 = .ok (.getfield 158, 3) := by decide +kernel
theorem dX11_at_57 : decode cX11_at 57 = .ok (.iload_n 1, 1) := by decide +kernel
theorem dX11_at_58 : decode cX11_at 58 = .ok (.iaload, 1) := by decide +kernel
theorem dX11_at_59 : decode cX11_at 59 = .ok (.ireturn, 1) := by decide +kernel
theorem dX11_at_60 : decode cX11_at 60 = .ok (.aload_n 0, 1) := by decide +kernel
theorem dX11_at_61 : decode cX11_at 61 = .ok (.getfield 10, 3) := by decide +kernel
theorem dX11_at_64 : decode cX11_at 64 = .ok (.getfield 161, 3) := by decide +kernel
theorem dX11_at_67 : decode cX11_at 67 = .ok (.iload_n 1, 1) := by decide +kernel
theorem dX11_at_68 : decode cX11_at 68 = .ok (.iaload, 1) := by decide +kernel
theorem dX11_at_69 : decode cX11_at 69 = .ok (.ireturn, 1) := by decide +kernel
theorem dX11_at_70 : decode cX11_at 70 = .ok (.iconst (-1), 1) := by decide +kernel
theorem dX11_at_71 : decode cX11_at 71 = .ok (.ireturn, 1) := by decide +kernel
theorem dX11_wish_0 : decode cX11_wish 0 = .ok (.iload_n 3, 1) := by decide +kernel
theorem dX11_wish_1 : decode cX11_wish 1 = .ok (.ifCond .lt 9, 3) := by decide +kernel
theorem dX11_wish_4 : decode cX11_wish 4 = .ok (.iload_n 3, 1) := by decide +kernel
theorem dX11_wish_5 : decode cX11_wish 5 = .ok (.bipush 9, 2) := by decide +kernel
theorem dX11_wish_7 : decode cX11_wish 7 = .ok (.if_icmp .le 9, 3) := by decide +kernel
theorem dX11_wish_10 : decode cX11_wish 10 = .ok (.aload_n 0, 1) := by decide +kernel
theorem dX11_wish_11 : decode cX11_wish 11 = .ok (.iconst (-1), 1) := by decide +kernel
theorem dX11_wish_12 : decode cX11_wish 12 = .ok (.invokevirtual 109, 3) := by decide +kernel
theorem dX11_wish_15 : decode cX11_wish 15 = .ok (.ireturn, 1) := by decide +kernel
theorem dX11_wish_16 : decode cX11_wish 16 = .ok (.aload_n 0, 1) := by decide +kernel
theorem dX11_wish_17 : decode cX11_wish 17 = .ok (.getfield 10, 3) := by decide +kernel
theorem dX11_wish_20 : decode cX11_wish 20 = .ok (.iload_n 1, 1) := by decide +kernel
theorem dX11_wish_21 : decode cX11_wish 21 = .ok (.invokevirtual 125, 3) := by decide +kernel
theorem dX11_wish_24 : decode cX11_wish 24 = .ok (.ifCond .eq 14, 3) := by decide +kernel
theorem dX11_wish_27 : decode cX11_wish 27 = .ok (.aload_n 0, 1) := by decide +kernel
theorem dX11_wish_28 : decode cX11_wish 28 = .ok (.getfield 10, 3) := by decide +kernel
theorem dX11_wish_31 : decode cX11_wish 31 = .ok (.iload_n 2, 1) := by decide +kernel
theorem dX11_wish_32 : decode cX11_wish 32 = .ok (.invokevirtual 152, 3) := by decide +kernel
theorem dX11_wish_35 : decode cX11_wish 35 = .ok (.ifCond .ne 10, 3) := by decide +kernel
theorem dX11_wish_38 : decode cX11_wish 38 = .ok (.aload_n 0, 1) := by decide +kernel
theorem dX11_wish_39 : decode cX11_wish 39 = .ok (.bipush (-2), 2) := by decide +kernel
theorem dX11_wish_41 : decode cX11_wish 41 = .ok (.invokevirtual 109, 3) := by decide +kernel
theorem dX11_wish_44 : decode cX11_wish 44 = .ok (.ireturn, 1) := by decide +kernel
theorem dX11_wish_45 : decode cX11_wish 45 = .ok (.iload_n 1, 1) := by decide +kernel
theorem dX11_wish_46 : decode cX11_wish 46 = .ok (.bipush 8, 2) := by decide +kernel
theorem dX11_wish_48 : decode cX11_wish 48 = .ok (.imul, 1) := by decide +kernel
theorem dX11_wish_49 : decode cX11_wish 49 = .ok (.iload_n 2, 1) := by decide +kernel
theorem dX11_wish_50 : decode cX11_wish 50 = .ok (.iadd, 1) := by decide +kernel
theorem dX11_wish_51 : decode cX11_wish 51 = .ok (.istore 4, 2) := by decide +kernel
theorem dX11_wish_53 : decode cX11_wish 53 = .ok (.aload_n 0, 1) := by decide +kernel
theorem dX11_wish_54 : decode cX11_wish 54 = .ok (.getfield 10, 3) := by decide +kernel
theorem dX11_wish_57 : decode cX11_wish 57 = .ok (.getfield 164, 3) := by decide +kernel
theorem dX11_wish_60 : decode cX11_wish 60 = .ok (.iload 4, 2) := by decide +kernel
theorem dX11_wish_62 : decode cX11_wish 62 = .ok (.iaload, 1) := by decide +kernel
theorem dX11_wish_63 : decode cX11_wish 63 = .ok (.istore 5, 2) := by decide +kernel
theorem dX11_wish_65 : decode cX11_wish 65 = .ok (.aload_n 0, 1) := by decide +kernel
theorem dX11_wish_66 : decode cX11_wish 66 = .ok (.getfield 10, 3) := by decide +kernel
theorem dX11_wish_69 : decode cX11_wish 69 = .ok (.getfield 164, 3) := by decide +kernel
theorem dX11_wish_72 : decode cX11_wish 72 = .ok (.iload 4, 2) := by decide +kernel
theorem dX11_wish_74 : decode cX11_wish 74 = .ok (.iload_n 3, 1) := by decide +kernel
theorem dX11_wish_75 : decode cX11_wish 75 = .ok (.iastore, 1) := by decide +kernel
theorem dX11_wish_76 : decode cX11_wish 76 = .ok (.aload_n 0, 1) := by decide +kernel
theorem dX11_wish_77 : decode cX11_wish 77 = .ok (.iload 5, 2) := by decide +kernel
theorem dX11_wish_79 : decode cX11_wish 79 = .ok (.invokevirtual 122, 3) := by decide +kernel
theorem dX11_wish_82 : decode cX11_wish 82 = .ok (.ireturn, 1) := by decide +kernel
theorem dX11_desk_0 : decode cX11_desk 0 = .ok (.aload_n 0, 1) := by decide +kernel
theorem dX11_desk_1 : decode cX11_desk 1 = .ok (.getfield 10, 3) := by decide +kernel
theorem dX11_desk_4 : decode cX11_desk 4 = .ok (.iload_n 1, 1) := by decide +kernel
theorem dX11_desk_5 : decode cX11_desk 5 = .ok (.iload_n 2, 1) := by decide +kernel
theorem dX11_desk_6 : decode cX11_desk 6 = .ok (.invokevirtual 167, 3) := by decide +kernel
theorem dX11_desk_9 : decode cX11_desk 9 = .ok (.istore_n 3, 1) := by decide +kernel
theorem dX11_desk_10 : decode cX11_desk 10 = .ok (.iload_n 3, 1) := by decide +kernel
theorem dX11_desk_11 : decode cX11_desk 11 = .ok (.ifCond .ge 11, 3) := by decide +kernel
theorem dX11_desk_14 : decode cX11_desk 14 = .ok (.aload_n 0, 1) := by decide +kernel
theorem dX11_desk_15 : decode cX11_desk 15 = .ok (.iload_n 3, 1) := by decide +kernel
theorem dX11_desk_16 : decode cX11_desk 16 = .ok (.invokevirtual 109, 3) := by decide +kernel
theorem dX11_desk_19 : decode cX11_desk 19 = .ok (.goto 8, 3) := by decide +kernel
theorem dX11_desk_22 : decode cX11_desk 22 = .ok (.aload_n 0, 1) := by decide +kernel
theorem dX11_desk_23 : decode cX11_desk 23 = .ok (.iload_n 3, 1) := by decide +kernel
theorem dX11_desk_24 : decode cX11_desk 24 = .ok (.invokevirtual 122, 3) := by decide +kernel
theorem dX11_desk_27 : decode cX11_desk 27 = .ok (.ireturn, 1) := by decide +kernel
theorem dX11_asks_0 : decode cX11_asks 0 = .ok (.aload_n 0, 1) := by decide +kernel
theorem dX11_asks_1 : decode cX11_asks 1 = .ok (.getfield 10, 3) := by decide +kernel
theorem dX11_asks_4 : decode cX11_asks 4 = .ok (.iload_n 1, 1) := by decide +kernel
theorem dX11_asks_5 : decode cX11_asks 5 = .ok (.invokevirtual 125, 3) := by decide +kernel
theorem dX11_asks_8 : decode cX11_asks 8 = .ok (.ifCond .eq 18, 3) := by decide +kernel
theorem dX11_asks_11 : decode cX11_asks 11 = .ok (.aload_n 0, 1) := by decide +kernel
theorem dX11_asks_12 : decode cX11_asks 12 = .ok (.getfield 10, 3) := by decide +kernel
theorem dX11_asks_15 : decode cX11_asks 15 = .ok (.iload_n 2, 1) := by decide +kernel
theorem dX11_asks_16 : decode cX11_asks 16 = .ok (.invokevirtual 152, 3) := by decide +kernel
theorem dX11_asks_19 : decode cX11_asks 19 = .ok (.ifCond .eq 7, 3) := by decide +kernel
theorem dX11_asks_22 : decode cX11_asks 22 = .ok (.iload_n 3, 1) := by decide +kernel
theorem dX11_asks_23 : decode cX11_asks 23 = .ok (.ifCond .ge 5, 3) := by decide +kernel
theorem dX11_asks_26 : decode cX11_asks 26 = .ok (.iconst (-1), 1) := by decide +kernel
theorem dX11_asks_27 : decode cX11_asks 27 = .ok (.ireturn, 1) := by decide +kernel
theorem dX11_asks_28 : decode cX11_asks 28 = .ok (.aload_n 0, 1) := by decide +kernel
theorem dX11_asks_29 : decode cX11_asks 29 = .ok (.getfield 39, 3) := by decide +kernel
theorem dX11_asks_32 : decode cX11_asks 32 = .ok (.aload_n 0, 1) := by decide +kernel
theorem dX11_asks_33 : decode cX11_asks 33 = .ok (.getfield 10, 3) := by decide +kernel
theorem dX11_asks_36 : decode cX11_asks 36 = .ok (.aload_n 0, 1) := by decide +kernel
theorem dX11_asks_37 : decode cX11_asks 37 = .ok (.getfield 10, 3) := by decide +kernel
theorem dX11_asks_40 : decode cX11_asks 40 = .ok (.invokevirtual 138, 3) := by decide +kernel
theorem dX11_asks_43 : decode cX11_asks 43 = .ok (.invokevirtual 142, 3) := by decide +kernel
theorem dX11_asks_46 : decode cX11_asks 46 = .ok (.iload_n 3, 1) := by decide +kernel
theorem dX11_asks_47 : decode cX11_asks 47 = .ok (.tableswitch 76 0 2 #[25, 40, 58], 25) := by decide +kernel
theorem dX11_asks_72 : decode cX11_asks 72 = .ok (.aload_n 0, 1) := by decide +kernel
theorem dX11_asks_73 : decode cX11_asks 73 = .ok (.getfield 10, 3) := by decide +kernel
theorem dX11_asks_76 : decode cX11_asks 76 = .ok (.getfield 164, 3) := by decide +kernel
theorem dX11_asks_79 : decode cX11_asks 79 = .ok (.iload_n 1, 1) := by decide +kernel
theorem dX11_asks_80 : decode cX11_asks 80 = .ok (.bipush 8, 2) := by decide +kernel
theorem dX11_asks_82 : decode cX11_asks 82 = .ok (.imul, 1) := by decide +kernel
theorem dX11_asks_83 : decode cX11_asks 83 = .ok (.iload_n 2, 1) := by decide +kernel
theorem dX11_asks_84 : decode cX11_asks 84 = .ok (.iadd, 1) := by decide +kernel
theorem dX11_asks_85 : decode cX11_asks 85 = .ok (.iaload, 1) := by decide +kernel
theorem dX11_asks_86 : decode cX11_asks 86 = .ok (.ireturn, 1) := by decide +kernel
theorem dX11_asks_87 : decode cX11_asks 87 = .ok (.aload_n 0, 1) := by decide +kernel
theorem dX11_asks_88 : decode cX11_asks 88 = .ok (.getfield 39, 3) := by decide +kernel
theorem dX11_asks_91 : decode cX11_asks 91 = .ok (.iload_n 1, 1) := by decide +kernel
theorem dX11_asks_92 : decode cX11_asks 92 = .ok (.iload_n 2, 1) := by decide +kernel
theorem dX11_asks_93 : decode cX11_asks 93 = .ok (.invokevirtual 170, 3) := by decide +kernel
theorem dX11_asks_96 : decode cX11_asks 96 = .ok (.ifCond .eq 7, 3) := by decide +kernel
theorem dX11_asks_99 : decode cX11_asks 99 = .ok (.iconst 1, 1) := by decide +kernel
theorem dX11_asks_100 : decode cX11_asks 100 = .ok (.goto 4, 3) := by decide +kernel
theorem dX11_asks_103 : decode cX11_asks 103 = .ok (.iconst 0, 1) := by decide +kernel
theorem dX11_asks_104 : decode cX11_asks 104 = .ok (.ireturn, 1) := by decide +kernel
theorem dX11_asks_105 : decode cX11_asks 105 = .ok (.aload_n 0, 1) := by decide +kernel
theorem dX11_asks_106 : decode cX11_asks 106 = .ok (.getfield 39, 3) := by decide +kernel
theorem dX11_asks_109 : decode cX11_asks 109 = .ok (.iload_n 1, 1) := by decide +kernel
theorem dX11_asks_110 : decode cX11_asks 110 = .ok (.iload_n 2, 1) := by decide +kernel
theorem dX11_asks_111 : decode cX11_asks 111 = .ok (.invokevirtual 174, 3) := by decide +kernel
theorem dX11_asks_114 : decode cX11_asks 114 = .ok (.ifCond .eq 7, 3) := by decide +kernel
theorem dX11_asks_117 : decode cX11_asks 117 = .ok (.iconst 1, 1) := by decide +kernel
theorem dX11_asks_118 : decode cX11_asks 118 = .ok (.goto 4, 3) := by decide +kernel
theorem dX11_asks_121 : decode cX11_asks 121 = .ok (.iconst 0, 1) := by decide +kernel
theorem dX11_asks_122 : decode cX11_asks 122 = .ok (.ireturn, 1) := by decide +kernel
theorem dX11_asks_123 : decode cX11_asks 123 = .ok (.iload_n 3, 1) := by decide +kernel
theorem dX11_asks_124 : decode cX11_asks 124 = .ok (.iconst 3, 1) := by decide +kernel
theorem dX11_asks_125 : decode cX11_asks 125 = .ok (.isub, 1) := by decide +kernel
theorem dX11_asks_126 : decode cX11_asks 126 = .ok (.aload_n 0, 1) := by decide +kernel
theorem dX11_asks_127 : decode cX11_asks 127 = .ok (.getfield 10, 3) := by decide +kernel
theorem dX11_asks_130 : decode cX11_asks 130 = .ok (.getfield 177, 3) := by decide +kernel
theorem dX11_asks_133 : decode cX11_asks 133 = .ok (.if_icmp .ge 18, 3) := by decide +kernel
theorem dX11_asks_136 : decode cX11_asks 136 = .ok (.aload_n 0, 1) := by decide +kernel
theorem dX11_asks_137 : decode cX11_asks 137 = .ok (.getfield 39, 3) := by decide +kernel
theorem dX11_asks_140 : decode cX11_asks 140 = .ok (.iload_n 1, 1) := by decide +kernel
theorem dX11_asks_141 : decode cX11_asks 141 = .ok (.iload_n 2, 1) := by decide +kernel
theorem dX11_asks_142 : decode cX11_asks 142 = .ok (.iload_n 3, 1) := by decide +kernel
theorem dX11_asks_143 : decode cX11_asks 143 = .ok (.iconst 3, 1) := by decide +kernel
theorem dX11_asks_144 : decode cX11_asks 144 = .ok (.isub, 1) := by decide +kernel
theorem dX11_asks_145 : decode cX11_asks 145 = .ok (.invokevirtual 180, 3) := by decide +kernel
theorem dX11_asks_148 : decode cX11_asks 148 = .ok (.goto 4, 3) := by decide +kernel
theorem dX11_asks_151 : decode cX11_asks 151 = .ok (.iconst (-1), 1) := by decide +kernel
theorem dX11_asks_152 : decode cX11_asks 152 = .ok (.ireturn, 1) := by decide +kernel
theorem dX11_terms_0 : decode cX11_terms 0 = .ok (.iload_n 1, 1) := by decide +kernel
theorem dX11_terms_1 : decode cX11_terms 1 = .ok (.ifCond .lt 20, 3) := by decide +kernel
theorem dX11_terms_4 : decode cX11_terms 4 = .ok (.iload_n 1, 1) := by decide +kernel
theorem dX11_terms_5 : decode cX11_terms 5 = .ok (.iconst 2, 1) := by decide +kernel
theorem dX11_terms_6 : decode cX11_terms 6 = .ok (.if_icmp .gt 15, 3) := by decide +kernel
theorem dX11_terms_9 : decode cX11_terms 9 = .ok (.iload_n 2, 1) := by decide +kernel
theorem dX11_terms_10 : decode cX11_terms 10 = .ok (.ifCond .lt 11, 3) := by decide +kernel
theorem dX11_terms_13 : decode cX11_terms 13 = .ok (.iload_n 2, 1) := by decide +kernel
theorem dX11_terms_14 : decode cX11_terms 14 = .ok (.iload_n 1, 1) := by decide +kernel
theorem dX11_terms_15 : decode cX11_terms 15 = .ok (.invokestatic 184, 3) := by decide +kernel
theorem dX11_terms_18 : decode cX11_terms 18 = .ok (.if_icmp .le 9, 3) := by decide +kernel
theorem dX11_terms_21 : decode cX11_terms 21 = .ok (.aload_n 0, 1) := by decide +kernel
theorem dX11_terms_22 : decode cX11_terms 22 = .ok (.iconst (-1), 1) := by decide +kernel
theorem dX11_terms_23 : decode cX11_terms 23 = .ok (.invokevirtual 109, 3) := by decide +kernel
theorem dX11_terms_26 : decode cX11_terms 26 = .ok (.ireturn, 1) := by decide +kernel
theorem dX11_terms_27 : decode cX11_terms 27 = .ok (.aload_n 0, 1) := by decide +kernel
theorem dX11_terms_28 : decode cX11_terms 28 = .ok (.getfield 10, 3) := by decide +kernel
theorem dX11_terms_31 : decode cX11_terms 31 = .ok (.getfield 187, 3) := by decide +kernel
theorem dX11_terms_34 : decode cX11_terms 34 = .ok (.iload_n 1, 1) := by decide +kernel
theorem dX11_terms_35 : decode cX11_terms 35 = .ok (.iaload, 1) := by decide +kernel
theorem dX11_terms_36 : decode cX11_terms 36 = .ok (.istore_n 3, 1) := by decide +kernel
theorem dX11_terms_37 : decode cX11_terms 37 = .ok (.aload_n 0, 1) := by decide +kernel
theorem dX11_terms_38 : decode cX11_terms 38 = .ok (.getfield 10, 3) := by decide +kernel
theorem dX11_terms_41 : decode cX11_terms 41 = .ok (.getfield 187, 3) := by decide +kernel
theorem dX11_terms_44 : decode cX11_terms 44 = .ok (.iload_n 1, 1) := by decide +kernel
theorem dX11_terms_45 : decode cX11_terms 45 = .ok (.iload_n 2, 1) := by decide +kernel
theorem dX11_terms_46 : decode cX11_terms 46 = .ok (.iastore, 1) := by decide +kernel
theorem dX11_terms_47 : decode cX11_terms 47 = .ok (.aload_n 0, 1) := by decide +kernel
theorem dX11_terms_48 : decode cX11_terms 48 = .ok (.getfield 10, 3) := by decide +kernel
theorem dX11_terms_51 : decode cX11_terms 51 = .ok (.getfield 113, 3) := by decide +kernel
theorem dX11_terms_54 : decode cX11_terms 54 = .ok (.invokevirtual 117, 3) := by decide +kernel
theorem dX11_terms_57 : decode cX11_terms 57 = .ok (.aload_n 0, 1) := by decide +kernel
theorem dX11_terms_58 : decode cX11_terms 58 = .ok (.iload_n 3, 1) := by decide +kernel
theorem dX11_terms_59 : decode cX11_terms 59 = .ok (.invokevirtual 122, 3) := by decide +kernel
theorem dX11_terms_62 : decode cX11_terms 62 = .ok (.ireturn, 1) := by decide +kernel
theorem dX11_feed_0 : decode cX11_feed 0 = .ok (.aload_n 0, 1) := by decide +kernel
theorem dX11_feed_1 : decode cX11_feed 1 = .ok (.getfield 30, 3) := by decide +kernel
theorem dX11_feed_4 : decode cX11_feed 4 = .ok (.getfield 190, 3) := by decide +kernel
theorem dX11_feed_7 : decode cX11_feed 7 = .ok (.bipush 20, 2) := by decide +kernel
theorem dX11_feed_9 : decode cX11_feed 9 = .ok (.iadd, 1) := by decide +kernel
theorem dX11_feed_10 : decode cX11_feed 10 = .ok (.sipush 400, 3) := by decide +kernel
theorem dX11_feed_13 : decode cX11_feed 13 = .ok (.if_icmp .le 5, 3) := by decide +kernel
theorem dX11_feed_16 : decode cX11_feed 16 = .ok (.iconst (-1), 1) := by decide +kernel
theorem dX11_feed_17 : decode cX11_feed 17 = .ok (.ireturn, 1) := by decide +kernel
theorem dX11_feed_18 : decode cX11_feed 18 = .ok (.aload_n 0, 1) := by decide +kernel
theorem dX11_feed_19 : decode cX11_feed 19 = .ok (.getfield 30, 3) := by decide +kernel
theorem dX11_feed_22 : decode cX11_feed 22 = .ok (.iload_n 1, 1) := by decide +kernel
theorem dX11_feed_23 : decode cX11_feed 23 = .ok (.invokevirtual 193, 3) := by decide +kernel
theorem dX11_feed_26 : decode cX11_feed 26 = .ok (.aload_n 0, 1) := by decide +kernel
theorem dX11_feed_27 : decode cX11_feed 27 = .ok (.getfield 30, 3) := by decide +kernel
theorem dX11_feed_30 : decode cX11_feed 30 = .ok (.iload_n 2, 1) := by decide +kernel
theorem dX11_feed_31 : decode cX11_feed 31 = .ok (.invokevirtual 193, 3) := by decide +kernel
theorem dX11_feed_34 : decode cX11_feed 34 = .ok (.aload_n 0, 1) := by decide +kernel
theorem dX11_feed_35 : decode cX11_feed 35 = .ok (.getfield 30, 3) := by decide +kernel
theorem dX11_feed_38 : decode cX11_feed 38 = .ok (.iload_n 3, 1) := by decide +kernel
theorem dX11_feed_39 : decode cX11_feed 39 = .ok (.invokevirtual 193, 3) := by decide +kernel
theorem dX11_feed_42 : decode cX11_feed 42 = .ok (.aload_n 0, 1) := by decide +kernel
theorem dX11_feed_43 : decode cX11_feed 43 = .ok (.getfield 30, 3) := by decide +kernel
theorem dX11_feed_46 : decode cX11_feed 46 = .ok (.iload 4, 2) := by decide +kernel
theorem dX11_feed_48 : decode cX11_feed 48 = .ok (.invokevirtual 193, 3) := by decide +kernel
theorem dX11_feed_51 : decode cX11_feed 51 = .ok (.aload_n 0, 1) := by decide +kernel
theorem dX11_feed_52 : decode cX11_feed 52 = .ok (.getfield 30, 3) := by decide +kernel
theorem dX11_feed_55 : decode cX11_feed 55 = .ok (.iload 5, 2) := by decide +kernel
theorem dX11_feed_57 : decode cX11_feed 57 = .ok (.invokevirtual 193, 3) := by decide +kernel
theorem dX11_feed_60 : decode cX11_feed 60 = .ok (.aload_n 0, 1) := by decide +kernel
theorem dX11_feed_61 : decode cX11_feed 61 = .ok (.getfield 30, 3) := by decide +kernel
theorem dX11_feed_64 : decode cX11_feed 64 = .ok (.getfield 190, 3) := by decide +kernel
theorem dX11_feed_67 : decode cX11_feed 67 = .ok (.ireturn, 1) := by decide +kernel
theorem dX11_end_0 : decode cX11_end 0 = .ok (.iload_n 1, 1) := by decide +kernel
theorem dX11_end_1 : decode cX11_end 1 = .ok (.ifCond .lt 14, 3) := by decide +kernel
theorem dX11_end_4 : decode cX11_end 4 = .ok (.iload_n 1, 1) := by decide +kernel
theorem dX11_end_5 : decode cX11_end 5 = .ok (.aload_n 0, 1) := by decide +kernel
theorem dX11_end_6 : decode cX11_end 6 = .ok (.getfield 30, 3) := by decide +kernel
theorem dX11_end_9 : decode cX11_end 9 = .ok (.getfield 190, 3) := by decide +kernel
theorem dX11_end_12 : decode cX11_end 12 = .ok (.if_icmp .le 5, 3) := by decide +kernel
theorem dX11_end_15 : decode cX11_end 15 = .ok (.iconst (-1), 1) := by decide +kernel
theorem dX11_end_16 : decode cX11_end 16 = .ok (.ireturn, 1) := by decide +kernel
theorem dX11_end_17 : decode cX11_end 17 = .ok (.aload_n 0, 1) := by decide +kernel
theorem dX11_end_18 : decode cX11_end 18 = .ok (.getfield 30, 3) := by decide +kernel
theorem dX11_end_21 : decode cX11_end 21 = .ok (.iload_n 1, 1) := by decide +kernel
theorem dX11_end_22 : decode cX11_end 22 = .ok (.putfield 190, 3) := by decide +kernel
theorem dX11_end_25 : decode cX11_end 25 = .ok (.iload_n 1, 1) := by decide +kernel
theorem dX11_end_26 : decode cX11_end 26 = .ok (.ireturn, 1) := by decide +kernel
theorem dX11_row_0 : decode cX11_row 0 = .ok (.aload_n 0, 1) := by decide +kernel
theorem dX11_row_1 : decode cX11_row 1 = .ok (.getfield 30, 3) := by decide +kernel
theorem dX11_row_4 : decode cX11_row 4 = .ok (.getfield 190, 3) := by decide +kernel
theorem dX11_row_7 : decode cX11_row 7 = .ok (.istore_n 1, 1) := by decide +kernel
theorem dX11_row_8 : decode cX11_row 8 = .ok (.iload_n 1, 1) := by decide +kernel
theorem dX11_row_9 : decode cX11_row 9 = .ok (.ifCond .ne 10, 3) := by decide +kernel
theorem dX11_row_12 : decode cX11_row 12 = .ok (.aload_n 0, 1) := by decide +kernel
theorem dX11_row_13 : decode cX11_row 13 = .ok (.bipush (-6), 2) := by decide +kernel
theorem dX11_row_15 : decode cX11_row 15 = .ok (.invokevirtual 109, 3) := by decide +kernel
theorem dX11_row_18 : decode cX11_row 18 = .ok (.ireturn, 1) := by decide +kernel
theorem dX11_row_19 : decode cX11_row 19 = .ok (.iconst 0, 1) := by decide +kernel
theorem dX11_row_20 : decode cX11_row 20 = .ok (.istore_n 2, 1) := by decide +kernel
theorem dX11_row_21 : decode cX11_row 21 = .ok (.aload_n 0, 1) := by decide +kernel
theorem dX11_row_22 : decode cX11_row 22 = .ok (.iconst 0, 1) := by decide +kernel
theorem dX11_row_23 : decode cX11_row 23 = .ok (.putfield 197, 3) := by decide +kernel
theorem dX11_row_26 : decode cX11_row 26 = .ok (.iconst 0, 1) := by decide +kernel
theorem dX11_row_27 : decode cX11_row 27 = .ok (.istore_n 3, 1) := by decide +kernel
theorem dX11_row_28 : decode cX11_row 28 = .ok (.iload_n 3, 1) := by decide +kernel
theorem dX11_row_29 : decode cX11_row 29 = .ok (.iload_n 1, 1) := by decide +kernel
theorem dX11_row_30 : decode cX11_row 30 = .ok (.if_icmp .ge 60, 3) := by decide +kernel
theorem dX11_row_33 : decode cX11_row 33 = .ok (.iload_n 3, 1) := by decide +kernel
theorem dX11_row_34 : decode cX11_row 34 = .ok (.iconst 1, 1) := by decide +kernel
theorem dX11_row_35 : decode cX11_row 35 = .ok (.iadd, 1) := by decide +kernel
theorem dX11_row_36 : decode cX11_row 36 = .ok (.iload_n 1, 1) := by decide +kernel
theorem dX11_row_37 : decode cX11_row 37 = .ok (.if_icmp .ge 37, 3) := by decide +kernel
theorem dX11_row_40 : decode cX11_row 40 = .ok (.aload_n 0, 1) := by decide +kernel
theorem dX11_row_41 : decode cX11_row 41 = .ok (.getfield 10, 3) := by decide +kernel
theorem dX11_row_44 : decode cX11_row 44 = .ok (.aload_n 0, 1) := by decide +kernel
theorem dX11_row_45 : decode cX11_row 45 = .ok (.getfield 30, 3) := by decide +kernel
theorem dX11_row_48 : decode cX11_row 48 = .ok (.iload_n 3, 1) := by decide +kernel
theorem dX11_row_49 : decode cX11_row 49 = .ok (.invokevirtual 200, 3) := by decide +kernel
theorem dX11_row_52 : decode cX11_row 52 = .ok (.aload_n 0, 1) := by decide +kernel
theorem dX11_row_53 : decode cX11_row 53 = .ok (.getfield 30, 3) := by decide +kernel
theorem dX11_row_56 : decode cX11_row 56 = .ok (.iload_n 3, 1) := by decide +kernel
theorem dX11_row_57 : decode cX11_row 57 = .ok (.iconst 1, 1) := by decide +kernel
theorem dX11_row_58 : decode cX11_row 58 = .ok (.iadd, 1) := by decide +kernel
theorem dX11_row_59 : decode cX11_row 59 = .ok (.invokevirtual 200, 3) := by decide +kernel
theorem dX11_row_62 : decode cX11_row 62 = .ok (.invokevirtual 149, 3) := by decide +kernel
theorem dX11_row_65 : decode cX11_row 65 = .ok (.ifCond .lt 9, 3) := by decide +kernel
theorem dX11_row_68 : decode cX11_row 68 = .ok (.iinc 2 1, 3) := by decide +kernel
theorem dX11_row_71 : decode cX11_row 71 = .ok (.goto 13, 3) := by decide +kernel
theorem dX11_row_74 : decode cX11_row 74 = .ok (.aload_n 0, 1) := by decide +kernel
theorem dX11_row_75 : decode cX11_row 75 = .ok (.dup, 1) := by decide +kernel
theorem dX11_row_76 : decode cX11_row 76 = .ok (.getfield 197, 3) := by decide +kernel
theorem dX11_row_79 : decode cX11_row 79 = .ok (.iconst 1, 1) := by decide +kernel
theorem dX11_row_80 : decode cX11_row 80 = .ok (.iadd, 1) := by decide +kernel
theorem dX11_row_81 : decode cX11_row 81 = .ok (.putfield 197, 3) := by decide +kernel
theorem dX11_row_84 : decode cX11_row 84 = .ok (.iinc 3 2, 3) := by decide +kernel
theorem dX11_row_87 : decode cX11_row 87 = .ok (.goto (-59), 3) := by decide +kernel
theorem dX11_row_90 : decode cX11_row 90 = .ok (.aload_n 0, 1) := by decide +kernel
theorem dX11_row_91 : decode cX11_row 91 = .ok (.getfield 30, 3) := by decide +kernel
theorem dX11_row_94 : decode cX11_row 94 = .ok (.iconst 0, 1) := by decide +kernel
theorem dX11_row_95 : decode cX11_row 95 = .ok (.putfield 190, 3) := by decide +kernel
theorem dX11_row_98 : decode cX11_row 98 = .ok (.aload_n 0, 1) := by decide +kernel
theorem dX11_row_99 : decode cX11_row 99 = .ok (.getfield 10, 3) := by decide +kernel
theorem dX11_row_102 : decode cX11_row 102 = .ok (.getfield 113, 3) := by decide +kernel
theorem dX11_row_105 : decode cX11_row 105 = .ok (.invokevirtual 117, 3) := by decide +kernel
theorem dX11_row_108 : decode cX11_row 108 = .ok (.aload_n 0, 1) := by decide +kernel
theorem dX11_row_109 : decode cX11_row 109 = .ok (.iload_n 2, 1) := by decide +kernel
theorem dX11_row_110 : decode cX11_row 110 = .ok (.invokevirtual 122, 3) := by decide +kernel
theorem dX11_row_113 : decode cX11_row 113 = .ok (.ireturn, 1) := by decide +kernel
theorem dX11_scraps_0 : decode cX11_scraps 0 = .ok (.aload_n 0, 1) := by decide +kernel
theorem dX11_scraps_1 : decode cX11_scraps 1 = .ok (.getfield 197, 3) := by decide +kernel
theorem dX11_scraps_4 : decode cX11_scraps 4 = .ok (.ireturn, 1) := by decide +kernel
theorem dX11_law_0 : decode cX11_law 0 = .ok (.aload_n 0, 1) := by decide +kernel
theorem dX11_law_1 : decode cX11_law 1 = .ok (.getfield 10, 3) := by decide +kernel
theorem dX11_law_4 : decode cX11_law 4 = .ok (.getfield 203, 3) := by decide +kernel
theorem dX11_law_7 : decode cX11_law 7 = .ok (.bipush 6, 2) := by decide +kernel
theorem dX11_law_9 : decode cX11_law 9 = .ok (.if_icmp .lt 18, 3) := by decide +kernel
theorem dX11_law_12 : decode cX11_law 12 = .ok (.aload_n 0, 1) := by decide +kernel
theorem dX11_law_13 : decode cX11_law 13 = .ok (.getfield 30, 3) := by decide +kernel
theorem dX11_law_16 : decode cX11_law 16 = .ok (.iconst 0, 1) := by decide +kernel
theorem dX11_law_17 : decode cX11_law 17 = .ok (.putfield 190, 3) := by decide +kernel
theorem dX11_law_20 : decode cX11_law 20 = .ok (.aload_n 0, 1) := by decide +kernel
theorem dX11_law_21 : decode cX11_law 21 = .ok (.bipush (-5), 2) := by decide +kernel
theorem dX11_law_23 : decode cX11_law 23 = .ok (.invokevirtual 109, 3) := by decide +kernel
theorem dX11_law_26 : decode cX11_law 26 = .ok (.ireturn, 1) := by decide +kernel
theorem dX11_law_27 : decode cX11_law 27 = .ok (.aload_n 0, 1) := by decide +kernel
theorem dX11_law_28 : decode cX11_law 28 = .ok (.getfield 30, 3) := by decide +kernel
theorem dX11_law_31 : decode cX11_law 31 = .ok (.iconst 0, 1) := by decide +kernel
theorem dX11_law_32 : decode cX11_law 32 = .ok (.invokevirtual 206, 3) := by decide +kernel
theorem dX11_law_35 : decode cX11_law 35 = .ok (.ifCond .ne 10, 3) := by decide +kernel
theorem dX11_law_38 : decode cX11_law 38 = .ok (.aload_n 0, 1) := by decide +kernel
theorem dX11_law_39 : decode cX11_law 39 = .ok (.bipush (-6), 2) := by decide +kernel
theorem dX11_law_41 : decode cX11_law 41 = .ok (.invokevirtual 109, 3) := by decide +kernel
theorem dX11_law_44 : decode cX11_law 44 = .ok (.ireturn, 1) := by decide +kernel
theorem dX11_law_45 : decode cX11_law 45 = .ok (.aload_n 0, 1) := by decide +kernel
theorem dX11_law_46 : decode cX11_law 46 = .ok (.aload_n 0, 1) := by decide +kernel
theorem dX11_law_47 : decode cX11_law 47 = .ok (.getfield 10, 3) := by decide +kernel
theorem dX11_law_50 : decode cX11_law 50 = .ok (.new 210, 3) := by decide +kernel
theorem dX11_law_53 : decode cX11_law 53 = .ok (.dup, 1) := by decide +kernel
theorem dX11_law_54 : decode cX11_law 54 = .ok (.aload_n 0, 1) := by decide +kernel
theorem dX11_law_55 : decode cX11_law 55 = .ok (.getfield 30, 3) := by decide +kernel
theorem dX11_law_58 : decode cX11_law 58 = .ok (.getfield 212, 3) := by decide +kernel
theorem dX11_law_61 : decode cX11_law 61 = .ok (.invokespecial 216, 3) := by decide +kernel
theorem dX11_law_64 : decode cX11_law 64 = .ok (.invokevirtual 219, 3) := by decide +kernel
theorem dX11_law_67 : decode cX11_law 67 = .ok (.invokevirtual 122, 3) := by decide +kernel
theorem dX11_law_70 : decode cX11_law 70 = .ok (.ireturn, 1) := by decide +kernel
theorem dX11_orders_0 : decode cX11_orders 0 = .ok (.aload_n 0, 1) := by decide +kernel
theorem dX11_orders_1 : decode cX11_orders 1 = .ok (.iconst (-1), 1) := by decide +kernel
theorem dX11_orders_2 : decode cX11_orders 2 = .ok (.putfield 95, 3) := by decide +kernel
theorem dX11_orders_5 : decode cX11_orders 5 = .ok (.aload_n 0, 1) := by decide +kernel
theorem dX11_orders_6 : decode cX11_orders 6 = .ok (.getfield 30, 3) := by decide +kernel
theorem dX11_orders_9 : decode cX11_orders 9 = .ok (.iconst 1, 1) := by decide +kernel
theorem dX11_orders_10 : decode cX11_orders 10 = .ok (.invokevirtual 206, 3) := by decide +kernel
theorem dX11_orders_13 : decode cX11_orders 13 = .ok (.ifCond .ne 10, 3) := by decide +kernel
theorem dX11_orders_16 : decode cX11_orders 16 = .ok (.aload_n 0, 1) := by decide +kernel
theorem dX11_orders_17 : decode cX11_orders 17 = .ok (.bipush (-6), 2) := by decide +kernel
theorem dX11_orders_19 : decode cX11_orders 19 = .ok (.invokevirtual 109, 3) := by decide +kernel
theorem dX11_orders_22 : decode cX11_orders 22 = .ok (.ireturn, 1) := by decide +kernel
theorem dX11_orders_23 : decode cX11_orders 23 = .ok (.aload_n 0, 1) := by decide +kernel
theorem dX11_orders_24 : decode cX11_orders 24 = .ok (.getfield 16, 3) := by decide +kernel
theorem dX11_orders_27 : decode cX11_orders 27 = .ok (.aload_n 0, 1) := by decide +kernel
theorem dX11_orders_28 : decode cX11_orders 28 = .ok (.getfield 10, 3) := by decide +kernel
theorem dX11_orders_31 : decode cX11_orders 31 = .ok (.invokevirtual 223, 3) := by decide +kernel
theorem dX11_orders_34 : decode cX11_orders 34 = .ok (.aload_n 0, 1) := by decide +kernel
theorem dX11_orders_35 : decode cX11_orders 35 = .ok (.getfield 39, 3) := by decide +kernel
theorem dX11_orders_38 : decode cX11_orders 38 = .ok (.aload_n 0, 1) := by decide +kernel
theorem dX11_orders_39 : decode cX11_orders 39 = .ok (.getfield 10, 3) := by decide +kernel
theorem dX11_orders_42 : decode cX11_orders 42 = .ok (.aload_n 0, 1) := by decide +kernel
theorem dX11_orders_43 : decode cX11_orders 43 = .ok (.getfield 10, 3) := by decide +kernel
theorem dX11_orders_46 : decode cX11_orders 46 = .ok (.invokevirtual 138, 3) := by decide +kernel
theorem dX11_orders_49 : decode cX11_orders 49 = .ok (.invokevirtual 142, 3) := by decide +kernel
theorem dX11_orders_52 : decode cX11_orders 52 = .ok (.aload_n 0, 1) := by decide +kernel
theorem dX11_orders_53 : decode cX11_orders 53 = .ok (.aload_n 0, 1) := by decide +kernel
theorem dX11_orders_54 : decode cX11_orders 54 = .ok (.getfield 80, 3) := by decide +kernel
theorem dX11_orders_57 : decode cX11_orders 57 = .ok (.aload_n 0, 1) := by decide +kernel
theorem dX11_orders_58 : decode cX11_orders 58 = .ok (.getfield 10, 3) := by decide +kernel
theorem dX11_orders_61 : decode cX11_orders 61 = .ok (.aload_n 0, 1) := by decide +kernel
theorem dX11_orders_62 : decode cX11_orders 62 = .ok (.getfield 30, 3) := by decide +kernel
theorem dX11_orders_65 : decode cX11_orders 65 = .ok (.getfield 212, 3) := by decide +kernel
theorem dX11_orders_68 : decode cX11_orders 68 = .ok (.invokevirtual 226, 3) := by decide +kernel
theorem dX11_orders_71 : decode cX11_orders 71 = .ok (.putfield 95, 3) := by decide +kernel
theorem dX11_orders_74 : decode cX11_orders 74 = .ok (.aload_n 0, 1) := by decide +kernel
theorem dX11_orders_75 : decode cX11_orders 75 = .ok (.getfield 95, 3) := by decide +kernel
theorem dX11_orders_78 : decode cX11_orders 78 = .ok (.iconst (-1), 1) := by decide +kernel
theorem dX11_orders_79 : decode cX11_orders 79 = .ok (.if_icmp .eq 21, 3) := by decide +kernel
theorem dX11_orders_82 : decode cX11_orders 82 = .ok (.aload_n 0, 1) := by decide +kernel
theorem dX11_orders_83 : decode cX11_orders 83 = .ok (.getfield 10, 3) := by decide +kernel
theorem dX11_orders_86 : decode cX11_orders 86 = .ok (.aload_n 0, 1) := by decide +kernel
theorem dX11_orders_87 : decode cX11_orders 87 = .ok (.getfield 16, 3) := by decide +kernel
theorem dX11_orders_90 : decode cX11_orders 90 = .ok (.invokevirtual 223, 3) := by decide +kernel
theorem dX11_orders_93 : decode cX11_orders 93 = .ok (.aload_n 0, 1) := by decide +kernel
theorem dX11_orders_94 : decode cX11_orders 94 = .ok (.bipush (-3), 2) := by decide +kernel
theorem dX11_orders_96 : decode cX11_orders 96 = .ok (.invokevirtual 109, 3) := by decide +kernel
theorem dX11_orders_99 : decode cX11_orders 99 = .ok (.ireturn, 1) := by decide +kernel
theorem dX11_orders_100 : decode cX11_orders 100 = .ok (.aload_n 0, 1) := by decide +kernel
theorem dX11_orders_101 : decode cX11_orders 101 = .ok (.aload_n 0, 1) := by decide +kernel
theorem dX11_orders_102 : decode cX11_orders 102 = .ok (.getfield 80, 3) := by decide +kernel
theorem dX11_orders_105 : decode cX11_orders 105 = .ok (.getfield 230, 3) := by decide +kernel
theorem dX11_orders_108 : decode cX11_orders 108 = .ok (.invokevirtual 122, 3) := by decide +kernel
theorem dX11_orders_111 : decode cX11_orders 111 = .ok (.ireturn, 1) := by decide +kernel
theorem dX11_fault_0 : decode cX11_fault 0 = .ok (.aload_n 0, 1) := by decide +kernel
theorem dX11_fault_1 : decode cX11_fault 1 = .ok (.getfield 30, 3) := by decide +kernel
theorem dX11_fault_4 : decode cX11_fault 4 = .ok (.getfield 233, 3) := by decide +kernel
theorem dX11_fault_7 : decode cX11_fault 7 = .ok (.ireturn, 1) := by decide +kernel
theorem dX11_stopped_0 : decode cX11_stopped 0 = .ok (.aload_n 0, 1) := by decide +kernel
theorem dX11_stopped_1 : decode cX11_stopped 1 = .ok (.getfield 95, 3) := by decide +kernel
theorem dX11_stopped_4 : decode cX11_stopped 4 = .ok (.ireturn, 1) := by decide +kernel
theorem dX11_force_0 : decode cX11_force 0 = .ok (.iload_n 1, 1) := by decide +kernel
theorem dX11_force_1 : decode cX11_force 1 = .ok (.iconst (-1), 1) := by decide +kernel
theorem dX11_force_2 : decode cX11_force 2 = .ok (.if_icmp .eq 21, 3) := by decide +kernel
theorem dX11_force_5 : decode cX11_force 5 = .ok (.aload_n 0, 1) := by decide +kernel
theorem dX11_force_6 : decode cX11_force 6 = .ok (.getfield 10, 3) := by decide +kernel
theorem dX11_force_9 : decode cX11_force 9 = .ok (.iload_n 1, 1) := by decide +kernel
theorem dX11_force_10 : decode cX11_force 10 = .ok (.invokevirtual 236, 3) := by decide +kernel
theorem dX11_force_13 : decode cX11_force 13 = .ok (.ifCond .ne 10, 3) := by decide +kernel
theorem dX11_force_16 : decode cX11_force 16 = .ok (.aload_n 0, 1) := by decide +kernel
theorem dX11_force_17 : decode cX11_force 17 = .ok (.bipush (-2), 2) := by decide +kernel
theorem dX11_force_19 : decode cX11_force 19 = .ok (.invokevirtual 109, 3) := by decide +kernel
theorem dX11_force_22 : decode cX11_force 22 = .ok (.ireturn, 1) := by decide +kernel
theorem dX11_force_23 : decode cX11_force 23 = .ok (.aload_n 0, 1) := by decide +kernel
theorem dX11_force_24 : decode cX11_force 24 = .ok (.getfield 10, 3) := by decide +kernel
theorem dX11_force_27 : decode cX11_force 27 = .ok (.getfield 239, 3) := by decide +kernel
theorem dX11_force_30 : decode cX11_force 30 = .ok (.istore_n 2, 1) := by decide +kernel
theorem dX11_force_31 : decode cX11_force 31 = .ok (.aload_n 0, 1) := by decide +kernel
theorem dX11_force_32 : decode cX11_force 32 = .ok (.getfield 10, 3) := by decide +kernel
theorem dX11_force_35 : decode cX11_force 35 = .ok (.iload_n 1, 1) := by decide +kernel
theorem dX11_force_36 : decode cX11_force 36 = .ok (.putfield 239, 3) := by decide +kernel
theorem dX11_force_39 : decode cX11_force 39 = .ok (.aload_n 0, 1) := by decide +kernel
theorem dX11_force_40 : decode cX11_force 40 = .ok (.iload_n 2, 1) := by decide +kernel
theorem dX11_force_41 : decode cX11_force 41 = .ok (.invokevirtual 122, 3) := by decide +kernel
theorem dX11_force_44 : decode cX11_force 44 = .ok (.ireturn, 1) := by decide +kernel
theorem dX11_draw_0 : decode cX11_draw 0 = .ok (.aload_n 0, 1) := by decide +kernel
theorem dX11_draw_1 : decode cX11_draw 1 = .ok (.getfield 39, 3) := by decide +kernel
theorem dX11_draw_4 : decode cX11_draw 4 = .ok (.aload_n 0, 1) := by decide +kernel
theorem dX11_draw_5 : decode cX11_draw 5 = .ok (.getfield 10, 3) := by decide +kernel
theorem dX11_draw_8 : decode cX11_draw 8 = .ok (.aload_n 0, 1) := by decide +kernel
theorem dX11_draw_9 : decode cX11_draw 9 = .ok (.getfield 10, 3) := by decide +kernel
theorem dX11_draw_12 : decode cX11_draw 12 = .ok (.invokevirtual 138, 3) := by decide +kernel
theorem dX11_draw_15 : decode cX11_draw 15 = .ok (.invokevirtual 142, 3) := by decide +kernel
theorem dX11_draw_18 : decode cX11_draw 18 = .ok (.aload_n 0, 1) := by decide +kernel
theorem dX11_draw_19 : decode cX11_draw 19 = .ok (.getfield 48, 3) := by decide +kernel
theorem dX11_draw_22 : decode cX11_draw 22 = .ok (.aload_n 0, 1) := by decide +kernel
theorem dX11_draw_23 : decode cX11_draw 23 = .ok (.getfield 10, 3) := by decide +kernel
theorem dX11_draw_26 : decode cX11_draw 26 = .ok (.iload_n 1, 1) := by decide +kernel
theorem dX11_draw_27 : decode cX11_draw 27 = .ok (.iload_n 2, 1) := by decide +kernel
theorem dX11_draw_28 : decode cX11_draw 28 = .ok (.invokevirtual 242, 3) := by decide +kernel
theorem dX11_draw_31 : decode cX11_draw 31 = .ok (.istore_n 3, 1) := by decide +kernel
theorem dX11_draw_32 : decode cX11_draw 32 = .ok (.iload_n 3, 1) := by decide +kernel
theorem dX11_draw_33 : decode cX11_draw 33 = .ok (.ifCond .ge 11, 3) := by decide +kernel
theorem dX11_draw_36 : decode cX11_draw 36 = .ok (.aload_n 0, 1) := by decide +kernel
theorem dX11_draw_37 : decode cX11_draw 37 = .ok (.iload_n 3, 1) := by decide +kernel
theorem dX11_draw_38 : decode cX11_draw 38 = .ok (.invokevirtual 109, 3) := by decide +kernel
theorem dX11_draw_41 : decode cX11_draw 41 = .ok (.goto 8, 3) := by decide +kernel
theorem dX11_draw_44 : decode cX11_draw 44 = .ok (.aload_n 0, 1) := by decide +kernel
theorem dX11_draw_45 : decode cX11_draw 45 = .ok (.iload_n 3, 1) := by decide +kernel
theorem dX11_draw_46 : decode cX11_draw 46 = .ok (.invokevirtual 122, 3) := by decide +kernel
theorem dX11_draw_49 : decode cX11_draw 49 = .ok (.ireturn, 1) := by decide +kernel
theorem dX11_swap_0 : decode cX11_swap 0 = .ok (.aload_n 0, 1) := by decide +kernel
theorem dX11_swap_1 : decode cX11_swap 1 = .ok (.getfield 39, 3) := by decide +kernel
theorem dX11_swap_4 : decode cX11_swap 4 = .ok (.aload_n 0, 1) := by decide +kernel
theorem dX11_swap_5 : decode cX11_swap 5 = .ok (.getfield 10, 3) := by decide +kernel
theorem dX11_swap_8 : decode cX11_swap 8 = .ok (.aload_n 0, 1) := by decide +kernel
theorem dX11_swap_9 : decode cX11_swap 9 = .ok (.getfield 10, 3) := by decide +kernel
theorem dX11_swap_12 : decode cX11_swap 12 = .ok (.invokevirtual 138, 3) := by decide +kernel
theorem dX11_swap_15 : decode cX11_swap 15 = .ok (.invokevirtual 142, 3) := by decide +kernel
theorem dX11_swap_18 : decode cX11_swap 18 = .ok (.aload_n 0, 1) := by decide +kernel
theorem dX11_swap_19 : decode cX11_swap 19 = .ok (.getfield 48, 3) := by decide +kernel
theorem dX11_swap_22 : decode cX11_swap 22 = .ok (.aload_n 0, 1) := by decide +kernel
theorem dX11_swap_23 : decode cX11_swap 23 = .ok (.getfield 10, 3) := by decide +kernel
theorem dX11_swap_26 : decode cX11_swap 26 = .ok (.iload_n 1, 1) := by decide +kernel
theorem dX11_swap_27 : decode cX11_swap 27 = .ok (.iload_n 2, 1) := by decide +kernel
theorem dX11_swap_28 : decode cX11_swap 28 = .ok (.invokevirtual 246, 3) := by decide +kernel
theorem dX11_swap_31 : decode cX11_swap 31 = .ok (.istore_n 3, 1) := by decide +kernel
theorem dX11_swap_32 : decode cX11_swap 32 = .ok (.iload_n 3, 1) := by decide +kernel
theorem dX11_swap_33 : decode cX11_swap 33 = .ok (.ifCond .ge 11, 3) := by decide +kernel
theorem dX11_swap_36 : decode cX11_swap 36 = .ok (.aload_n 0, 1) := by decide +kernel
theorem dX11_swap_37 : decode cX11_swap 37 = .ok (.iload_n 3, 1) := by decide +kernel
theorem dX11_swap_38 : decode cX11_swap 38 = .ok (.invokevirtual 109, 3) := by decide +kernel
theorem dX11_swap_41 : decode cX11_swap 41 = .ok (.goto 8, 3) := by decide +kernel
theorem dX11_swap_44 : decode cX11_swap 44 = .ok (.aload_n 0, 1) := by decide +kernel
theorem dX11_swap_45 : decode cX11_swap 45 = .ok (.iload_n 3, 1) := by decide +kernel
theorem dX11_swap_46 : decode cX11_swap 46 = .ok (.invokevirtual 122, 3) := by decide +kernel
theorem dX11_swap_49 : decode cX11_swap 49 = .ok (.ireturn, 1) := by decide +kernel
theorem dX11_drop_0 : decode cX11_drop 0 = .ok (.aload_n 0, 1) := by decide +kernel
theorem dX11_drop_1 : decode cX11_drop 1 = .ok (.getfield 48, 3) := by decide +kernel
theorem dX11_drop_4 : decode cX11_drop 4 = .ok (.aload_n 0, 1) := by decide +kernel
theorem dX11_drop_5 : decode cX11_drop 5 = .ok (.getfield 10, 3) := by decide +kernel
theorem dX11_drop_8 : decode cX11_drop 8 = .ok (.iload_n 1, 1) := by decide +kernel
theorem dX11_drop_9 : decode cX11_drop 9 = .ok (.invokevirtual 249, 3) := by decide +kernel
theorem dX11_drop_12 : decode cX11_drop 12 = .ok (.istore_n 2, 1) := by decide +kernel
theorem dX11_drop_13 : decode cX11_drop 13 = .ok (.iload_n 2, 1) := by decide +kernel
theorem dX11_drop_14 : decode cX11_drop 14 = .ok (.ifCond .ge 11, 3) := by decide +kernel
theorem dX11_drop_17 : decode cX11_drop 17 = .ok (.aload_n 0, 1) := by decide +kernel
theorem dX11_drop_18 : decode cX11_drop 18 = .ok (.iload_n 2, 1) := by decide +kernel
theorem dX11_drop_19 : decode cX11_drop 19 = .ok (.invokevirtual 109, 3) := by decide +kernel
theorem dX11_drop_22 : decode cX11_drop 22 = .ok (.goto 8, 3) := by decide +kernel
theorem dX11_drop_25 : decode cX11_drop 25 = .ok (.aload_n 0, 1) := by decide +kernel
theorem dX11_drop_26 : decode cX11_drop 26 = .ok (.iload_n 2, 1) := by decide +kernel
theorem dX11_drop_27 : decode cX11_drop 27 = .ok (.invokevirtual 122, 3) := by decide +kernel
theorem dX11_drop_30 : decode cX11_drop 30 = .ok (.ireturn, 1) := by decide +kernel
theorem dX11_pass_0 : decode cX11_pass 0 = .ok (.aload_n 0, 1) := by decide +kernel
theorem dX11_pass_1 : decode cX11_pass 1 = .ok (.getfield 48, 3) := by decide +kernel
theorem dX11_pass_4 : decode cX11_pass 4 = .ok (.aload_n 0, 1) := by decide +kernel
theorem dX11_pass_5 : decode cX11_pass 5 = .ok (.getfield 10, 3) := by decide +kernel
theorem dX11_pass_8 : decode cX11_pass 8 = .ok (.invokevirtual 253, 3) := by decide +kernel
theorem dX11_pass_11 : decode cX11_pass 11 = .ok (.istore_n 1, 1) := by decide +kernel
theorem dX11_pass_12 : decode cX11_pass 12 = .ok (.iload_n 1, 1) := by decide +kernel
theorem dX11_pass_13 : decode cX11_pass 13 = .ok (.ifCond .ge 11, 3) := by decide +kernel
theorem dX11_pass_16 : decode cX11_pass 16 = .ok (.aload_n 0, 1) := by decide +kernel
theorem dX11_pass_17 : decode cX11_pass 17 = .ok (.iload_n 1, 1) := by decide +kernel
theorem dX11_pass_18 : decode cX11_pass 18 = .ok (.invokevirtual 109, 3) := by decide +kernel
theorem dX11_pass_21 : decode cX11_pass 21 = .ok (.goto 8, 3) := by decide +kernel
theorem dX11_pass_24 : decode cX11_pass 24 = .ok (.aload_n 0, 1) := by decide +kernel
theorem dX11_pass_25 : decode cX11_pass 25 = .ok (.iload_n 1, 1) := by decide +kernel
theorem dX11_pass_26 : decode cX11_pass 26 = .ok (.invokevirtual 122, 3) := by decide +kernel
theorem dX11_pass_29 : decode cX11_pass 29 = .ok (.ireturn, 1) := by decide +kernel
theorem dX11_undo_0 : decode cX11_undo 0 = .ok (.aload_n 0, 1) := by decide +kernel
theorem dX11_undo_1 : decode cX11_undo 1 = .ok (.getfield 10, 3) := by decide +kernel
theorem dX11_undo_4 : decode cX11_undo 4 = .ok (.invokevirtual 257, 3) := by decide +kernel
theorem dX11_undo_7 : decode cX11_undo 7 = .ok (.istore_n 1, 1) := by decide +kernel
theorem dX11_undo_8 : decode cX11_undo 8 = .ok (.iload_n 1, 1) := by decide +kernel
theorem dX11_undo_9 : decode cX11_undo 9 = .ok (.ifCond .ge 11, 3) := by decide +kernel
theorem dX11_undo_12 : decode cX11_undo 12 = .ok (.aload_n 0, 1) := by decide +kernel
theorem dX11_undo_13 : decode cX11_undo 13 = .ok (.iload_n 1, 1) := by decide +kernel
theorem dX11_undo_14 : decode cX11_undo 14 = .ok (.invokevirtual 109, 3) := by decide +kernel
theorem dX11_undo_17 : decode cX11_undo 17 = .ok (.goto 8, 3) := by decide +kernel
theorem dX11_undo_20 : decode cX11_undo 20 = .ok (.aload_n 0, 1) := by decide +kernel
theorem dX11_undo_21 : decode cX11_undo 21 = .ok (.iload_n 1, 1) := by decide +kernel
theorem dX11_undo_22 : decode cX11_undo 22 = .ok (.invokevirtual 122, 3) := by decide +kernel
theorem dX11_undo_25 : decode cX11_undo 25 = .ok (.ireturn, 1) := by decide +kernel
theorem dX11_day_0 : decode cX11_day 0 = .ok (.aload_n 0, 1) := by decide +kernel
theorem dX11_day_1 : decode cX11_day 1 = .ok (.getfield 10, 3) := by decide +kernel
theorem dX11_day_4 : decode cX11_day 4 = .ok (.iload_n 1, 1) := by decide +kernel
theorem dX11_day_5 : decode cX11_day 5 = .ok (.invokevirtual 125, 3) := by decide +kernel
theorem dX11_day_8 : decode cX11_day 8 = .ok (.ifCond .eq 12, 3) := by decide +kernel
theorem dX11_day_11 : decode cX11_day 11 = .ok (.iload_n 2, 1) := by decide +kernel
theorem dX11_day_12 : decode cX11_day 12 = .ok (.ifCond .lt 8, 3) := by decide +kernel
theorem dX11_day_15 : decode cX11_day 15 = .ok (.iload_n 2, 1) := by decide +kernel
theorem dX11_day_16 : decode cX11_day 16 = .ok (.iconst 2, 1) := by decide +kernel
theorem dX11_day_17 : decode cX11_day 17 = .ok (.if_icmp .le 5, 3) := by decide +kernel
theorem dX11_day_20 : decode cX11_day 20 = .ok (.iconst (-1), 1) := by decide +kernel
theorem dX11_day_21 : decode cX11_day 21 = .ok (.ireturn, 1) := by decide +kernel
theorem dX11_day_22 : decode cX11_day 22 = .ok (.aload_n 0, 1) := by decide +kernel
theorem dX11_day_23 : decode cX11_day 23 = .ok (.aload_n 0, 1) := by decide +kernel
theorem dX11_day_24 : decode cX11_day 24 = .ok (.getfield 10, 3) := by decide +kernel
theorem dX11_day_27 : decode cX11_day 27 = .ok (.invokevirtual 138, 3) := by decide +kernel
theorem dX11_day_30 : decode cX11_day 30 = .ok (.invokevirtual 261, 3) := by decide +kernel
theorem dX11_day_33 : decode cX11_day 33 = .ok (.iload_n 2, 1) := by decide +kernel
theorem dX11_day_34 : decode cX11_day 34 = .ok (.ifCond .ne 13, 3) := by decide +kernel
theorem dX11_day_37 : decode cX11_day 37 = .ok (.aload_n 0, 1) := by decide +kernel
theorem dX11_day_38 : decode cX11_day 38 = .ok (.getfield 55, 3) := by decide +kernel
theorem dX11_day_41 : decode cX11_day 41 = .ok (.getfield 264, 3) := by decide +kernel
theorem dX11_day_44 : decode cX11_day 44 = .ok (.iload_n 1, 1) := by decide +kernel
theorem dX11_day_45 : decode cX11_day 45 = .ok (.iaload, 1) := by decide +kernel
theorem dX11_day_46 : decode cX11_day 46 = .ok (.ireturn, 1) := by decide +kernel
theorem dX11_day_47 : decode cX11_day 47 = .ok (.iload_n 2, 1) := by decide +kernel
theorem dX11_day_48 : decode cX11_day 48 = .ok (.iconst 1, 1) := by decide +kernel
theorem dX11_day_49 : decode cX11_day 49 = .ok (.if_icmp .ne 15, 3) := by decide +kernel
theorem dX11_day_52 : decode cX11_day 52 = .ok (.aload_n 0, 1) := by decide +kernel
theorem dX11_day_53 : decode cX11_day 53 = .ok (.getfield 55, 3) := by decide +kernel
theorem dX11_day_56 : decode cX11_day 56 = .ok (.getfield 267, 3) := by decide +kernel
theorem dX11_day_59 : decode cX11_day 59 = .ok (.iload_n 1, 1) := by decide +kernel
theorem dX11_day_60 : decode cX11_day 60 = .ok (.iaload, 1) := by decide +kernel
theorem dX11_day_61 : decode cX11_day 61 = .ok (.goto 12, 3) := by decide +kernel
theorem dX11_day_64 : decode cX11_day 64 = .ok (.aload_n 0, 1) := by decide +kernel
theorem dX11_day_65 : decode cX11_day 65 = .ok (.getfield 55, 3) := by decide +kernel
theorem dX11_day_68 : decode cX11_day 68 = .ok (.getfield 269, 3) := by decide +kernel
theorem dX11_day_71 : decode cX11_day 71 = .ok (.iload_n 1, 1) := by decide +kernel
theorem dX11_day_72 : decode cX11_day 72 = .ok (.iaload, 1) := by decide +kernel
theorem dX11_day_73 : decode cX11_day 73 = .ok (.ireturn, 1) := by decide +kernel
theorem dX11_waiting_0 : decode cX11_waiting 0 = .ok (.iload_n 1, 1) := by decide +kernel
theorem dX11_waiting_1 : decode cX11_waiting 1 = .ok (.iconst (-1), 1) := by decide +kernel
theorem dX11_waiting_2 : decode cX11_waiting 2 = .ok (.if_icmp .eq 29, 3) := by decide +kernel
theorem dX11_waiting_5 : decode cX11_waiting 5 = .ok (.aload_n 0, 1) := by decide +kernel
theorem dX11_waiting_6 : decode cX11_waiting 6 = .ok (.getfield 10, 3) := by decide +kernel
theorem dX11_waiting_9 : decode cX11_waiting 9 = .ok (.iload_n 1, 1) := by decide +kernel
theorem dX11_waiting_10 : decode cX11_waiting 10 = .ok (.invokevirtual 125, 3) := by decide +kernel
theorem dX11_waiting_13 : decode cX11_waiting 13 = .ok (.ifCond .eq 16, 3) := by decide +kernel
theorem dX11_waiting_16 : decode cX11_waiting 16 = .ok (.aload_n 0, 1) := by decide +kernel
theorem dX11_waiting_17 : decode cX11_waiting 17 = .ok (.getfield 10, 3) := by decide +kernel
theorem dX11_waiting_20 : decode cX11_waiting 20 = .ok (.getfield 135, 3) := by decide +kernel
theorem dX11_waiting_23 : decode cX11_waiting 23 = .ok (.iload_n 1, 1) := by decide +kernel
theorem dX11_waiting_24 : decode cX11_waiting 24 = .ok (.iaload, 1) := by decide +kernel
theorem dX11_waiting_25 : decode cX11_waiting 25 = .ok (.iconst (-1), 1) := by decide +kernel
theorem dX11_waiting_26 : decode cX11_waiting 26 = .ok (.if_icmp .ne 5, 3) := by decide +kernel
theorem dX11_waiting_29 : decode cX11_waiting 29 = .ok (.iconst (-1), 1) := by decide +kernel
theorem dX11_waiting_30 : decode cX11_waiting 30 = .ok (.ireturn, 1) := by decide +kernel
theorem dX11_waiting_31 : decode cX11_waiting 31 = .ok (.aload_n 0, 1) := by decide +kernel
theorem dX11_waiting_32 : decode cX11_waiting 32 = .ok (.aload_n 0, 1) := by decide +kernel
theorem dX11_waiting_33 : decode cX11_waiting 33 = .ok (.getfield 10, 3) := by decide +kernel
theorem dX11_waiting_36 : decode cX11_waiting 36 = .ok (.invokevirtual 138, 3) := by decide +kernel
theorem dX11_waiting_39 : decode cX11_waiting 39 = .ok (.invokevirtual 261, 3) := by decide +kernel
theorem dX11_waiting_42 : decode cX11_waiting 42 = .ok (.iload_n 1, 1) := by decide +kernel
theorem dX11_waiting_43 : decode cX11_waiting 43 = .ok (.iconst (-1), 1) := by decide +kernel
theorem dX11_waiting_44 : decode cX11_waiting 44 = .ok (.if_icmp .ne 17, 3) := by decide +kernel
theorem dX11_waiting_47 : decode cX11_waiting 47 = .ok (.aload_n 0, 1) := by decide +kernel
theorem dX11_waiting_48 : decode cX11_waiting 48 = .ok (.getfield 55, 3) := by decide +kernel
theorem dX11_waiting_51 : decode cX11_waiting 51 = .ok (.aload_n 0, 1) := by decide +kernel
theorem dX11_waiting_52 : decode cX11_waiting 52 = .ok (.getfield 39, 3) := by decide +kernel
theorem dX11_waiting_55 : decode cX11_waiting 55 = .ok (.invokevirtual 272, 3) := by decide +kernel
theorem dX11_waiting_58 : decode cX11_waiting 58 = .ok (.goto 15, 3) := by decide +kernel
theorem dX11_waiting_61 : decode cX11_waiting 61 = .ok (.aload_n 0, 1) := by decide +kernel
theorem dX11_waiting_62 : decode cX11_waiting 62 = .ok (.getfield 55, 3) := by decide +kernel
theorem dX11_waiting_65 : decode cX11_waiting 65 = .ok (.aload_n 0, 1) := by decide +kernel
theorem dX11_waiting_66 : decode cX11_waiting 66 = .ok (.getfield 39, 3) := by decide +kernel
theorem dX11_waiting_69 : decode cX11_waiting 69 = .ok (.iload_n 1, 1) := by decide +kernel
theorem dX11_waiting_70 : decode cX11_waiting 70 = .ok (.invokevirtual 276, 3) := by decide +kernel
theorem dX11_waiting_73 : decode cX11_waiting 73 = .ok (.ireturn, 1) := by decide +kernel
theorem dX11_about_0 : decode cX11_about 0 = .ok (.iload_n 1, 1) := by decide +kernel
theorem dX11_about_1 : decode cX11_about 1 = .ok (.ifCond .lt 16, 3) := by decide +kernel
theorem dX11_about_4 : decode cX11_about 4 = .ok (.iload_n 1, 1) := by decide +kernel
theorem dX11_about_5 : decode cX11_about 5 = .ok (.iconst 2, 1) := by decide +kernel
theorem dX11_about_6 : decode cX11_about 6 = .ok (.aload_n 0, 1) := by decide +kernel
theorem dX11_about_7 : decode cX11_about 7 = .ok (.getfield 10, 3) := by decide +kernel
theorem dX11_about_10 : decode cX11_about 10 = .ok (.getfield 280, 3) := by decide +kernel
theorem dX11_about_13 : decode cX11_about 13 = .ok (.iadd, 1) := by decide +kernel
theorem dX11_about_14 : decode cX11_about 14 = .ok (.if_icmp .lt 5, 3) := by decide +kernel
theorem dX11_about_17 : decode cX11_about 17 = .ok (.iconst (-1), 1) := by decide +kernel
theorem dX11_about_18 : decode cX11_about 18 = .ok (.ireturn, 1) := by decide +kernel
theorem dX11_about_19 : decode cX11_about 19 = .ok (.aload_n 0, 1) := by decide +kernel
theorem dX11_about_20 : decode cX11_about 20 = .ok (.getfield 64, 3) := by decide +kernel
theorem dX11_about_23 : decode cX11_about 23 = .ok (.aload_n 0, 1) := by decide +kernel
theorem dX11_about_24 : decode cX11_about 24 = .ok (.getfield 10, 3) := by decide +kernel
theorem dX11_about_27 : decode cX11_about 27 = .ok (.invokevirtual 283, 3) := by decide +kernel
theorem dX11_about_30 : decode cX11_about 30 = .ok (.aload_n 0, 1) := by decide +kernel
theorem dX11_about_31 : decode cX11_about 31 = .ok (.getfield 64, 3) := by decide +kernel
theorem dX11_about_34 : decode cX11_about 34 = .ok (.getfield 286, 3) := by decide +kernel
theorem dX11_about_37 : decode cX11_about 37 = .ok (.iconst (-1), 1) := by decide +kernel
theorem dX11_about_38 : decode cX11_about 38 = .ok (.if_icmp .ne 5, 3) := by decide +kernel
theorem dX11_about_41 : decode cX11_about 41 = .ok (.iconst (-1), 1) := by decide +kernel
theorem dX11_about_42 : decode cX11_about 42 = .ok (.ireturn, 1) := by decide +kernel
theorem dX11_about_43 : decode cX11_about 43 = .ok (.iload_n 1, 1) := by decide +kernel
theorem dX11_about_44 : decode cX11_about 44 = .ok (.ifCond .ne 11, 3) := by decide +kernel
theorem dX11_about_47 : decode cX11_about 47 = .ok (.aload_n 0, 1) := by decide +kernel
theorem dX11_about_48 : decode cX11_about 48 = .ok (.getfield 64, 3) := by decide +kernel
theorem dX11_about_51 : decode cX11_about 51 = .ok (.getfield 286, 3) := by decide +kernel
theorem dX11_about_54 : decode cX11_about 54 = .ok (.ireturn, 1) := by decide +kernel
theorem dX11_about_55 : decode cX11_about 55 = .ok (.iload_n 1, 1) := by decide +kernel
theorem dX11_about_56 : decode cX11_about 56 = .ok (.iconst 1, 1) := by decide +kernel
theorem dX11_about_57 : decode cX11_about 57 = .ok (.if_icmp .ne 13, 3) := by decide +kernel
theorem dX11_about_60 : decode cX11_about 60 = .ok (.aload_n 0, 1) := by decide +kernel
theorem dX11_about_61 : decode cX11_about 61 = .ok (.getfield 64, 3) := by decide +kernel
theorem dX11_about_64 : decode cX11_about 64 = .ok (.getfield 289, 3) := by decide +kernel
theorem dX11_about_67 : decode cX11_about 67 = .ok (.goto 14, 3) := by decide +kernel
theorem dX11_about_70 : decode cX11_about 70 = .ok (.aload_n 0, 1) := by decide +kernel
theorem dX11_about_71 : decode cX11_about 71 = .ok (.getfield 64, 3) := by decide +kernel
theorem dX11_about_74 : decode cX11_about 74 = .ok (.getfield 292, 3) := by decide +kernel
theorem dX11_about_77 : decode cX11_about 77 = .ok (.iload_n 1, 1) := by decide +kernel
theorem dX11_about_78 : decode cX11_about 78 = .ok (.iconst 2, 1) := by decide +kernel
theorem dX11_about_79 : decode cX11_about 79 = .ok (.isub, 1) := by decide +kernel
theorem dX11_about_80 : decode cX11_about 80 = .ok (.iaload, 1) := by decide +kernel
theorem dX11_about_81 : decode cX11_about 81 = .ok (.ireturn, 1) := by decide +kernel
theorem dX11_trade_0 : decode cX11_trade 0 = .ok (.iload_n 1, 1) := by decide +kernel
theorem dX11_trade_1 : decode cX11_trade 1 = .ok (.iconst (-1), 1) := by decide +kernel
theorem dX11_trade_2 : decode cX11_trade 2 = .ok (.if_icmp .eq 16, 3) := by decide +kernel
theorem dX11_trade_5 : decode cX11_trade 5 = .ok (.aload_n 0, 1) := by decide +kernel
theorem dX11_trade_6 : decode cX11_trade 6 = .ok (.getfield 10, 3) := by decide +kernel
theorem dX11_trade_9 : decode cX11_trade 9 = .ok (.iload_n 1, 1) := by decide +kernel
theorem dX11_trade_10 : decode cX11_trade 10 = .ok (.invokevirtual 125, 3) := by decide +kernel
theorem dX11_trade_13 : decode cX11_trade 13 = .ok (.ifCond .ne 5, 3) := by decide +kernel
theorem dX11_trade_16 : decode cX11_trade 16 = .ok (.iconst (-1), 1) := by decide +kernel
theorem dX11_trade_17 : decode cX11_trade 17 = .ok (.ireturn, 1) := by decide +kernel
theorem dX11_trade_18 : decode cX11_trade 18 = .ok (.aload_n 0, 1) := by decide +kernel
theorem dX11_trade_19 : decode cX11_trade 19 = .ok (.getfield 39, 3) := by decide +kernel
theorem dX11_trade_22 : decode cX11_trade 22 = .ok (.aload_n 0, 1) := by decide +kernel
theorem dX11_trade_23 : decode cX11_trade 23 = .ok (.getfield 10, 3) := by decide +kernel
theorem dX11_trade_26 : decode cX11_trade 26 = .ok (.aload_n 0, 1) := by decide +kernel
theorem dX11_trade_27 : decode cX11_trade 27 = .ok (.getfield 10, 3) := by decide +kernel
theorem dX11_trade_30 : decode cX11_trade 30 = .ok (.invokevirtual 138, 3) := by decide +kernel
theorem dX11_trade_33 : decode cX11_trade 33 = .ok (.invokevirtual 142, 3) := by decide +kernel
theorem dX11_trade_36 : decode cX11_trade 36 = .ok (.aload_n 0, 1) := by decide +kernel
theorem dX11_trade_37 : decode cX11_trade 37 = .ok (.getfield 71, 3) := by decide +kernel
theorem dX11_trade_40 : decode cX11_trade 40 = .ok (.aload_n 0, 1) := by decide +kernel
theorem dX11_trade_41 : decode cX11_trade 41 = .ok (.getfield 39, 3) := by decide +kernel
theorem dX11_trade_44 : decode cX11_trade 44 = .ok (.invokevirtual 295, 3) := by decide +kernel
theorem dX11_trade_47 : decode cX11_trade 47 = .ok (.iload_n 1, 1) := by decide +kernel
theorem dX11_trade_48 : decode cX11_trade 48 = .ok (.iconst (-1), 1) := by decide +kernel
theorem dX11_trade_49 : decode cX11_trade 49 = .ok (.if_icmp .ne 13, 3) := by decide +kernel
theorem dX11_trade_52 : decode cX11_trade 52 = .ok (.aload_n 0, 1) := by decide +kernel
theorem dX11_trade_53 : decode cX11_trade 53 = .ok (.getfield 71, 3) := by decide +kernel
theorem dX11_trade_56 : decode cX11_trade 56 = .ok (.getfield 298, 3) := by decide +kernel
theorem dX11_trade_59 : decode cX11_trade 59 = .ok (.goto 12, 3) := by decide +kernel
theorem dX11_trade_62 : decode cX11_trade 62 = .ok (.aload_n 0, 1) := by decide +kernel
theorem dX11_trade_63 : decode cX11_trade 63 = .ok (.getfield 71, 3) := by decide +kernel
theorem dX11_trade_66 : decode cX11_trade 66 = .ok (.getfield 301, 3) := by decide +kernel
theorem dX11_trade_69 : decode cX11_trade 69 = .ok (.iload_n 1, 1) := by decide +kernel
theorem dX11_trade_70 : decode cX11_trade 70 = .ok (.iaload, 1) := by decide +kernel
theorem dX11_trade_71 : decode cX11_trade 71 = .ok (.ireturn, 1) := by decide +kernel
theorem dX11_both_0 : decode cX11_both 0 = .ok (.iload_n 1, 1) := by decide +kernel
theorem dX11_both_1 : decode cX11_both 1 = .ok (.iconst (-1), 1) := by decide +kernel
theorem dX11_both_2 : decode cX11_both 2 = .ok (.if_icmp .ge 5, 3) := by decide +kernel
theorem dX11_both_5 : decode cX11_both 5 = .ok (.iconst (-1), 1) := by decide +kernel
theorem dX11_both_6 : decode cX11_both 6 = .ok (.ireturn, 1) := by decide +kernel
theorem dX11_both_7 : decode cX11_both 7 = .ok (.aload_n 0, 1) := by decide +kernel
theorem dX11_both_8 : decode cX11_both 8 = .ok (.getfield 39, 3) := by decide +kernel
theorem dX11_both_11 : decode cX11_both 11 = .ok (.aload_n 0, 1) := by decide +kernel
theorem dX11_both_12 : decode cX11_both 12 = .ok (.getfield 10, 3) := by decide +kernel
theorem dX11_both_15 : decode cX11_both 15 = .ok (.aload_n 0, 1) := by decide +kernel
theorem dX11_both_16 : decode cX11_both 16 = .ok (.getfield 10, 3) := by decide +kernel
theorem dX11_both_19 : decode cX11_both 19 = .ok (.invokevirtual 138, 3) := by decide +kernel
theorem dX11_both_22 : decode cX11_both 22 = .ok (.invokevirtual 142, 3) := by decide +kernel
theorem dX11_both_25 : decode cX11_both 25 = .ok (.iconst 0, 1) := by decide +kernel
theorem dX11_both_26 : decode cX11_both 26 = .ok (.istore_n 2, 1) := by decide +kernel
theorem dX11_both_27 : decode cX11_both 27 = .ok (.iconst 0, 1) := by decide +kernel
theorem dX11_both_28 : decode cX11_both 28 = .ok (.istore_n 3, 1) := by decide +kernel
theorem dX11_both_29 : decode cX11_both 29 = .ok (.iload_n 3, 1) := by decide +kernel
theorem dX11_both_30 : decode cX11_both 30 = .ok (.aload_n 0, 1) := by decide +kernel
theorem dX11_both_31 : decode cX11_both 31 = .ok (.getfield 10, 3) := by decide +kernel
theorem dX11_both_34 : decode cX11_both 34 = .ok (.getfield 280, 3) := by decide +kernel
theorem dX11_both_37 : decode cX11_both 37 = .ok (.if_icmp .ge 65, 3) := by decide +kernel
theorem dX11_both_40 : decode cX11_both 40 = .ok (.iload_n 3, 1) := by decide +kernel
theorem dX11_both_41 : decode cX11_both 41 = .ok (.iconst 1, 1) := by decide +kernel
theorem dX11_both_42 : decode cX11_both 42 = .ok (.iadd, 1) := by decide +kernel
theorem dX11_both_43 : decode cX11_both 43 = .ok (.istore 4, 2) := by decide +kernel
theorem dX11_both_45 : decode cX11_both 45 = .ok (.iload 4, 2) := by decide +kernel
theorem dX11_both_47 : decode cX11_both 47 = .ok (.aload_n 0, 1) := by decide +kernel
theorem dX11_both_48 : decode cX11_both 48 = .ok (.getfield 10, 3) := by decide +kernel
theorem dX11_both_51 : decode cX11_both 51 = .ok (.getfield 280, 3) := by decide +kernel
theorem dX11_both_54 : decode cX11_both 54 = .ok (.if_icmp .ge 42, 3) := by decide +kernel
theorem dX11_both_57 : decode cX11_both 57 = .ok (.aload_n 0, 1) := by decide +kernel
theorem dX11_both_58 : decode cX11_both 58 = .ok (.getfield 71, 3) := by decide +kernel
theorem dX11_both_61 : decode cX11_both 61 = .ok (.aload_n 0, 1) := by decide +kernel
theorem dX11_both_62 : decode cX11_both 62 = .ok (.getfield 39, 3) := by decide +kernel
theorem dX11_both_65 : decode cX11_both 65 = .ok (.iload_n 3, 1) := by decide +kernel
theorem dX11_both_66 : decode cX11_both 66 = .ok (.iload 4, 2) := by decide +kernel
theorem dX11_both_68 : decode cX11_both 68 = .ok (.invokevirtual 304, 3) := by decide +kernel
theorem dX11_both_71 : decode cX11_both 71 = .ok (.ifCond .eq 19, 3) := by decide +kernel
theorem dX11_both_74 : decode cX11_both 74 = .ok (.iload_n 2, 1) := by decide +kernel
theorem dX11_both_75 : decode cX11_both 75 = .ok (.iload_n 1, 1) := by decide +kernel
theorem dX11_both_76 : decode cX11_both 76 = .ok (.if_icmp .ne 11, 3) := by decide +kernel
theorem dX11_both_79 : decode cX11_both 79 = .ok (.iload_n 3, 1) := by decide +kernel
theorem dX11_both_80 : decode cX11_both 80 = .ok (.bipush 10, 2) := by decide +kernel
theorem dX11_both_82 : decode cX11_both 82 = .ok (.imul, 1) := by decide +kernel
theorem dX11_both_83 : decode cX11_both 83 = .ok (.iload 4, 2) := by decide +kernel
theorem dX11_both_85 : decode cX11_both 85 = .ok (.iadd, 1) := by decide +kernel
theorem dX11_both_86 : decode cX11_both 86 = .ok (.ireturn, 1) := by decide +kernel
theorem dX11_both_87 : decode cX11_both 87 = .ok (.iinc 2 1, 3) := by decide +kernel
theorem dX11_both_90 : decode cX11_both 90 = .ok (.iinc 4 1, 3) := by decide +kernel
theorem dX11_both_93 : decode cX11_both 93 = .ok (.goto (-48), 3) := by decide +kernel
theorem dX11_both_96 : decode cX11_both 96 = .ok (.iinc 3 1, 3) := by decide +kernel
theorem dX11_both_99 : decode cX11_both 99 = .ok (.goto (-70), 3) := by decide +kernel
theorem dX11_both_102 : decode cX11_both 102 = .ok (.iload_n 1, 1) := by decide +kernel
theorem dX11_both_103 : decode cX11_both 103 = .ok (.iconst (-1), 1) := by decide +kernel
theorem dX11_both_104 : decode cX11_both 104 = .ok (.if_icmp .ne 7, 3) := by decide +kernel
theorem dX11_both_107 : decode cX11_both 107 = .ok (.iload_n 2, 1) := by decide +kernel
theorem dX11_both_108 : decode cX11_both 108 = .ok (.goto 4, 3) := by decide +kernel
theorem dX11_both_111 : decode cX11_both 111 = .ok (.iconst (-1), 1) := by decide +kernel
theorem dX11_both_112 : decode cX11_both 112 = .ok (.ireturn, 1) := by decide +kernel
theorem dX11_take_0 : decode cX11_take 0 = .ok (.aload_n 0, 1) := by decide +kernel
theorem dX11_take_1 : decode cX11_take 1 = .ok (.getfield 10, 3) := by decide +kernel
theorem dX11_take_4 : decode cX11_take 4 = .ok (.iload_n 1, 1) := by decide +kernel
theorem dX11_take_5 : decode cX11_take 5 = .ok (.invokevirtual 125, 3) := by decide +kernel
theorem dX11_take_8 : decode cX11_take 8 = .ok (.ifCond .eq 16, 3) := by decide +kernel
theorem dX11_take_11 : decode cX11_take 11 = .ok (.aload_n 0, 1) := by decide +kernel
theorem dX11_take_12 : decode cX11_take 12 = .ok (.getfield 10, 3) := by decide +kernel
theorem dX11_take_15 : decode cX11_take 15 = .ok (.getfield 135, 3) := by decide +kernel
theorem dX11_take_18 : decode cX11_take 18 = .ok (.iload_n 1, 1) := by decide +kernel
theorem dX11_take_19 : decode cX11_take 19 = .ok (.iaload, 1) := by decide +kernel
theorem dX11_take_20 : decode cX11_take 20 = .ok (.iconst (-1), 1) := by decide +kernel
theorem dX11_take_21 : decode cX11_take 21 = .ok (.if_icmp .eq 5, 3) := by decide +kernel
theorem dX11_take_24 : decode cX11_take 24 = .ok (.iconst (-1), 1) := by decide +kernel
theorem dX11_take_25 : decode cX11_take 25 = .ok (.ireturn, 1) := by decide +kernel
theorem dX11_take_26 : decode cX11_take 26 = .ok (.aload_n 0, 1) := by decide +kernel
theorem dX11_take_27 : decode cX11_take 27 = .ok (.getfield 39, 3) := by decide +kernel
theorem dX11_take_30 : decode cX11_take 30 = .ok (.aload_n 0, 1) := by decide +kernel
theorem dX11_take_31 : decode cX11_take 31 = .ok (.getfield 10, 3) := by decide +kernel
theorem dX11_take_34 : decode cX11_take 34 = .ok (.aload_n 0, 1) := by decide +kernel
theorem dX11_take_35 : decode cX11_take 35 = .ok (.getfield 10, 3) := by decide +kernel
theorem dX11_take_38 : decode cX11_take 38 = .ok (.invokevirtual 138, 3) := by decide +kernel
theorem dX11_take_41 : decode cX11_take 41 = .ok (.invokevirtual 142, 3) := by decide +kernel
theorem dX11_take_44 : decode cX11_take 44 = .ok (.aload_n 0, 1) := by decide +kernel
theorem dX11_take_45 : decode cX11_take 45 = .ok (.getfield 55, 3) := by decide +kernel
theorem dX11_take_48 : decode cX11_take 48 = .ok (.aload_n 0, 1) := by decide +kernel
theorem dX11_take_49 : decode cX11_take 49 = .ok (.getfield 10, 3) := by decide +kernel
theorem dX11_take_52 : decode cX11_take 52 = .ok (.invokevirtual 308, 3) := by decide +kernel
theorem dX11_take_55 : decode cX11_take 55 = .ok (.aload_n 0, 1) := by decide +kernel
theorem dX11_take_56 : decode cX11_take 56 = .ok (.getfield 64, 3) := by decide +kernel
theorem dX11_take_59 : decode cX11_take 59 = .ok (.iload_n 1, 1) := by decide +kernel
theorem dX11_take_60 : decode cX11_take 60 = .ok (.invokevirtual 311, 3) := by decide +kernel
theorem dX11_take_63 : decode cX11_take 63 = .ok (.ireturn, 1) := by decide +kernel
theorem dX11_desks_0 : decode cX11_desks 0 = .ok (.iload_n 1, 1) := by decide +kernel
theorem dX11_desks_1 : decode cX11_desks 1 = .ok (.ifCond .lt 19, 3) := by decide +kernel
theorem dX11_desks_4 : decode cX11_desks 4 = .ok (.iload_n 1, 1) := by decide +kernel
theorem dX11_desks_5 : decode cX11_desks 5 = .ok (.sipush 999, 3) := by decide +kernel
theorem dX11_desks_8 : decode cX11_desks 8 = .ok (.if_icmp .gt 12, 3) := by decide +kernel
theorem dX11_desks_11 : decode cX11_desks 11 = .ok (.iload_n 2, 1) := by decide +kernel
theorem dX11_desks_12 : decode cX11_desks 12 = .ok (.ifCond .lt 8, 3) := by decide +kernel
theorem dX11_desks_15 : decode cX11_desks 15 = .ok (.iload_n 2, 1) := by decide +kernel
theorem dX11_desks_16 : decode cX11_desks 16 = .ok (.iconst 1, 1) := by decide +kernel
theorem dX11_desks_17 : decode cX11_desks 17 = .ok (.if_icmp .le 5, 3) := by decide +kernel
theorem dX11_desks_20 : decode cX11_desks 20 = .ok (.iconst (-1), 1) := by decide +kernel
theorem dX11_desks_21 : decode cX11_desks 21 = .ok (.ireturn, 1) := by decide +kernel
theorem dX11_desks_22 : decode cX11_desks 22 = .ok (.aload_n 0, 1) := by decide +kernel
theorem dX11_desks_23 : decode cX11_desks 23 = .ok (.getfield 39, 3) := by decide +kernel
theorem dX11_desks_26 : decode cX11_desks 26 = .ok (.aload_n 0, 1) := by decide +kernel
theorem dX11_desks_27 : decode cX11_desks 27 = .ok (.getfield 10, 3) := by decide +kernel
theorem dX11_desks_30 : decode cX11_desks 30 = .ok (.aload_n 0, 1) := by decide +kernel
theorem dX11_desks_31 : decode cX11_desks 31 = .ok (.getfield 10, 3) := by decide +kernel
theorem dX11_desks_34 : decode cX11_desks 34 = .ok (.invokevirtual 138, 3) := by decide +kernel
theorem dX11_desks_37 : decode cX11_desks 37 = .ok (.invokevirtual 142, 3) := by decide +kernel
theorem dX11_desks_40 : decode cX11_desks 40 = .ok (.aload_n 0, 1) := by decide +kernel
theorem dX11_desks_41 : decode cX11_desks 41 = .ok (.getfield 55, 3) := by decide +kernel
theorem dX11_desks_44 : decode cX11_desks 44 = .ok (.aload_n 0, 1) := by decide +kernel
theorem dX11_desks_45 : decode cX11_desks 45 = .ok (.getfield 10, 3) := by decide +kernel
theorem dX11_desks_48 : decode cX11_desks 48 = .ok (.invokevirtual 308, 3) := by decide +kernel
theorem dX11_desks_51 : decode cX11_desks 51 = .ok (.aload_n 0, 1) := by decide +kernel
theorem dX11_desks_52 : decode cX11_desks 52 = .ok (.getfield 64, 3) := by decide +kernel
theorem dX11_desks_55 : decode cX11_desks 55 = .ok (.iload_n 1, 1) := by decide +kernel
theorem dX11_desks_56 : decode cX11_desks 56 = .ok (.invokevirtual 314, 3) := by decide +kernel
theorem dX11_desks_59 : decode cX11_desks 59 = .ok (.istore_n 3, 1) := by decide +kernel
theorem dX11_desks_60 : decode cX11_desks 60 = .ok (.iload_n 3, 1) := by decide +kernel
theorem dX11_desks_61 : decode cX11_desks 61 = .ok (.iconst (-1), 1) := by decide +kernel
theorem dX11_desks_62 : decode cX11_desks 62 = .ok (.if_icmp .ne 5, 3) := by decide +kernel
theorem dX11_desks_65 : decode cX11_desks 65 = .ok (.iconst (-1), 1) := by decide +kernel
theorem dX11_desks_66 : decode cX11_desks 66 = .ok (.ireturn, 1) := by decide +kernel
theorem dX11_desks_67 : decode cX11_desks 67 = .ok (.iload_n 2, 1) := by decide +kernel
theorem dX11_desks_68 : decode cX11_desks 68 = .ok (.ifCond .ne 10, 3) := by decide +kernel
theorem dX11_desks_71 : decode cX11_desks 71 = .ok (.iload_n 3, 1) := by decide +kernel
theorem dX11_desks_72 : decode cX11_desks 72 = .ok (.invokestatic 317, 3) := by decide +kernel
theorem dX11_desks_75 : decode cX11_desks 75 = .ok (.goto 4, 3) := by decide +kernel
theorem dX11_desks_78 : decode cX11_desks 78 = .ok (.iload_n 3, 1) := by decide +kernel
theorem dX11_desks_79 : decode cX11_desks 79 = .ok (.ireturn, 1) := by decide +kernel
theorem dX11_told_0 : decode cX11_told 0 = .ok (.iload_n 2, 1) := by decide +kernel
theorem dX11_told_1 : decode cX11_told 1 = .ok (.ifCond .lt 10, 3) := by decide +kernel
theorem dX11_told_4 : decode cX11_told 4 = .ok (.iload_n 2, 1) := by decide +kernel
theorem dX11_told_5 : decode cX11_told 5 = .ok (.sipush 999, 3) := by decide +kernel
theorem dX11_told_8 : decode cX11_told 8 = .ok (.if_icmp .le 9, 3) := by decide +kernel
theorem dX11_told_11 : decode cX11_told 11 = .ok (.aload_n 0, 1) := by decide +kernel
theorem dX11_told_12 : decode cX11_told 12 = .ok (.iconst (-1), 1) := by decide +kernel
theorem dX11_told_13 : decode cX11_told 13 = .ok (.invokevirtual 109, 3) := by decide +kernel
theorem dX11_told_16 : decode cX11_told 16 = .ok (.ireturn, 1) := by decide +kernel
theorem dX11_told_17 : decode cX11_told 17 = .ok (.aload_n 0, 1) := by decide +kernel
theorem dX11_told_18 : decode cX11_told 18 = .ok (.getfield 10, 3) := by decide +kernel
theorem dX11_told_21 : decode cX11_told 21 = .ok (.iload_n 1, 1) := by decide +kernel
theorem dX11_told_22 : decode cX11_told 22 = .ok (.invokevirtual 125, 3) := by decide +kernel
theorem dX11_told_25 : decode cX11_told 25 = .ok (.ifCond .ne 10, 3) := by decide +kernel
theorem dX11_told_28 : decode cX11_told 28 = .ok (.aload_n 0, 1) := by decide +kernel
theorem dX11_told_29 : decode cX11_told 29 = .ok (.bipush (-2), 2) := by decide +kernel
theorem dX11_told_31 : decode cX11_told 31 = .ok (.invokevirtual 109, 3) := by decide +kernel
theorem dX11_told_34 : decode cX11_told 34 = .ok (.ireturn, 1) := by decide +kernel
theorem dX11_told_35 : decode cX11_told 35 = .ok (.aload_n 0, 1) := by decide +kernel
theorem dX11_told_36 : decode cX11_told 36 = .ok (.getfield 10, 3) := by decide +kernel
theorem dX11_told_39 : decode cX11_told 39 = .ok (.getfield 322, 3) := by decide +kernel
theorem dX11_told_42 : decode cX11_told 42 = .ok (.bipush 6, 2) := by decide +kernel
theorem dX11_told_44 : decode cX11_told 44 = .ok (.if_icmp .lt 10, 3) := by decide +kernel
theorem dX11_told_47 : decode cX11_told 47 = .ok (.aload_n 0, 1) := by decide +kernel
theorem dX11_told_48 : decode cX11_told 48 = .ok (.bipush (-5), 2) := by decide +kernel
theorem dX11_told_50 : decode cX11_told 50 = .ok (.invokevirtual 109, 3) := by decide +kernel
theorem dX11_told_53 : decode cX11_told 53 = .ok (.ireturn, 1) := by decide +kernel
theorem dX11_told_54 : decode cX11_told 54 = .ok (.aload_n 0, 1) := by decide +kernel
theorem dX11_told_55 : decode cX11_told 55 = .ok (.getfield 10, 3) := by decide +kernel
theorem dX11_told_58 : decode cX11_told 58 = .ok (.getfield 325, 3) := by decide +kernel
theorem dX11_told_61 : decode cX11_told 61 = .ok (.aload_n 0, 1) := by decide +kernel
theorem dX11_told_62 : decode cX11_told 62 = .ok (.getfield 10, 3) := by decide +kernel
theorem dX11_told_65 : decode cX11_told 65 = .ok (.getfield 322, 3) := by decide +kernel
theorem dX11_told_68 : decode cX11_told 68 = .ok (.iload_n 1, 1) := by decide +kernel
theorem dX11_told_69 : decode cX11_told 69 = .ok (.iastore, 1) := by decide +kernel
theorem dX11_told_70 : decode cX11_told 70 = .ok (.aload_n 0, 1) := by decide +kernel
theorem dX11_told_71 : decode cX11_told 71 = .ok (.getfield 10, 3) := by decide +kernel
theorem dX11_told_74 : decode cX11_told 74 = .ok (.getfield 328, 3) := by decide +kernel
theorem dX11_told_77 : decode cX11_told 77 = .ok (.aload_n 0, 1) := by decide +kernel
theorem dX11_told_78 : decode cX11_told 78 = .ok (.getfield 10, 3) := by decide +kernel
theorem dX11_told_81 : decode cX11_told 81 = .ok (.getfield 322, 3) := by decide +kernel
theorem dX11_told_84 : decode cX11_told 84 = .ok (.iload_n 2, 1) := by decide +kernel
theorem dX11_told_85 : decode cX11_told 85 = .ok (.iastore, 1) := by decide +kernel
theorem dX11_told_86 : decode cX11_told 86 = .ok (.aload_n 0, 1) := by decide +kernel
theorem dX11_told_87 : decode cX11_told 87 = .ok (.getfield 10, 3) := by decide +kernel
theorem dX11_told_90 : decode cX11_told 90 = .ok (.dup, 1) := by decide +kernel
theorem dX11_told_91 : decode cX11_told 91 = .ok (.getfield 322, 3) := by decide +kernel
theorem dX11_told_94 : decode cX11_told 94 = .ok (.iconst 1, 1) := by decide +kernel
theorem dX11_told_95 : decode cX11_told 95 = .ok (.iadd, 1) := by decide +kernel
theorem dX11_told_96 : decode cX11_told 96 = .ok (.putfield 322, 3) := by decide +kernel
theorem dX11_told_99 : decode cX11_told 99 = .ok (.aload_n 0, 1) := by decide +kernel
theorem dX11_told_100 : decode cX11_told 100 = .ok (.aload_n 0, 1) := by decide +kernel
theorem dX11_told_101 : decode cX11_told 101 = .ok (.getfield 10, 3) := by decide +kernel
theorem dX11_told_104 : decode cX11_told 104 = .ok (.getfield 322, 3) := by decide +kernel
theorem dX11_told_107 : decode cX11_told 107 = .ok (.invokevirtual 122, 3) := by decide +kernel
theorem dX11_told_110 : decode cX11_told 110 = .ok (.ireturn, 1) := by decide +kernel
theorem dX11_forget_0 : decode cX11_forget 0 = .ok (.aload_n 0, 1) := by decide +kernel
theorem dX11_forget_1 : decode cX11_forget 1 = .ok (.getfield 10, 3) := by decide +kernel
theorem dX11_forget_4 : decode cX11_forget 4 = .ok (.getfield 322, 3) := by decide +kernel
theorem dX11_forget_7 : decode cX11_forget 7 = .ok (.istore_n 1, 1) := by decide +kernel
theorem dX11_forget_8 : decode cX11_forget 8 = .ok (.aload_n 0, 1) := by decide +kernel
theorem dX11_forget_9 : decode cX11_forget 9 = .ok (.getfield 10, 3) := by decide +kernel
theorem dX11_forget_12 : decode cX11_forget 12 = .ok (.iconst 0, 1) := by decide +kernel
theorem dX11_forget_13 : decode cX11_forget 13 = .ok (.putfield 322, 3) := by decide +kernel
theorem dX11_forget_16 : decode cX11_forget 16 = .ok (.aload_n 0, 1) := by decide +kernel
theorem dX11_forget_17 : decode cX11_forget 17 = .ok (.getfield 64, 3) := by decide +kernel
theorem dX11_forget_20 : decode cX11_forget 20 = .ok (.invokevirtual 331, 3) := by decide +kernel
theorem dX11_forget_23 : decode cX11_forget 23 = .ok (.iload_n 1, 1) := by decide +kernel
theorem dX11_forget_24 : decode cX11_forget 24 = .ok (.ireturn, 1) := by decide +kernel
theorem dX11_had_0 : decode cX11_had 0 = .ok (.iload_n 1, 1) := by decide +kernel
theorem dX11_had_1 : decode cX11_had 1 = .ok (.iconst (-1), 1) := by decide +kernel
theorem dX11_had_2 : decode cX11_had 2 = .ok (.if_icmp .eq 33, 3) := by decide +kernel
theorem dX11_had_5 : decode cX11_had 5 = .ok (.iload_n 1, 1) := by decide +kernel
theorem dX11_had_6 : decode cX11_had 6 = .ok (.ifCond .lt 27, 3) := by decide +kernel
theorem dX11_had_9 : decode cX11_had 9 = .ok (.aload_n 0, 1) := by decide +kernel
theorem dX11_had_10 : decode cX11_had 10 = .ok (.getfield 10, 3) := by decide +kernel
theorem dX11_had_13 : decode cX11_had 13 = .ok (.iload_n 2, 1) := by decide +kernel
theorem dX11_had_14 : decode cX11_had 14 = .ok (.invokevirtual 125, 3) := by decide +kernel
theorem dX11_had_17 : decode cX11_had 17 = .ok (.ifCond .eq 16, 3) := by decide +kernel
theorem dX11_had_20 : decode cX11_had 20 = .ok (.aload_n 0, 1) := by decide +kernel
theorem dX11_had_21 : decode cX11_had 21 = .ok (.getfield 10, 3) := by decide +kernel
theorem dX11_had_24 : decode cX11_had 24 = .ok (.getfield 135, 3) := by decide +kernel
theorem dX11_had_27 : decode cX11_had 27 = .ok (.iload_n 2, 1) := by decide +kernel
theorem dX11_had_28 : decode cX11_had 28 = .ok (.iaload, 1) := by decide +kernel
theorem dX11_had_29 : decode cX11_had 29 = .ok (.iconst (-1), 1) := by decide +kernel
theorem dX11_had_30 : decode cX11_had 30 = .ok (.if_icmp .ne 5, 3) := by decide +kernel
theorem dX11_had_33 : decode cX11_had 33 = .ok (.iconst (-1), 1) := by decide +kernel
theorem dX11_had_34 : decode cX11_had 34 = .ok (.ireturn, 1) := by decide +kernel
theorem dX11_had_35 : decode cX11_had 35 = .ok (.aload_n 0, 1) := by decide +kernel
theorem dX11_had_36 : decode cX11_had 36 = .ok (.getfield 64, 3) := by decide +kernel
theorem dX11_had_39 : decode cX11_had 39 = .ok (.aload_n 0, 1) := by decide +kernel
theorem dX11_had_40 : decode cX11_had 40 = .ok (.getfield 10, 3) := by decide +kernel
theorem dX11_had_43 : decode cX11_had 43 = .ok (.invokevirtual 334, 3) := by decide +kernel
theorem dX11_had_46 : decode cX11_had 46 = .ok (.iload_n 1, 1) := by decide +kernel
theorem dX11_had_47 : decode cX11_had 47 = .ok (.iconst (-1), 1) := by decide +kernel
theorem dX11_had_48 : decode cX11_had 48 = .ok (.if_icmp .ne 11, 3) := by decide +kernel
theorem dX11_had_51 : decode cX11_had 51 = .ok (.aload_n 0, 1) := by decide +kernel
theorem dX11_had_52 : decode cX11_had 52 = .ok (.getfield 64, 3) := by decide +kernel
theorem dX11_had_55 : decode cX11_had 55 = .ok (.getfield 337, 3) := by decide +kernel
theorem dX11_had_58 : decode cX11_had 58 = .ok (.ireturn, 1) := by decide +kernel
theorem dX11_had_59 : decode cX11_had 59 = .ok (.iload_n 1, 1) := by decide +kernel
theorem dX11_had_60 : decode cX11_had 60 = .ok (.aload_n 0, 1) := by decide +kernel
theorem dX11_had_61 : decode cX11_had 61 = .ok (.getfield 64, 3) := by decide +kernel
theorem dX11_had_64 : decode cX11_had 64 = .ok (.getfield 337, 3) := by decide +kernel
theorem dX11_had_67 : decode cX11_had 67 = .ok (.if_icmp .ge 15, 3) := by decide +kernel
theorem dX11_had_70 : decode cX11_had 70 = .ok (.aload_n 0, 1) := by decide +kernel
theorem dX11_had_71 : decode cX11_had 71 = .ok (.getfield 64, 3) := by decide +kernel
theorem dX11_had_74 : decode cX11_had 74 = .ok (.iload_n 1, 1) := by decide +kernel
theorem dX11_had_75 : decode cX11_had 75 = .ok (.iload_n 2, 1) := by decide +kernel
theorem dX11_had_76 : decode cX11_had 76 = .ok (.invokevirtual 340, 3) := by decide +kernel
theorem dX11_had_79 : decode cX11_had 79 = .ok (.goto 4, 3) := by decide +kernel
theorem dX11_had_82 : decode cX11_had 82 = .ok (.iconst (-1), 1) := by decide +kernel
theorem dX11_had_83 : decode cX11_had 83 = .ok (.ireturn, 1) := by decide +kernel
theorem dX11_ask_0 : decode cX11_ask 0 = .ok (.iload_n 1, 1) := by decide +kernel
theorem dX11_ask_1 : decode cX11_ask 1 = .ok (.ifCond .lt 8, 3) := by decide +kernel
theorem dX11_ask_4 : decode cX11_ask 4 = .ok (.iload_n 1, 1) := by decide +kernel
theorem dX11_ask_5 : decode cX11_ask 5 = .ok (.iconst 1, 1) := by decide +kernel
theorem dX11_ask_6 : decode cX11_ask 6 = .ok (.if_icmp .le 5, 3) := by decide +kernel
theorem dX11_ask_9 : decode cX11_ask 9 = .ok (.iconst (-1), 1) := by decide +kernel
theorem dX11_ask_10 : decode cX11_ask 10 = .ok (.ireturn, 1) := by decide +kernel
theorem dX11_ask_11 : decode cX11_ask 11 = .ok (.aload_n 0, 1) := by decide +kernel
theorem dX11_ask_12 : decode cX11_ask 12 = .ok (.getfield 64, 3) := by decide +kernel
theorem dX11_ask_15 : decode cX11_ask 15 = .ok (.aload_n 0, 1) := by decide +kernel
theorem dX11_ask_16 : decode cX11_ask 16 = .ok (.getfield 10, 3) := by decide +kernel
theorem dX11_ask_19 : decode cX11_ask 19 = .ok (.invokevirtual 334, 3) := by decide +kernel
theorem dX11_ask_22 : decode cX11_ask 22 = .ok (.aload_n 0, 1) := by decide +kernel
theorem dX11_ask_23 : decode cX11_ask 23 = .ok (.getfield 64, 3) := by decide +kernel
theorem dX11_ask_26 : decode cX11_ask 26 = .ok (.getfield 337, 3) := by decide +kernel
theorem dX11_ask_29 : decode cX11_ask 29 = .ok (.ifCond .ne 5, 3) := by decide +kernel
theorem dX11_ask_32 : decode cX11_ask 32 = .ok (.iconst (-1), 1) := by decide +kernel
theorem dX11_ask_33 : decode cX11_ask 33 = .ok (.ireturn, 1) := by decide +kernel
theorem dX11_ask_34 : decode cX11_ask 34 = .ok (.iconst (-1), 1) := by decide +kernel
theorem dX11_ask_35 : decode cX11_ask 35 = .ok (.istore_n 2, 1) := by decide +kernel
theorem dX11_ask_36 : decode cX11_ask 36 = .ok (.iconst (-1), 1) := by decide +kernel
theorem dX11_ask_37 : decode cX11_ask 37 = .ok (.istore_n 3, 1) := by decide +kernel
theorem dX11_ask_38 : decode cX11_ask 38 = .ok (.iconst 0, 1) := by decide +kernel
theorem dX11_ask_39 : decode cX11_ask 39 = .ok (.istore 4, 2) := by decide +kernel
theorem dX11_ask_41 : decode cX11_ask 41 = .ok (.iload 4, 2) := by decide +kernel
theorem dX11_ask_43 : decode cX11_ask 43 = .ok (.aload_n 0, 1) := by decide +kernel
theorem dX11_ask_44 : decode cX11_ask 44 = .ok (.getfield 10, 3) := by decide +kernel
theorem dX11_ask_47 : decode cX11_ask 47 = .ok (.getfield 280, 3) := by decide +kernel
theorem dX11_ask_50 : decode cX11_ask 50 = .ok (.if_icmp .ge 61, 3) := by decide +kernel
theorem dX11_ask_53 : decode cX11_ask 53 = .ok (.aload_n 0, 1) := by decide +kernel
theorem dX11_ask_54 : decode cX11_ask 54 = .ok (.getfield 10, 3) := by decide +kernel
theorem dX11_ask_57 : decode cX11_ask 57 = .ok (.getfield 135, 3) := by decide +kernel
theorem dX11_ask_60 : decode cX11_ask 60 = .ok (.iload 4, 2) := by decide +kernel
theorem dX11_ask_62 : decode cX11_ask 62 = .ok (.iaload, 1) := by decide +kernel
theorem dX11_ask_63 : decode cX11_ask 63 = .ok (.iconst (-1), 1) := by decide +kernel
theorem dX11_ask_64 : decode cX11_ask 64 = .ok (.if_icmp .ne 7, 3) := by decide +kernel
theorem dX11_ask_67 : decode cX11_ask 67 = .ok (.iconst (-1), 1) := by decide +kernel
theorem dX11_ask_68 : decode cX11_ask 68 = .ok (.goto 12, 3) := by decide +kernel
theorem dX11_ask_71 : decode cX11_ask 71 = .ok (.aload_n 0, 1) := by decide +kernel
theorem dX11_ask_72 : decode cX11_ask 72 = .ok (.getfield 64, 3) := by decide +kernel
theorem dX11_ask_75 : decode cX11_ask 75 = .ok (.iload 4, 2) := by decide +kernel
theorem dX11_ask_77 : decode cX11_ask 77 = .ok (.invokevirtual 343, 3) := by decide +kernel
theorem dX11_ask_80 : decode cX11_ask 80 = .ok (.istore 5, 2) := by decide +kernel
theorem dX11_ask_82 : decode cX11_ask 82 = .ok (.iload 5, 2) := by decide +kernel
theorem dX11_ask_84 : decode cX11_ask 84 = .ok (.iconst (-1), 1) := by decide +kernel
theorem dX11_ask_85 : decode cX11_ask 85 = .ok (.if_icmp .eq 20, 3) := by decide +kernel
theorem dX11_ask_88 : decode cX11_ask 88 = .ok (.iload_n 3, 1) := by decide +kernel
theorem dX11_ask_89 : decode cX11_ask 89 = .ok (.iconst (-1), 1) := by decide +kernel
theorem dX11_ask_90 : decode cX11_ask 90 = .ok (.if_icmp .eq 9, 3) := by decide +kernel
theorem dX11_ask_93 : decode cX11_ask 93 = .ok (.iload 5, 2) := by decide +kernel
theorem dX11_ask_95 : decode cX11_ask 95 = .ok (.iload_n 3, 1) := by decide +kernel
theorem dX11_ask_96 : decode cX11_ask 96 = .ok (.if_icmp .ge 9, 3) := by decide +kernel
theorem dX11_ask_99 : decode cX11_ask 99 = .ok (.iload 5, 2) := by decide +kernel
theorem dX11_ask_101 : decode cX11_ask 101 = .ok (.istore_n 3, 1) := by decide +kernel
theorem dX11_ask_102 : decode cX11_ask 102 = .ok (.iload 4, 2) := by decide +kernel
theorem dX11_ask_104 : decode cX11_ask 104 = .ok (.istore_n 2, 1) := by decide +kernel
theorem dX11_ask_105 : decode cX11_ask 105 = .ok (.iinc 4 1, 3) := by decide +kernel
theorem dX11_ask_108 : decode cX11_ask 108 = .ok (.goto (-67), 3) := by decide +kernel
theorem dX11_ask_111 : decode cX11_ask 111 = .ok (.iload_n 1, 1) := by decide +kernel
theorem dX11_ask_112 : decode cX11_ask 112 = .ok (.ifCond .ne 7, 3) := by decide +kernel
theorem dX11_ask_115 : decode cX11_ask 115 = .ok (.iload_n 2, 1) := by decide +kernel
theorem dX11_ask_116 : decode cX11_ask 116 = .ok (.goto 4, 3) := by decide +kernel
theorem dX11_ask_119 : decode cX11_ask 119 = .ok (.iload_n 3, 1) := by decide +kernel
theorem dX11_ask_120 : decode cX11_ask 120 = .ok (.ireturn, 1) := by decide +kernel
theorem dX11_few_0 : decode cX11_few 0 = .ok (.iload_n 1, 1) := by decide +kernel
theorem dX11_few_1 : decode cX11_few 1 = .ok (.iconst 1, 1) := by decide +kernel
theorem dX11_few_2 : decode cX11_few 2 = .ok (.if_icmp .lt 22, 3) := by decide +kernel
theorem dX11_few_5 : decode cX11_few 5 = .ok (.iload_n 1, 1) := by decide +kernel
theorem dX11_few_6 : decode cX11_few 6 = .ok (.aload_n 0, 1) := by decide +kernel
theorem dX11_few_7 : decode cX11_few 7 = .ok (.getfield 91, 3) := by decide +kernel
theorem dX11_few_10 : decode cX11_few 10 = .ok (.arraylength, 1) := by decide +kernel
theorem dX11_few_11 : decode cX11_few 11 = .ok (.if_icmp .gt 13, 3) := by decide +kernel
theorem dX11_few_14 : decode cX11_few 14 = .ok (.iload_n 2, 1) := by decide +kernel
theorem dX11_few_15 : decode cX11_few 15 = .ok (.ifCond .lt 9, 3) := by decide +kernel
theorem dX11_few_18 : decode cX11_few 18 = .ok (.iload_n 2, 1) := by decide +kernel
theorem dX11_few_19 : decode cX11_few 19 = .ok (.bipush 99, 2) := by decide +kernel
theorem dX11_few_21 : decode cX11_few 21 = .ok (.if_icmp .le 7, 3) := by decide +kernel
theorem dX11_few_24 : decode cX11_few 24 = .ok (.ldc2_w 346, 3) := by decide +kernel
theorem dX11_few_27 : decode cX11_few 27 = .ok (.lreturn, 1) := by decide +kernel
theorem dX11_few_28 : decode cX11_few 28 = .ok (.aload_n 0, 1) := by decide +kernel
theorem dX11_few_29 : decode cX11_few 29 = .ok (.getfield 10, 3) := by decide +kernel
theorem dX11_few_32 : decode cX11_few 32 = .ok (.getfield 187, 3) := by decide +kernel
theorem dX11_few_35 : decode cX11_few 35 = .ok (.iconst 1, 1) := by decide +kernel
theorem dX11_few_36 : decode cX11_few 36 = .ok (.iaload, 1) := by decide +kernel
theorem dX11_few_37 : decode cX11_few 37 = .ok (.istore_n 3, 1) := by decide +kernel
theorem dX11_few_38 : decode cX11_few 38 = .ok (.aload_n 0, 1) := by decide +kernel
theorem dX11_few_39 : decode cX11_few 39 = .ok (.getfield 91, 3) := by decide +kernel
theorem dX11_few_42 : decode cX11_few 42 = .ok (.lconst 0, 1) := by decide +kernel
theorem dX11_few_43 : decode cX11_few 43 = .ok (.invokestatic 348, 3) := by decide +kernel
theorem dX11_few_46 : decode cX11_few 46 = .ok (.aload_n 0, 1) := by decide +kernel
theorem dX11_few_47 : decode cX11_few 47 = .ok (.getfield 91, 3) := by decide +kernel
theorem dX11_few_50 : decode cX11_few 50 = .ok (.iconst 0, 1) := by decide +kernel
theorem dX11_few_51 : decode cX11_few 51 = .ok (.ldc2_w 351, 3) := by decide +kernel
theorem dX11_few_54 : decode cX11_few 54 = .ok (.lastore, 1) := by decide +kernel
theorem dX11_few_55 : decode cX11_few 55 = .ok (.iconst 0, 1) := by decide +kernel
theorem dX11_few_56 : decode cX11_few 56 = .ok (.istore 4, 2) := by decide +kernel
theorem dX11_few_58 : decode cX11_few 58 = .ok (.iload 4, 2) := by decide +kernel
theorem dX11_few_60 : decode cX11_few 60 = .ok (.iload_n 2, 1) := by decide +kernel
theorem dX11_few_61 : decode cX11_few 61 = .ok (.if_icmp .ge 88, 3) := by decide +kernel
theorem dX11_few_64 : decode cX11_few 64 = .ok (.iload_n 1, 1) := by decide +kernel
theorem dX11_few_65 : decode cX11_few 65 = .ok (.iconst 1, 1) := by decide +kernel
theorem dX11_few_66 : decode cX11_few 66 = .ok (.isub, 1) := by decide +kernel
theorem dX11_few_67 : decode cX11_few 67 = .ok (.istore 5, 2) := by decide +kernel
theorem dX11_few_69 : decode cX11_few 69 = .ok (.iload 5, 2) := by decide +kernel
theorem dX11_few_71 : decode cX11_few 71 = .ok (.ifCond .le 50, 3) := by decide +kernel
theorem dX11_few_74 : decode cX11_few 74 = .ok (.aload_n 0, 1) := by decide +kernel
theorem dX11_few_75 : decode cX11_few 75 = .ok (.getfield 91, 3) := by decide +kernel
theorem dX11_few_78 : decode cX11_few 78 = .ok (.iload 5, 2) := by decide +kernel
theorem dX11_few_80 : decode cX11_few 80 = .ok (.aload_n 0, 1) := by decide +kernel
theorem dX11_few_81 : decode cX11_few 81 = .ok (.getfield 91, 3) := by decide +kernel
theorem dX11_few_84 : decode cX11_few 84 = .ok (.iload 5, 2) := by decide +kernel
theorem dX11_few_86 : decode cX11_few 86 = .ok (.laload, 1) := by decide +kernel
theorem dX11_few_87 : decode cX11_few 87 = .ok (.bipush 10, 2) := by decide +kernel
theorem dX11_few_89 : decode cX11_few 89 = .ok (.iload_n 3, 1) := by decide +kernel
theorem dX11_few_90 : decode cX11_few 90 = .ok (.isub, 1) := by decide +kernel
theorem dX11_few_91 : decode cX11_few 91 = .ok (.i2l, 1) := by decide +kernel
theorem dX11_few_92 : decode cX11_few 92 = .ok (.lmul, 1) := by decide +kernel
theorem dX11_few_93 : decode cX11_few 93 = .ok (.ldc2_w 353, 3) := by decide +kernel
theorem dX11_few_96 : decode cX11_few 96 = .ok (.ldiv, 1) := by decide +kernel
theorem dX11_few_97 : decode cX11_few 97 = .ok (.aload_n 0, 1) := by decide +kernel
theorem dX11_few_98 : decode cX11_few 98 = .ok (.getfield 91, 3) := by decide +kernel
theorem dX11_few_101 : decode cX11_few 101 = .ok (.iload 5, 2) := by decide +kernel
theorem dX11_few_103 : decode cX11_few 103 = .ok (.iconst 1, 1) := by decide +kernel
theorem dX11_few_104 : decode cX11_few 104 = .ok (.isub, 1) := by decide +kernel
theorem dX11_few_105 : decode cX11_few 105 = .ok (.laload, 1) := by decide +kernel
theorem dX11_few_106 : decode cX11_few 106 = .ok (.iload_n 3, 1) := by decide +kernel
theorem dX11_few_107 : decode cX11_few 107 = .ok (.i2l, 1) := by decide +kernel
theorem dX11_few_108 : decode cX11_few 108 = .ok (.lmul, 1) := by decide +kernel
theorem dX11_few_109 : decode cX11_few 109 = .ok (.ldc2_w 353, 3) := by decide +kernel
theorem dX11_few_112 : decode cX11_few 112 = .ok (.ldiv, 1) := by decide +kernel
theorem dX11_few_113 : decode cX11_few 113 = .ok (.ladd, 1) := by decide +kernel
theorem dX11_few_114 : decode cX11_few 114 = .ok (.lastore, 1) := by decide +kernel
theorem dX11_few_115 : decode cX11_few 115 = .ok (.iinc 5 (-1), 3) := by decide +kernel
theorem dX11_few_118 : decode cX11_few 118 = .ok (.goto (-49), 3) := by decide +kernel
theorem dX11_few_121 : decode cX11_few 121 = .ok (.aload_n 0, 1) := by decide +kernel
theorem dX11_few_122 : decode cX11_few 122 = .ok (.getfield 91, 3) := by decide +kernel
theorem dX11_few_125 : decode cX11_few 125 = .ok (.iconst 0, 1) := by decide +kernel
theorem dX11_few_126 : decode cX11_few 126 = .ok (.aload_n 0, 1) := by decide +kernel
theorem dX11_few_127 : decode cX11_few 127 = .ok (.getfield 91, 3) := by decide +kernel
theorem dX11_few_130 : decode cX11_few 130 = .ok (.iconst 0, 1) := by decide +kernel
theorem dX11_few_131 : decode cX11_few 131 = .ok (.laload, 1) := by decide +kernel
theorem dX11_few_132 : decode cX11_few 132 = .ok (.bipush 10, 2) := by decide +kernel
theorem dX11_few_134 : decode cX11_few 134 = .ok (.iload_n 3, 1) := by decide +kernel
theorem dX11_few_135 : decode cX11_few 135 = .ok (.isub, 1) := by decide +kernel
theorem dX11_few_136 : decode cX11_few 136 = .ok (.i2l, 1) := by decide +kernel
theorem dX11_few_137 : decode cX11_few 137 = .ok (.lmul, 1) := by decide +kernel
theorem dX11_few_138 : decode cX11_few 138 = .ok (.ldc2_w 353, 3) := by decide +kernel
theorem dX11_few_141 : decode cX11_few 141 = .ok (.ldiv, 1) := by decide +kernel
theorem dX11_few_142 : decode cX11_few 142 = .ok (.lastore, 1) := by decide +kernel
theorem dX11_few_143 : decode cX11_few 143 = .ok (.iinc 4 1, 3) := by decide +kernel
theorem dX11_few_146 : decode cX11_few 146 = .ok (.goto (-88), 3) := by decide +kernel
theorem dX11_few_149 : decode cX11_few 149 = .ok (.lconst 0, 1) := by decide +kernel
theorem dX11_few_150 : decode cX11_few 150 = .ok (.lstore 4, 2) := by decide +kernel
theorem dX11_few_152 : decode cX11_few 152 = .ok (.iconst 0, 1) := by decide +kernel
theorem dX11_few_153 : decode cX11_few 153 = .ok (.istore 6, 2) := by decide +kernel
theorem dX11_few_155 : decode cX11_few 155 = .ok (.iload 6, 2) := by decide +kernel
theorem dX11_few_157 : decode cX11_few 157 = .ok (.iload_n 1, 1) := by decide +kernel
theorem dX11_few_158 : decode cX11_few 158 = .ok (.if_icmp .ge 21, 3) := by decide +kernel
theorem dX11_few_161 : decode cX11_few 161 = .ok (.lload 4, 2) := by decide +kernel
theorem dX11_few_163 : decode cX11_few 163 = .ok (.aload_n 0, 1) := by decide +kernel
theorem dX11_few_164 : decode cX11_few 164 = .ok (.getfield 91, 3) := by decide +kernel
theorem dX11_few_167 : decode cX11_few 167 = .ok (.iload 6, 2) := by decide +kernel
theorem dX11_few_169 : decode cX11_few 169 = .ok (.laload, 1) := by decide +kernel
theorem dX11_few_170 : decode cX11_few 170 = .ok (.ladd, 1) := by decide +kernel
theorem dX11_few_171 : decode cX11_few 171 = .ok (.lstore 4, 2) := by decide +kernel
theorem dX11_few_173 : decode cX11_few 173 = .ok (.iinc 6 1, 3) := by decide +kernel
theorem dX11_few_176 : decode cX11_few 176 = .ok (.goto (-21), 3) := by decide +kernel
theorem dX11_few_179 : decode cX11_few 179 = .ok (.lload 4, 2) := by decide +kernel
theorem dX11_few_181 : decode cX11_few 181 = .ok (.lreturn, 1) := by decide +kernel
theorem dX11_compare_0 : decode cX11_compare 0 = .ok (.iload_n 1, 1) := by decide +kernel
theorem dX11_compare_1 : decode cX11_compare 1 = .ok (.iconst (-1), 1) := by decide +kernel
theorem dX11_compare_2 : decode cX11_compare 2 = .ok (.if_icmp .eq 16, 3) := by decide +kernel
theorem dX11_compare_5 : decode cX11_compare 5 = .ok (.aload_n 0, 1) := by decide +kernel
theorem dX11_compare_6 : decode cX11_compare 6 = .ok (.getfield 10, 3) := by decide +kernel
theorem dX11_compare_9 : decode cX11_compare 9 = .ok (.iload_n 1, 1) := by decide +kernel
theorem dX11_compare_10 : decode cX11_compare 10 = .ok (.invokevirtual 236, 3) := by decide +kernel
theorem dX11_compare_13 : decode cX11_compare 13 = .ok (.ifCond .ne 5, 3) := by decide +kernel
theorem dX11_compare_16 : decode cX11_compare 16 = .ok (.iconst (-1), 1) := by decide +kernel
theorem dX11_compare_17 : decode cX11_compare 17 = .ok (.ireturn, 1) := by decide +kernel
theorem dX11_compare_18 : decode cX11_compare 18 = .ok (.aload_n 0, 1) := by decide +kernel
theorem dX11_compare_19 : decode cX11_compare 19 = .ok (.aload_n 0, 1) := by decide +kernel
theorem dX11_compare_20 : decode cX11_compare 20 = .ok (.getfield 10, 3) := by decide +kernel
theorem dX11_compare_23 : decode cX11_compare 23 = .ok (.iload_n 1, 1) := by decide +kernel
theorem dX11_compare_24 : decode cX11_compare 24 = .ok (.invokevirtual 355, 3) := by decide +kernel
theorem dX11_compare_27 : decode cX11_compare 27 = .ok (.invokevirtual 261, 3) := by decide +kernel
theorem dX11_compare_30 : decode cX11_compare 30 = .ok (.aload_n 0, 1) := by decide +kernel
theorem dX11_compare_31 : decode cX11_compare 31 = .ok (.getfield 55, 3) := by decide +kernel
theorem dX11_compare_34 : decode cX11_compare 34 = .ok (.aload_n 0, 1) := by decide +kernel
theorem dX11_compare_35 : decode cX11_compare 35 = .ok (.getfield 39, 3) := by decide +kernel
theorem dX11_compare_38 : decode cX11_compare 38 = .ok (.invokevirtual 272, 3) := by decide +kernel
theorem dX11_compare_41 : decode cX11_compare 41 = .ok (.ireturn, 1) := by decide +kernel
theorem dX11_days_0 : decode cX11_days 0 = .ok (.iload_n 1, 1) := by decide +kernel
theorem dX11_days_1 : decode cX11_days 1 = .ok (.ifCond .lt 21, 3) := by decide +kernel
theorem dX11_days_4 : decode cX11_days 4 = .ok (.iload_n 1, 1) := by decide +kernel
theorem dX11_days_5 : decode cX11_days 5 = .ok (.ldc_w 359, 3) := by decide +kernel
theorem dX11_days_8 : decode cX11_days 8 = .ok (.if_icmp .gt 14, 3) := by decide +kernel
theorem dX11_days_11 : decode cX11_days 11 = .ok (.iload_n 2, 1) := by decide +kernel
theorem dX11_days_12 : decode cX11_days 12 = .ok (.iconst 1, 1) := by decide +kernel
theorem dX11_days_13 : decode cX11_days 13 = .ok (.if_icmp .lt 9, 3) := by decide +kernel
theorem dX11_days_16 : decode cX11_days 16 = .ok (.iload_n 2, 1) := by decide +kernel
theorem dX11_days_17 : decode cX11_days 17 = .ok (.bipush 60, 2) := by decide +kernel
theorem dX11_days_19 : decode cX11_days 19 = .ok (.if_icmp .le 9, 3) := by decide +kernel
theorem dX11_days_22 : decode cX11_days 22 = .ok (.aload_n 0, 1) := by decide +kernel
theorem dX11_days_23 : decode cX11_days 23 = .ok (.iconst (-1), 1) := by decide +kernel
theorem dX11_days_24 : decode cX11_days 24 = .ok (.invokevirtual 109, 3) := by decide +kernel
theorem dX11_days_27 : decode cX11_days 27 = .ok (.ireturn, 1) := by decide +kernel
theorem dX11_days_28 : decode cX11_days 28 = .ok (.aload_n 0, 1) := by decide +kernel
theorem dX11_days_29 : decode cX11_days 29 = .ok (.getfield 10, 3) := by decide +kernel
theorem dX11_days_32 : decode cX11_days 32 = .ok (.getfield 280, 3) := by decide +kernel
theorem dX11_days_35 : decode cX11_days 35 = .ok (.ifCond .eq 13, 3) := by decide +kernel
theorem dX11_days_38 : decode cX11_days 38 = .ok (.aload_n 0, 1) := by decide +kernel
theorem dX11_days_39 : decode cX11_days 39 = .ok (.getfield 10, 3) := by decide +kernel
theorem dX11_days_42 : decode cX11_days 42 = .ok (.getfield 360, 3) := by decide +kernel
theorem dX11_days_45 : decode cX11_days 45 = .ok (.ifCond .ne 10, 3) := by decide +kernel
theorem dX11_days_48 : decode cX11_days 48 = .ok (.aload_n 0, 1) := by decide +kernel
theorem dX11_days_49 : decode cX11_days 49 = .ok (.bipush (-3), 2) := by decide +kernel
theorem dX11_days_51 : decode cX11_days 51 = .ok (.invokevirtual 109, 3) := by decide +kernel
theorem dX11_days_54 : decode cX11_days 54 = .ok (.ireturn, 1) := by decide +kernel
theorem dX11_days_55 : decode cX11_days 55 = .ok (.aload_n 0, 1) := by decide +kernel
theorem dX11_days_56 : decode cX11_days 56 = .ok (.getfield 16, 3) := by decide +kernel
theorem dX11_days_59 : decode cX11_days 59 = .ok (.aload_n 0, 1) := by decide +kernel
theorem dX11_days_60 : decode cX11_days 60 = .ok (.getfield 10, 3) := by decide +kernel
theorem dX11_days_63 : decode cX11_days 63 = .ok (.invokevirtual 223, 3) := by decide +kernel
theorem dX11_days_66 : decode cX11_days 66 = .ok (.aload_n 0, 1) := by decide +kernel
theorem dX11_days_67 : decode cX11_days 67 = .ok (.getfield 39, 3) := by decide +kernel
theorem dX11_days_70 : decode cX11_days 70 = .ok (.aload_n 0, 1) := by decide +kernel
theorem dX11_days_71 : decode cX11_days 71 = .ok (.getfield 16, 3) := by decide +kernel
theorem dX11_days_74 : decode cX11_days 74 = .ok (.aload_n 0, 1) := by decide +kernel
theorem dX11_days_75 : decode cX11_days 75 = .ok (.getfield 16, 3) := by decide +kernel
theorem dX11_days_78 : decode cX11_days 78 = .ok (.invokevirtual 138, 3) := by decide +kernel
theorem dX11_days_81 : decode cX11_days 81 = .ok (.invokevirtual 142, 3) := by decide +kernel
theorem dX11_days_84 : decode cX11_days 84 = .ok (.aload_n 0, 1) := by decide +kernel
theorem dX11_days_85 : decode cX11_days 85 = .ok (.getfield 48, 3) := by decide +kernel
theorem dX11_days_88 : decode cX11_days 88 = .ok (.iload_n 1, 1) := by decide +kernel
theorem dX11_days_89 : decode cX11_days 89 = .ok (.i2l, 1) := by decide +kernel
theorem dX11_days_90 : decode cX11_days 90 = .ok (.putfield 363, 3) := by decide +kernel
theorem dX11_days_93 : decode cX11_days 93 = .ok (.iconst 0, 1) := by decide +kernel
theorem dX11_days_94 : decode cX11_days 94 = .ok (.istore_n 3, 1) := by decide +kernel
theorem dX11_days_95 : decode cX11_days 95 = .ok (.iconst 0, 1) := by decide +kernel
theorem dX11_days_96 : decode cX11_days 96 = .ok (.istore 4, 2) := by decide +kernel
theorem dX11_days_98 : decode cX11_days 98 = .ok (.iload 4, 2) := by decide +kernel
theorem dX11_days_100 : decode cX11_days 100 = .ok (.iload_n 2, 1) := by decide +kernel
theorem dX11_days_101 : decode cX11_days 101 = .ok (.if_icmp .ge 53, 3) := by decide +kernel
theorem dX11_days_104 : decode cX11_days 104 = .ok (.aload_n 0, 1) := by decide +kernel
theorem dX11_days_105 : decode cX11_days 105 = .ok (.getfield 16, 3) := by decide +kernel
theorem dX11_days_108 : decode cX11_days 108 = .ok (.getfield 187, 3) := by decide +kernel
theorem dX11_days_111 : decode cX11_days 111 = .ok (.iconst 0, 1) := by decide +kernel
theorem dX11_days_112 : decode cX11_days 112 = .ok (.iaload, 1) := by decide +kernel
theorem dX11_days_113 : decode cX11_days 113 = .ok (.sipush 999, 3) := by decide +kernel
theorem dX11_days_116 : decode cX11_days 116 = .ok (.if_icmp .ge 38, 3) := by decide +kernel
theorem dX11_days_119 : decode cX11_days 119 = .ok (.aload_n 0, 1) := by decide +kernel
theorem dX11_days_120 : decode cX11_days 120 = .ok (.getfield 48, 3) := by decide +kernel
theorem dX11_days_123 : decode cX11_days 123 = .ok (.aload_n 0, 1) := by decide +kernel
theorem dX11_days_124 : decode cX11_days 124 = .ok (.getfield 16, 3) := by decide +kernel
theorem dX11_days_127 : decode cX11_days 127 = .ok (.invokevirtual 367, 3) := by decide +kernel
theorem dX11_days_130 : decode cX11_days 130 = .ok (.ifCond .lt 6, 3) := by decide +kernel
theorem dX11_days_133 : decode cX11_days 133 = .ok (.iinc 3 1, 3) := by decide +kernel
theorem dX11_days_136 : decode cX11_days 136 = .ok (.aload_n 0, 1) := by decide +kernel
theorem dX11_days_137 : decode cX11_days 137 = .ok (.getfield 48, 3) := by decide +kernel
theorem dX11_days_140 : decode cX11_days 140 = .ok (.aload_n 0, 1) := by decide +kernel
theorem dX11_days_141 : decode cX11_days 141 = .ok (.getfield 16, 3) := by decide +kernel
theorem dX11_days_144 : decode cX11_days 144 = .ok (.invokevirtual 253, 3) := by decide +kernel
theorem dX11_days_147 : decode cX11_days 147 = .ok (.pop, 1) := by decide +kernel
theorem dX11_days_148 : decode cX11_days 148 = .ok (.iinc 4 1, 3) := by decide +kernel
theorem dX11_days_151 : decode cX11_days 151 = .ok (.goto (-53), 3) := by decide +kernel
theorem dX11_days_154 : decode cX11_days 154 = .ok (.aload_n 0, 1) := by decide +kernel
theorem dX11_days_155 : decode cX11_days 155 = .ok (.getfield 16, 3) := by decide +kernel
theorem dX11_days_158 : decode cX11_days 158 = .ok (.getfield 135, 3) := by decide +kernel
theorem dX11_days_161 : decode cX11_days 161 = .ok (.iconst 0, 1) := by decide +kernel
theorem dX11_days_162 : decode cX11_days 162 = .ok (.aload_n 0, 1) := by decide +kernel
theorem dX11_days_163 : decode cX11_days 163 = .ok (.getfield 88, 3) := by decide +kernel
theorem dX11_days_166 : decode cX11_days 166 = .ok (.iconst 0, 1) := by decide +kernel
theorem dX11_days_167 : decode cX11_days 167 = .ok (.bipush 6, 2) := by decide +kernel
theorem dX11_days_169 : decode cX11_days 169 = .ok (.invokestatic 370, 3) := by decide +kernel
theorem dX11_days_172 : decode cX11_days 172 = .ok (.aload_n 0, 1) := by decide +kernel
theorem dX11_days_173 : decode cX11_days 173 = .ok (.iload_n 3, 1) := by decide +kernel
theorem dX11_days_174 : decode cX11_days 174 = .ok (.invokevirtual 122, 3) := by decide +kernel
theorem dX11_days_177 : decode cX11_days 177 = .ok (.ireturn, 1) := by decide +kernel
theorem dX11_drawn_0 : decode cX11_drawn 0 = .ok (.iload_n 1, 1) := by decide +kernel
theorem dX11_drawn_1 : decode cX11_drawn 1 = .ok (.ifCond .lt 18, 3) := by decide +kernel
theorem dX11_drawn_4 : decode cX11_drawn 4 = .ok (.iload_n 1, 1) := by decide +kernel
theorem dX11_drawn_5 : decode cX11_drawn 5 = .ok (.bipush 6, 2) := by decide +kernel
theorem dX11_drawn_7 : decode cX11_drawn 7 = .ok (.if_icmp .ge 12, 3) := by decide +kernel
theorem dX11_drawn_10 : decode cX11_drawn 10 = .ok (.aload_n 0, 1) := by decide +kernel
theorem dX11_drawn_11 : decode cX11_drawn 11 = .ok (.getfield 88, 3) := by decide +kernel
theorem dX11_drawn_14 : decode cX11_drawn 14 = .ok (.iload_n 1, 1) := by decide +kernel
theorem dX11_drawn_15 : decode cX11_drawn 15 = .ok (.iaload, 1) := by decide +kernel
theorem dX11_drawn_16 : decode cX11_drawn 16 = .ok (.goto 4, 3) := by decide +kernel
theorem dX11_drawn_19 : decode cX11_drawn 19 = .ok (.iconst (-1), 1) := by decide +kernel
theorem dX11_drawn_20 : decode cX11_drawn 20 = .ok (.ireturn, 1) := by decide +kernel
theorem dX11_image_0 : decode cX11_image 0 = .ok (.iload_n 1, 1) := by decide +kernel
theorem dX11_image_1 : decode cX11_image 1 = .ok (.ifCond .lt 8, 3) := by decide +kernel
theorem dX11_image_4 : decode cX11_image 4 = .ok (.iload_n 1, 1) := by decide +kernel
theorem dX11_image_5 : decode cX11_image 5 = .ok (.iconst 1, 1) := by decide +kernel
theorem dX11_image_6 : decode cX11_image 6 = .ok (.if_icmp .le 9, 3) := by decide +kernel
theorem dX11_image_9 : decode cX11_image 9 = .ok (.aload_n 0, 1) := by decide +kernel
theorem dX11_image_10 : decode cX11_image 10 = .ok (.iconst (-1), 1) := by decide +kernel
theorem dX11_image_11 : decode cX11_image 11 = .ok (.invokevirtual 109, 3) := by decide +kernel
theorem dX11_image_14 : decode cX11_image 14 = .ok (.ireturn, 1) := by decide +kernel
theorem dX11_image_15 : decode cX11_image 15 = .ok (.aload_n 0, 1) := by decide +kernel
theorem dX11_image_16 : decode cX11_image 16 = .ok (.getfield 19, 3) := by decide +kernel
theorem dX11_image_19 : decode cX11_image 19 = .ok (.iload_n 1, 1) := by decide +kernel
theorem dX11_image_20 : decode cX11_image 20 = .ok (.aaload, 1) := by decide +kernel
theorem dX11_image_21 : decode cX11_image 21 = .ok (.aload_n 0, 1) := by decide +kernel
theorem dX11_image_22 : decode cX11_image 22 = .ok (.getfield 10, 3) := by decide +kernel
theorem dX11_image_25 : decode cX11_image 25 = .ok (.invokevirtual 223, 3) := by decide +kernel
theorem dX11_image_28 : decode cX11_image 28 = .ok (.aload_n 0, 1) := by decide +kernel
theorem dX11_image_29 : decode cX11_image 29 = .ok (.getfield 23, 3) := by decide +kernel
theorem dX11_image_32 : decode cX11_image 32 = .ok (.iload_n 1, 1) := by decide +kernel
theorem dX11_image_33 : decode cX11_image 33 = .ok (.iconst 1, 1) := by decide +kernel
theorem dX11_image_34 : decode cX11_image 34 = .ok (.bastore, 1) := by decide +kernel
theorem dX11_image_35 : decode cX11_image 35 = .ok (.aload_n 0, 1) := by decide +kernel
theorem dX11_image_36 : decode cX11_image 36 = .ok (.iconst 0, 1) := by decide +kernel
theorem dX11_image_37 : decode cX11_image 37 = .ok (.invokevirtual 122, 3) := by decide +kernel
theorem dX11_image_40 : decode cX11_image 40 = .ok (.ireturn, 1) := by decide +kernel
theorem dX11_back_0 : decode cX11_back 0 = .ok (.iload_n 1, 1) := by decide +kernel
theorem dX11_back_1 : decode cX11_back 1 = .ok (.ifCond .lt 8, 3) := by decide +kernel
theorem dX11_back_4 : decode cX11_back 4 = .ok (.iload_n 1, 1) := by decide +kernel
theorem dX11_back_5 : decode cX11_back 5 = .ok (.iconst 1, 1) := by decide +kernel
theorem dX11_back_6 : decode cX11_back 6 = .ok (.if_icmp .le 9, 3) := by decide +kernel
theorem dX11_back_9 : decode cX11_back 9 = .ok (.aload_n 0, 1) := by decide +kernel
theorem dX11_back_10 : decode cX11_back 10 = .ok (.iconst (-1), 1) := by decide +kernel
theorem dX11_back_11 : decode cX11_back 11 = .ok (.invokevirtual 109, 3) := by decide +kernel
theorem dX11_back_14 : decode cX11_back 14 = .ok (.ireturn, 1) := by decide +kernel
theorem dX11_back_15 : decode cX11_back 15 = .ok (.aload_n 0, 1) := by decide +kernel
theorem dX11_back_16 : decode cX11_back 16 = .ok (.getfield 23, 3) := by decide +kernel
theorem dX11_back_19 : decode cX11_back 19 = .ok (.iload_n 1, 1) := by decide +kernel
theorem dX11_back_20 : decode cX11_back 20 = .ok (.baload, 1) := by decide +kernel
theorem dX11_back_21 : decode cX11_back 21 = .ok (.ifCond .ne 10, 3) := by decide +kernel
theorem dX11_back_24 : decode cX11_back 24 = .ok (.aload_n 0, 1) := by decide +kernel
theorem dX11_back_25 : decode cX11_back 25 = .ok (.bipush (-2), 2) := by decide +kernel
theorem dX11_back_27 : decode cX11_back 27 = .ok (.invokevirtual 109, 3) := by decide +kernel
theorem dX11_back_30 : decode cX11_back 30 = .ok (.ireturn, 1) := by decide +kernel
theorem dX11_back_31 : decode cX11_back 31 = .ok (.aload_n 0, 1) := by decide +kernel
theorem dX11_back_32 : decode cX11_back 32 = .ok (.getfield 10, 3) := by decide +kernel
theorem dX11_back_35 : decode cX11_back 35 = .ok (.aload_n 0, 1) := by decide +kernel
theorem dX11_back_36 : decode cX11_back 36 = .ok (.getfield 19, 3) := by decide +kernel
theorem dX11_back_39 : decode cX11_back 39 = .ok (.iload_n 1, 1) := by decide +kernel
theorem dX11_back_40 : decode cX11_back 40 = .ok (.aaload, 1) := by decide +kernel
theorem dX11_back_41 : decode cX11_back 41 = .ok (.invokevirtual 223, 3) := by decide +kernel
theorem dX11_back_44 : decode cX11_back 44 = .ok (.aload_n 0, 1) := by decide +kernel
theorem dX11_back_45 : decode cX11_back 45 = .ok (.getfield 10, 3) := by decide +kernel
theorem dX11_back_48 : decode cX11_back 48 = .ok (.getfield 113, 3) := by decide +kernel
theorem dX11_back_51 : decode cX11_back 51 = .ok (.invokevirtual 117, 3) := by decide +kernel
theorem dX11_back_54 : decode cX11_back 54 = .ok (.aload_n 0, 1) := by decide +kernel
theorem dX11_back_55 : decode cX11_back 55 = .ok (.iconst 0, 1) := by decide +kernel
theorem dX11_back_56 : decode cX11_back 56 = .ok (.invokevirtual 122, 3) := by decide +kernel
theorem dX11_back_59 : decode cX11_back 59 = .ok (.ireturn, 1) := by decide +kernel
theorem dX11_count_0 : decode cX11_count 0 = .ok (.iload_n 1, 1) := by decide +kernel
theorem dX11_count_1 : decode cX11_count 1 = .ok (.bipush 8, 2) := by decide +kernel
theorem dX11_count_3 : decode cX11_count 3 = .ok (.if_icmp .lt 19, 3) := by decide +kernel
theorem dX11_count_6 : decode cX11_count 6 = .ok (.iload_n 1, 1) := by decide +kernel
theorem dX11_count_7 : decode cX11_count 7 = .ok (.bipush 12, 2) := by decide +kernel
theorem dX11_count_9 : decode cX11_count 9 = .ok (.if_icmp .gt 13, 3) := by decide +kernel
theorem dX11_count_12 : decode cX11_count 12 = .ok (.aload_n 0, 1) := by decide +kernel
theorem dX11_count_13 : decode cX11_count 13 = .ok (.getfield 84, 3) := by decide +kernel
theorem dX11_count_16 : decode cX11_count 16 = .ok (.iload_n 1, 1) := by decide +kernel
theorem dX11_count_17 : decode cX11_count 17 = .ok (.bipush 8, 2) := by decide +kernel
theorem dX11_count_19 : decode cX11_count 19 = .ok (.isub, 1) := by decide +kernel
theorem dX11_count_20 : decode cX11_count 20 = .ok (.iaload, 1) := by decide +kernel
theorem dX11_count_21 : decode cX11_count 21 = .ok (.ireturn, 1) := by decide +kernel
theorem dX11_count_22 : decode cX11_count 22 = .ok (.iload_n 1, 1) := by decide +kernel
theorem dX11_count_23 : decode cX11_count 23 = .ok (.bipush 14, 2) := by decide +kernel
theorem dX11_count_25 : decode cX11_count 25 = .ok (.if_icmp .lt 22, 3) := by decide +kernel
theorem dX11_count_28 : decode cX11_count 28 = .ok (.iload_n 1, 1) := by decide +kernel
theorem dX11_count_29 : decode cX11_count 29 = .ok (.bipush 16, 2) := by decide +kernel
theorem dX11_count_31 : decode cX11_count 31 = .ok (.if_icmp .gt 16, 3) := by decide +kernel
theorem dX11_count_34 : decode cX11_count 34 = .ok (.aload_n 0, 1) := by decide +kernel
theorem dX11_count_35 : decode cX11_count 35 = .ok (.getfield 10, 3) := by decide +kernel
theorem dX11_count_38 : decode cX11_count 38 = .ok (.getfield 187, 3) := by decide +kernel
theorem dX11_count_41 : decode cX11_count 41 = .ok (.iload_n 1, 1) := by decide +kernel
theorem dX11_count_42 : decode cX11_count 42 = .ok (.bipush 14, 2) := by decide +kernel
theorem dX11_count_44 : decode cX11_count 44 = .ok (.isub, 1) := by decide +kernel
theorem dX11_count_45 : decode cX11_count 45 = .ok (.iaload, 1) := by decide +kernel
theorem dX11_count_46 : decode cX11_count 46 = .ok (.ireturn, 1) := by decide +kernel
theorem dX11_count_47 : decode cX11_count 47 = .ok (.iload_n 1, 1) := by decide +kernel
theorem dX11_count_48 : decode cX11_count 48 = .ok (.tableswitch 155 0 13 #[72, 80, 88, 104, 112, 120, 128, 139, 155, 155, 155, 155, 155, 147], 72) := by decide +kernel
theorem dX11_count_120 : decode cX11_count 120 = .ok (.aload_n 0, 1) := by decide +kernel
theorem dX11_count_121 : decode cX11_count 121 = .ok (.getfield 10, 3) := by decide +kernel
theorem dX11_count_124 : decode cX11_count 124 = .ok (.getfield 280, 3) := by decide +kernel
theorem dX11_count_127 : decode cX11_count 127 = .ok (.ireturn, 1) := by decide +kernel
theorem dX11_count_128 : decode cX11_count 128 = .ok (.aload_n 0, 1) := by decide +kernel
theorem dX11_count_129 : decode cX11_count 129 = .ok (.getfield 10, 3) := by decide +kernel
theorem dX11_count_132 : decode cX11_count 132 = .ok (.getfield 360, 3) := by decide +kernel
theorem dX11_count_135 : decode cX11_count 135 = .ok (.ireturn, 1) := by decide +kernel
