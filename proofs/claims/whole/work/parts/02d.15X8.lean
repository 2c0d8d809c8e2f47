theorem dX8_init_0 : decode cX8_init 0 = .ok (.aload_n 0, 1) := by decide +kernel
theorem dX8_init_1 : decode cX8_init 1 = .ok (.invokespecial 5, 3) := by decide +kernel
theorem dX8_init_4 : decode cX8_init 4 = .ok (.aload_n 0, 1) := by decide +kernel
theorem dX8_init_5 : decode cX8_init 5 = .ok (.bipush 17, 2) := by decide +kernel
theorem dX8_init_7 : decode cX8_init 7 = .ok (.newarray .int, 2) := by decide +kernel
theorem dX8_init_9 : decode cX8_init 9 = .ok (.putfield 11, 3) := by decide +kernel
theorem dX8_init_12 : decode cX8_init 12 = .ok (.aload_n 0, 1) := by decide +kernel
theorem dX8_init_13 : decode cX8_init 13 = .ok (.aload_n 1, 1) := by decide +kernel
theorem dX8_init_14 : decode cX8_init 14 = .ok (.putfield 15, 3) := by decide +kernel
theorem dX8_init_17 : decode cX8_init 17 = .ok (.aload_n 0, 1) := by decide +kernel
theorem dX8_init_18 : decode cX8_init 18 = .ok (.aload_n 2, 1) := by decide +kernel
theorem dX8_init_19 : decode cX8_init 19 = .ok (.putfield 19, 3) := by decide +kernel
theorem dX8_init_22 : decode cX8_init 22 = .ok (.return_, 1) := by decide +kernel
theorem dX8_through_0 : decode cX8_through 0 = .ok (.aload_n 0, 1) := by decide +kernel
theorem dX8_through_1 : decode cX8_through 1 = .ok (.iconst 0, 1) := by decide +kernel
theorem dX8_through_2 : decode cX8_through 2 = .ok (.putfield 23, 3) := by decide +kernel
theorem dX8_through_5 : decode cX8_through 5 = .ok (.aload_n 0, 1) := by decide +kernel
theorem dX8_through_6 : decode cX8_through 6 = .ok (.iconst (-1), 1) := by decide +kernel
theorem dX8_through_7 : decode cX8_through 7 = .ok (.putfield 27, 3) := by decide +kernel
theorem dX8_through_10 : decode cX8_through 10 = .ok (.iconst 0, 1) := by decide +kernel
theorem dX8_through_11 : decode cX8_through 11 = .ok (.istore_n 3, 1) := by decide +kernel
theorem dX8_through_12 : decode cX8_through 12 = .ok (.iload_n 3, 1) := by decide +kernel
theorem dX8_through_13 : decode cX8_through 13 = .ok (.aload_n 2, 1) := by decide +kernel
theorem dX8_through_14 : decode cX8_through 14 = .ok (.getfield 30, 3) := by decide +kernel
theorem dX8_through_17 : decode cX8_through 17 = .ok (.if_icmp .ge 45, 3) := by decide +kernel
theorem dX8_through_20 : decode cX8_through 20 = .ok (.aload_n 2, 1) := by decide +kernel
theorem dX8_through_21 : decode cX8_through 21 = .ok (.iload_n 3, 1) := by decide +kernel
theorem dX8_through_22 : decode cX8_through 22 = .ok (.iconst 1, 1) := by decide +kernel
theorem dX8_through_23 : decode cX8_through 23 = .ok (.invokevirtual 35, 3) := by decide +kernel
theorem dX8_through_26 : decode cX8_through 26 = .ok (.istore 4, 2) := by decide +kernel
theorem dX8_through_28 : decode cX8_through 28 = .ok (.iconst 0, 1) := by decide +kernel
theorem dX8_through_29 : decode cX8_through 29 = .ok (.istore 5, 2) := by decide +kernel
theorem dX8_through_31 : decode cX8_through 31 = .ok (.iload 5, 2) := by decide +kernel
theorem dX8_through_33 : decode cX8_through 33 = .ok (.iload 4, 2) := by decide +kernel
theorem dX8_through_35 : decode cX8_through 35 = .ok (.if_icmp .ge 21, 3) := by decide +kernel
theorem dX8_through_38 : decode cX8_through 38 = .ok (.aload_n 0, 1) := by decide +kernel
theorem dX8_through_39 : decode cX8_through 39 = .ok (.aload_n 1, 1) := by decide +kernel
theorem dX8_through_40 : decode cX8_through 40 = .ok (.aload_n 2, 1) := by decide +kernel
theorem dX8_through_41 : decode cX8_through 41 = .ok (.iload_n 3, 1) := by decide +kernel
theorem dX8_through_42 : decode cX8_through 42 = .ok (.invokevirtual 39, 3) := by decide +kernel
theorem dX8_through_45 : decode cX8_through 45 = .ok (.ifCond .ne 5, 3) := by decide +kernel
theorem dX8_through_48 : decode cX8_through 48 = .ok (.iload_n 3, 1) := by decide +kernel
theorem dX8_through_49 : decode cX8_through 49 = .ok (.ireturn, 1) := by decide +kernel
theorem dX8_through_50 : decode cX8_through 50 = .ok (.iinc 5 1, 3) := by decide +kernel
theorem dX8_through_53 : decode cX8_through 53 = .ok (.goto (-22), 3) := by decide +kernel
theorem dX8_through_56 : decode cX8_through 56 = .ok (.iinc 3 1, 3) := by decide +kernel
theorem dX8_through_59 : decode cX8_through 59 = .ok (.goto (-47), 3) := by decide +kernel
theorem dX8_through_62 : decode cX8_through 62 = .ok (.iconst (-1), 1) := by decide +kernel
theorem dX8_through_63 : decode cX8_through 63 = .ok (.ireturn, 1) := by decide +kernel
theorem dX8_once_0 : decode cX8_once 0 = .ok (.aload_n 0, 1) := by decide +kernel
theorem dX8_once_1 : decode cX8_once 1 = .ok (.aload_n 1, 1) := by decide +kernel
theorem dX8_once_2 : decode cX8_once 2 = .ok (.aload_n 2, 1) := by decide +kernel
theorem dX8_once_3 : decode cX8_once 3 = .ok (.getfield 43, 3) := by decide +kernel
theorem dX8_once_6 : decode cX8_once 6 = .ok (.invokevirtual 47, 3) := by decide +kernel
theorem dX8_once_9 : decode cX8_once 9 = .ok (.aload_n 2, 1) := by decide +kernel
theorem dX8_once_10 : decode cX8_once 10 = .ok (.iload_n 3, 1) := by decide +kernel
theorem dX8_once_11 : decode cX8_once 11 = .ok (.iconst 2, 1) := by decide +kernel
theorem dX8_once_12 : decode cX8_once 12 = .ok (.invokevirtual 35, 3) := by decide +kernel
theorem dX8_once_15 : decode cX8_once 15 = .ok (.istore 4, 2) := by decide +kernel
theorem dX8_once_17 : decode cX8_once 17 = .ok (.iload 4, 2) := by decide +kernel
theorem dX8_once_19 : decode cX8_once 19 = .ok (.iconst (-1), 1) := by decide +kernel
theorem dX8_once_20 : decode cX8_once 20 = .ok (.if_icmp .eq 26, 3) := by decide +kernel
theorem dX8_once_23 : decode cX8_once 23 = .ok (.aload_n 0, 1) := by decide +kernel
theorem dX8_once_24 : decode cX8_once 24 = .ok (.getfield 15, 3) := by decide +kernel
theorem dX8_once_27 : decode cX8_once 27 = .ok (.getfield 51, 3) := by decide +kernel
theorem dX8_once_30 : decode cX8_once 30 = .ok (.aload_n 2, 1) := by decide +kernel
theorem dX8_once_31 : decode cX8_once 31 = .ok (.iload 4, 2) := by decide +kernel
theorem dX8_once_33 : decode cX8_once 33 = .ok (.aload_n 0, 1) := by decide +kernel
theorem dX8_once_34 : decode cX8_once 34 = .ok (.getfield 11, 3) := by decide +kernel
theorem dX8_once_37 : decode cX8_once 37 = .ok (.invokevirtual 57, 3) := by decide +kernel
theorem dX8_once_40 : decode cX8_once 40 = .ok (.iconst 1, 1) := by decide +kernel
theorem dX8_once_41 : decode cX8_once 41 = .ok (.if_icmp .eq 5, 3) := by decide +kernel
theorem dX8_once_44 : decode cX8_once 44 = .ok (.iconst 1, 1) := by decide +kernel
theorem dX8_once_45 : decode cX8_once 45 = .ok (.ireturn, 1) := by decide +kernel
theorem dX8_once_46 : decode cX8_once 46 = .ok (.aload_n 2, 1) := by decide +kernel
theorem dX8_once_47 : decode cX8_once 47 = .ok (.iload_n 3, 1) := by decide +kernel
theorem dX8_once_48 : decode cX8_once 48 = .ok (.iconst 3, 1) := by decide +kernel
theorem dX8_once_49 : decode cX8_once 49 = .ok (.invokevirtual 35, 3) := by decide +kernel
theorem dX8_once_52 : decode cX8_once 52 = .ok (.istore 5, 2) := by decide +kernel
theorem dX8_once_54 : decode cX8_once 54 = .ok (.aload_n 2, 1) := by decide +kernel
theorem dX8_once_55 : decode cX8_once 55 = .ok (.iload_n 3, 1) := by decide +kernel
theorem dX8_once_56 : decode cX8_once 56 = .ok (.iconst 4, 1) := by decide +kernel
theorem dX8_once_57 : decode cX8_once 57 = .ok (.invokevirtual 35, 3) := by decide +kernel
theorem dX8_once_60 : decode cX8_once 60 = .ok (.istore 6, 2) := by decide +kernel
theorem dX8_once_62 : decode cX8_once 62 = .ok (.iload 5, 2) := by decide +kernel
theorem dX8_once_64 : decode cX8_once 64 = .ok (.iconst (-1), 1) := by decide +kernel
theorem dX8_once_65 : decode cX8_once 65 = .ok (.if_icmp .ne 7, 3) := by decide +kernel
theorem dX8_once_68 : decode cX8_once 68 = .ok (.iconst 0, 1) := by decide +kernel
theorem dX8_once_69 : decode cX8_once 69 = .ok (.goto 20, 3) := by decide +kernel
theorem dX8_once_72 : decode cX8_once 72 = .ok (.aload_n 0, 1) := by decide +kernel
theorem dX8_once_73 : decode cX8_once 73 = .ok (.getfield 15, 3) := by decide +kernel
theorem dX8_once_76 : decode cX8_once 76 = .ok (.getfield 51, 3) := by decide +kernel
theorem dX8_once_79 : decode cX8_once 79 = .ok (.aload_n 2, 1) := by decide +kernel
theorem dX8_once_80 : decode cX8_once 80 = .ok (.iload 5, 2) := by decide +kernel
theorem dX8_once_82 : decode cX8_once 82 = .ok (.aload_n 0, 1) := by decide +kernel
theorem dX8_once_83 : decode cX8_once 83 = .ok (.getfield 11, 3) := by decide +kernel
theorem dX8_once_86 : decode cX8_once 86 = .ok (.invokevirtual 57, 3) := by decide +kernel
theorem dX8_once_89 : decode cX8_once 89 = .ok (.istore 7, 2) := by decide +kernel
theorem dX8_once_91 : decode cX8_once 91 = .ok (.iload 6, 2) := by decide +kernel
theorem dX8_once_93 : decode cX8_once 93 = .ok (.iconst (-1), 1) := by decide +kernel
theorem dX8_once_94 : decode cX8_once 94 = .ok (.if_icmp .ne 7, 3) := by decide +kernel
theorem dX8_once_97 : decode cX8_once 97 = .ok (.iconst 0, 1) := by decide +kernel
theorem dX8_once_98 : decode cX8_once 98 = .ok (.goto 20, 3) := by decide +kernel
theorem dX8_once_101 : decode cX8_once 101 = .ok (.aload_n 0, 1) := by decide +kernel
theorem dX8_once_102 : decode cX8_once 102 = .ok (.getfield 15, 3) := by decide +kernel
theorem dX8_once_105 : decode cX8_once 105 = .ok (.getfield 51, 3) := by decide +kernel
theorem dX8_once_108 : decode cX8_once 108 = .ok (.aload_n 2, 1) := by decide +kernel
theorem dX8_once_109 : decode cX8_once 109 = .ok (.iload 6, 2) := by decide +kernel
theorem dX8_once_111 : decode cX8_once 111 = .ok (.aload_n 0, 1) := by decide +kernel
theorem dX8_once_112 : decode cX8_once 112 = .ok (.getfield 11, 3) := by decide +kernel
theorem dX8_once_115 : decode cX8_once 115 = .ok (.invokevirtual 57, 3) := by decide +kernel
theorem dX8_once_118 : decode cX8_once 118 = .ok (.istore 8, 2) := by decide +kernel
theorem dX8_once_120 : decode cX8_once 120 = .ok (.iload 7, 2) := by decide +kernel
theorem dX8_once_122 : decode cX8_once 122 = .ok (.ldc 63, 2) := by decide +kernel
theorem dX8_once_124 : decode cX8_once 124 = .ok (.if_icmp .eq 28, 3) := by decide +kernel
theorem dX8_once_127 : decode cX8_once 127 = .ok (.iload 8, 2) := by decide +kernel
theorem dX8_once_129 : decode cX8_once 129 = .ok (.ldc 63, 2) := by decide +kernel
theorem dX8_once_131 : decode cX8_once 131 = .ok (.if_icmp .eq 21, 3) := by decide +kernel
theorem dX8_once_134 : decode cX8_once 134 = .ok (.aload_n 0, 1) := by decide +kernel
theorem dX8_once_135 : decode cX8_once 135 = .ok (.aload_n 1, 1) := by decide +kernel
theorem dX8_once_136 : decode cX8_once 136 = .ok (.aload_n 2, 1) := by decide +kernel
theorem dX8_once_137 : decode cX8_once 137 = .ok (.iload_n 3, 1) := by decide +kernel
theorem dX8_once_138 : decode cX8_once 138 = .ok (.iconst 0, 1) := by decide +kernel
theorem dX8_once_139 : decode cX8_once 139 = .ok (.invokevirtual 35, 3) := by decide +kernel
theorem dX8_once_142 : decode cX8_once 142 = .ok (.iload 7, 2) := by decide +kernel
theorem dX8_once_144 : decode cX8_once 144 = .ok (.iload 8, 2) := by decide +kernel
theorem dX8_once_146 : decode cX8_once 146 = .ok (.invokevirtual 64, 3) := by decide +kernel
theorem dX8_once_149 : decode cX8_once 149 = .ok (.ifCond .ge 5, 3) := by decide +kernel
theorem dX8_once_152 : decode cX8_once 152 = .ok (.iconst 0, 1) := by decide +kernel
theorem dX8_once_153 : decode cX8_once 153 = .ok (.ireturn, 1) := by decide +kernel
theorem dX8_once_154 : decode cX8_once 154 = .ok (.aload_n 0, 1) := by decide +kernel
theorem dX8_once_155 : decode cX8_once 155 = .ok (.dup, 1) := by decide +kernel
theorem dX8_once_156 : decode cX8_once 156 = .ok (.getfield 23, 3) := by decide +kernel
theorem dX8_once_159 : decode cX8_once 159 = .ok (.iconst 1, 1) := by decide +kernel
theorem dX8_once_160 : decode cX8_once 160 = .ok (.iadd, 1) := by decide +kernel
theorem dX8_once_161 : decode cX8_once 161 = .ok (.putfield 23, 3) := by decide +kernel
theorem dX8_once_164 : decode cX8_once 164 = .ok (.iconst 1, 1) := by decide +kernel
theorem dX8_once_165 : decode cX8_once 165 = .ok (.ireturn, 1) := by decide +kernel
theorem dX8_act_0 : decode cX8_act 0 = .ok (.iload_n 2, 1) := by decide +kernel
theorem dX8_act_1 : decode cX8_act 1 = .ok (.tableswitch 76 0 2 #[27, 54, 66], 27) := by decide +kernel
theorem dX8_act_28 : decode cX8_act 28 = .ok (.aload_n 0, 1) := by decide +kernel
theorem dX8_act_29 : decode cX8_act 29 = .ok (.getfield 19, 3) := by decide +kernel
theorem dX8_act_32 : decode cX8_act 32 = .ok (.aload_n 1, 1) := by decide +kernel
theorem dX8_act_33 : decode cX8_act 33 = .ok (.iload_n 3, 1) := by decide +kernel
theorem dX8_act_34 : decode cX8_act 34 = .ok (.iload 4, 2) := by decide +kernel
theorem dX8_act_36 : decode cX8_act 36 = .ok (.invokevirtual 68, 3) := by decide +kernel
theorem dX8_act_39 : decode cX8_act 39 = .ok (.istore 5, 2) := by decide +kernel
theorem dX8_act_41 : decode cX8_act 41 = .ok (.iload 5, 2) := by decide +kernel
theorem dX8_act_43 : decode cX8_act 43 = .ok (.ifCond .lt 9, 3) := by decide +kernel
theorem dX8_act_46 : decode cX8_act 46 = .ok (.aload_n 0, 1) := by decide +kernel
theorem dX8_act_47 : decode cX8_act 47 = .ok (.iload 5, 2) := by decide +kernel
theorem dX8_act_49 : decode cX8_act 49 = .ok (.putfield 27, 3) := by decide +kernel
theorem dX8_act_52 : decode cX8_act 52 = .ok (.iload 5, 2) := by decide +kernel
theorem dX8_act_54 : decode cX8_act 54 = .ok (.ireturn, 1) := by decide +kernel
theorem dX8_act_55 : decode cX8_act 55 = .ok (.aload_n 0, 1) := by decide +kernel
theorem dX8_act_56 : decode cX8_act 56 = .ok (.getfield 19, 3) := by decide +kernel
theorem dX8_act_59 : decode cX8_act 59 = .ok (.aload_n 1, 1) := by decide +kernel
theorem dX8_act_60 : decode cX8_act 60 = .ok (.iload_n 3, 1) := by decide +kernel
theorem dX8_act_61 : decode cX8_act 61 = .ok (.iload 4, 2) := by decide +kernel
theorem dX8_act_63 : decode cX8_act 63 = .ok (.invokevirtual 74, 3) := by decide +kernel
theorem dX8_act_66 : decode cX8_act 66 = .ok (.ireturn, 1) := by decide +kernel
theorem dX8_act_67 : decode cX8_act 67 = .ok (.aload_n 0, 1) := by decide +kernel
theorem dX8_act_68 : decode cX8_act 68 = .ok (.getfield 19, 3) := by decide +kernel
theorem dX8_act_71 : decode cX8_act 71 = .ok (.aload_n 1, 1) := by decide +kernel
theorem dX8_act_72 : decode cX8_act 72 = .ok (.iload_n 3, 1) := by decide +kernel
theorem dX8_act_73 : decode cX8_act 73 = .ok (.invokevirtual 77, 3) := by decide +kernel
theorem dX8_act_76 : decode cX8_act 76 = .ok (.ireturn, 1) := by decide +kernel
theorem dX8_act_77 : decode cX8_act 77 = .ok (.aload_n 0, 1) := by decide +kernel
theorem dX8_act_78 : decode cX8_act 78 = .ok (.getfield 19, 3) := by decide +kernel
theorem dX8_act_81 : decode cX8_act 81 = .ok (.aload_n 1, 1) := by decide +kernel
theorem dX8_act_82 : decode cX8_act 82 = .ok (.invokevirtual 81, 3) := by decide +kernel
theorem dX8_act_85 : decode cX8_act 85 = .ok (.ireturn, 1) := by decide +kernel
theorem dX8_lookAt_0 : decode cX8_lookAt 0 = .ok (.aload_n 0, 1) := by decide +kernel
theorem dX8_lookAt_1 : decode cX8_lookAt 1 = .ok (.getfield 11, 3) := by decide +kernel
theorem dX8_lookAt_4 : decode cX8_lookAt 4 = .ok (.iconst 0, 1) := by decide +kernel
theorem dX8_lookAt_5 : decode cX8_lookAt 5 = .ok (.aload_n 1, 1) := by decide +kernel
theorem dX8_lookAt_6 : decode cX8_lookAt 6 = .ok (.getfield 85, 3) := by decide +kernel
theorem dX8_lookAt_9 : decode cX8_lookAt 9 = .ok (.iconst 0, 1) := by decide +kernel
theorem dX8_lookAt_10 : decode cX8_lookAt 10 = .ok (.iaload, 1) := by decide +kernel
theorem dX8_lookAt_11 : decode cX8_lookAt 11 = .ok (.iastore, 1) := by decide +kernel
theorem dX8_lookAt_12 : decode cX8_lookAt 12 = .ok (.aload_n 0, 1) := by decide +kernel
theorem dX8_lookAt_13 : decode cX8_lookAt 13 = .ok (.getfield 11, 3) := by decide +kernel
theorem dX8_lookAt_16 : decode cX8_lookAt 16 = .ok (.iconst 1, 1) := by decide +kernel
theorem dX8_lookAt_17 : decode cX8_lookAt 17 = .ok (.aload_n 0, 1) := by decide +kernel
theorem dX8_lookAt_18 : decode cX8_lookAt 18 = .ok (.getfield 23, 3) := by decide +kernel
theorem dX8_lookAt_21 : decode cX8_lookAt 21 = .ok (.iastore, 1) := by decide +kernel
theorem dX8_lookAt_22 : decode cX8_lookAt 22 = .ok (.aload_n 0, 1) := by decide +kernel
theorem dX8_lookAt_23 : decode cX8_lookAt 23 = .ok (.getfield 11, 3) := by decide +kernel
theorem dX8_lookAt_26 : decode cX8_lookAt 26 = .ok (.iconst 2, 1) := by decide +kernel
theorem dX8_lookAt_27 : decode cX8_lookAt 27 = .ok (.aload_n 0, 1) := by decide +kernel
theorem dX8_lookAt_28 : decode cX8_lookAt 28 = .ok (.getfield 27, 3) := by decide +kernel
theorem dX8_lookAt_31 : decode cX8_lookAt 31 = .ok (.iastore, 1) := by decide +kernel
theorem dX8_lookAt_32 : decode cX8_lookAt 32 = .ok (.aload_n 0, 1) := by decide +kernel
theorem dX8_lookAt_33 : decode cX8_lookAt 33 = .ok (.getfield 11, 3) := by decide +kernel
theorem dX8_lookAt_36 : decode cX8_lookAt 36 = .ok (.iconst 3, 1) := by decide +kernel
theorem dX8_lookAt_37 : decode cX8_lookAt 37 = .ok (.iload_n 2, 1) := by decide +kernel
theorem dX8_lookAt_38 : decode cX8_lookAt 38 = .ok (.ifCond .eq 11, 3) := by decide +kernel
theorem dX8_lookAt_41 : decode cX8_lookAt 41 = .ok (.aload_n 0, 1) := by decide +kernel
theorem dX8_lookAt_42 : decode cX8_lookAt 42 = .ok (.aload_n 1, 1) := by decide +kernel
theorem dX8_lookAt_43 : decode cX8_lookAt 43 = .ok (.invokevirtual 90, 3) := by decide +kernel
theorem dX8_lookAt_46 : decode cX8_lookAt 46 = .ok (.goto 4, 3) := by decide +kernel
theorem dX8_lookAt_49 : decode cX8_lookAt 49 = .ok (.iconst 0, 1) := by decide +kernel
theorem dX8_lookAt_50 : decode cX8_lookAt 50 = .ok (.iastore, 1) := by decide +kernel
theorem dX8_lookAt_51 : decode cX8_lookAt 51 = .ok (.aload_n 0, 1) := by decide +kernel
theorem dX8_lookAt_52 : decode cX8_lookAt 52 = .ok (.getfield 11, 3) := by decide +kernel
theorem dX8_lookAt_55 : decode cX8_lookAt 55 = .ok (.iconst 4, 1) := by decide +kernel
theorem dX8_lookAt_56 : decode cX8_lookAt 56 = .ok (.aload_n 1, 1) := by decide +kernel
theorem dX8_lookAt_57 : decode cX8_lookAt 57 = .ok (.invokevirtual 93, 3) := by decide +kernel
theorem dX8_lookAt_60 : decode cX8_lookAt 60 = .ok (.iastore, 1) := by decide +kernel
theorem dX8_lookAt_61 : decode cX8_lookAt 61 = .ok (.iconst 0, 1) := by decide +kernel
theorem dX8_lookAt_62 : decode cX8_lookAt 62 = .ok (.istore_n 3, 1) := by decide +kernel
theorem dX8_lookAt_63 : decode cX8_lookAt 63 = .ok (.iload_n 3, 1) := by decide +kernel
theorem dX8_lookAt_64 : decode cX8_lookAt 64 = .ok (.bipush 6, 2) := by decide +kernel
theorem dX8_lookAt_66 : decode cX8_lookAt 66 = .ok (.if_icmp .ge 62, 3) := by decide +kernel
theorem dX8_lookAt_69 : decode cX8_lookAt 69 = .ok (.aload_n 0, 1) := by decide +kernel
theorem dX8_lookAt_70 : decode cX8_lookAt 70 = .ok (.getfield 11, 3) := by decide +kernel
theorem dX8_lookAt_73 : decode cX8_lookAt 73 = .ok (.iconst 5, 1) := by decide +kernel
theorem dX8_lookAt_74 : decode cX8_lookAt 74 = .ok (.iload_n 3, 1) := by decide +kernel
theorem dX8_lookAt_75 : decode cX8_lookAt 75 = .ok (.iadd, 1) := by decide +kernel
theorem dX8_lookAt_76 : decode cX8_lookAt 76 = .ok (.aload_n 1, 1) := by decide +kernel
theorem dX8_lookAt_77 : decode cX8_lookAt 77 = .ok (.iload_n 3, 1) := by decide +kernel
theorem dX8_lookAt_78 : decode cX8_lookAt 78 = .ok (.invokevirtual 97, 3) := by decide +kernel
theorem dX8_lookAt_81 : decode cX8_lookAt 81 = .ok (.ifCond .eq 12, 3) := by decide +kernel
theorem dX8_lookAt_84 : decode cX8_lookAt 84 = .ok (.aload_n 1, 1) := by decide +kernel
theorem dX8_lookAt_85 : decode cX8_lookAt 85 = .ok (.getfield 101, 3) := by decide +kernel
theorem dX8_lookAt_88 : decode cX8_lookAt 88 = .ok (.iload_n 3, 1) := by decide +kernel
theorem dX8_lookAt_89 : decode cX8_lookAt 89 = .ok (.iaload, 1) := by decide +kernel
theorem dX8_lookAt_90 : decode cX8_lookAt 90 = .ok (.goto 4, 3) := by decide +kernel
theorem dX8_lookAt_93 : decode cX8_lookAt 93 = .ok (.iconst (-1), 1) := by decide +kernel
theorem dX8_lookAt_94 : decode cX8_lookAt 94 = .ok (.iastore, 1) := by decide +kernel
theorem dX8_lookAt_95 : decode cX8_lookAt 95 = .ok (.aload_n 0, 1) := by decide +kernel
theorem dX8_lookAt_96 : decode cX8_lookAt 96 = .ok (.getfield 11, 3) := by decide +kernel
theorem dX8_lookAt_99 : decode cX8_lookAt 99 = .ok (.bipush 11, 2) := by decide +kernel
theorem dX8_lookAt_101 : decode cX8_lookAt 101 = .ok (.iload_n 3, 1) := by decide +kernel
theorem dX8_lookAt_102 : decode cX8_lookAt 102 = .ok (.iadd, 1) := by decide +kernel
theorem dX8_lookAt_103 : decode cX8_lookAt 103 = .ok (.aload_n 1, 1) := by decide +kernel
theorem dX8_lookAt_104 : decode cX8_lookAt 104 = .ok (.iload_n 3, 1) := by decide +kernel
theorem dX8_lookAt_105 : decode cX8_lookAt 105 = .ok (.invokevirtual 97, 3) := by decide +kernel
theorem dX8_lookAt_108 : decode cX8_lookAt 108 = .ok (.ifCond .eq 12, 3) := by decide +kernel
theorem dX8_lookAt_111 : decode cX8_lookAt 111 = .ok (.aload_n 1, 1) := by decide +kernel
theorem dX8_lookAt_112 : decode cX8_lookAt 112 = .ok (.getfield 104, 3) := by decide +kernel
theorem dX8_lookAt_115 : decode cX8_lookAt 115 = .ok (.iload_n 3, 1) := by decide +kernel
theorem dX8_lookAt_116 : decode cX8_lookAt 116 = .ok (.iaload, 1) := by decide +kernel
theorem dX8_lookAt_117 : decode cX8_lookAt 117 = .ok (.goto 4, 3) := by decide +kernel
theorem dX8_lookAt_120 : decode cX8_lookAt 120 = .ok (.iconst (-1), 1) := by decide +kernel
theorem dX8_lookAt_121 : decode cX8_lookAt 121 = .ok (.iastore, 1) := by decide +kernel
theorem dX8_lookAt_122 : decode cX8_lookAt 122 = .ok (.iinc 3 1, 3) := by decide +kernel
theorem dX8_lookAt_125 : decode cX8_lookAt 125 = .ok (.goto (-62), 3) := by decide +kernel
theorem dX8_lookAt_128 : decode cX8_lookAt 128 = .ok (.return_, 1) := by decide +kernel
theorem dX8_fitOnes_0 : decode cX8_fitOnes 0 = .ok (.iconst 0, 1) := by decide +kernel
theorem dX8_fitOnes_1 : decode cX8_fitOnes 1 = .ok (.istore_n 2, 1) := by decide +kernel
theorem dX8_fitOnes_2 : decode cX8_fitOnes 2 = .ok (.iconst 0, 1) := by decide +kernel
theorem dX8_fitOnes_3 : decode cX8_fitOnes 3 = .ok (.istore_n 3, 1) := by decide +kernel
theorem dX8_fitOnes_4 : decode cX8_fitOnes 4 = .ok (.iload_n 3, 1) := by decide +kernel
theorem dX8_fitOnes_5 : decode cX8_fitOnes 5 = .ok (.aload_n 1, 1) := by decide +kernel
theorem dX8_fitOnes_6 : decode cX8_fitOnes 6 = .ok (.getfield 107, 3) := by decide +kernel
theorem dX8_fitOnes_9 : decode cX8_fitOnes 9 = .ok (.if_icmp .ge 39, 3) := by decide +kernel
theorem dX8_fitOnes_12 : decode cX8_fitOnes 12 = .ok (.aload_n 1, 1) := by decide +kernel
theorem dX8_fitOnes_13 : decode cX8_fitOnes 13 = .ok (.getfield 101, 3) := by decide +kernel
theorem dX8_fitOnes_16 : decode cX8_fitOnes 16 = .ok (.iload_n 3, 1) := by decide +kernel
theorem dX8_fitOnes_17 : decode cX8_fitOnes 17 = .ok (.iaload, 1) := by decide +kernel
theorem dX8_fitOnes_18 : decode cX8_fitOnes 18 = .ok (.iconst (-1), 1) := by decide +kernel
theorem dX8_fitOnes_19 : decode cX8_fitOnes 19 = .ok (.if_icmp .eq 23, 3) := by decide +kernel
theorem dX8_fitOnes_22 : decode cX8_fitOnes 22 = .ok (.aload_n 0, 1) := by decide +kernel
theorem dX8_fitOnes_23 : decode cX8_fitOnes 23 = .ok (.getfield 15, 3) := by decide +kernel
theorem dX8_fitOnes_26 : decode cX8_fitOnes 26 = .ok (.iload_n 3, 1) := by decide +kernel
theorem dX8_fitOnes_27 : decode cX8_fitOnes 27 = .ok (.aload_n 1, 1) := by decide +kernel
theorem dX8_fitOnes_28 : decode cX8_fitOnes 28 = .ok (.getfield 101, 3) := by decide +kernel
theorem dX8_fitOnes_31 : decode cX8_fitOnes 31 = .ok (.iload_n 3, 1) := by decide +kernel
theorem dX8_fitOnes_32 : decode cX8_fitOnes 32 = .ok (.iaload, 1) := by decide +kernel
theorem dX8_fitOnes_33 : decode cX8_fitOnes 33 = .ok (.invokevirtual 110, 3) := by decide +kernel
theorem dX8_fitOnes_36 : decode cX8_fitOnes 36 = .ok (.ifCond .eq 6, 3) := by decide +kernel
theorem dX8_fitOnes_39 : decode cX8_fitOnes 39 = .ok (.iinc 2 1, 3) := by decide +kernel
theorem dX8_fitOnes_42 : decode cX8_fitOnes 42 = .ok (.iinc 3 1, 3) := by decide +kernel
theorem dX8_fitOnes_45 : decode cX8_fitOnes 45 = .ok (.goto (-41), 3) := by decide +kernel
theorem dX8_fitOnes_48 : decode cX8_fitOnes 48 = .ok (.iload_n 2, 1) := by decide +kernel
theorem dX8_fitOnes_49 : decode cX8_fitOnes 49 = .ok (.ireturn, 1) := by decide +kernel
