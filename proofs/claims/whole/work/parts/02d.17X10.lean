theorem dX10_init_0 : decode cX10_init 0 = .ok (.aload_n 0, 1) := by decide +kernel
theorem dX10_init_1 : decode cX10_init 1 = .ok (.invokespecial 3, 3) := by decide +kernel
theorem dX10_init_4 : decode cX10_init 4 = .ok (.aload_n 0, 1) := by decide +kernel
theorem dX10_init_5 : decode cX10_init 5 = .ok (.bipush 6, 2) := by decide +kernel
theorem dX10_init_7 : decode cX10_init 7 = .ok (.newarray .boolean, 2) := by decide +kernel
theorem dX10_init_9 : decode cX10_init 9 = .ok (.putfield 9, 3) := by decide +kernel
theorem dX10_init_12 : decode cX10_init 12 = .ok (.aload_n 0, 1) := by decide +kernel
theorem dX10_init_13 : decode cX10_init 13 = .ok (.bipush 6, 2) := by decide +kernel
theorem dX10_init_15 : decode cX10_init 15 = .ok (.newarray .boolean, 2) := by decide +kernel
theorem dX10_init_17 : decode cX10_init 17 = .ok (.putfield 15, 3) := by decide +kernel
theorem dX10_init_20 : decode cX10_init 20 = .ok (.aload_n 0, 1) := by decide +kernel
theorem dX10_init_21 : decode cX10_init 21 = .ok (.bipush 6, 2) := by decide +kernel
theorem dX10_init_23 : decode cX10_init 23 = .ok (.newarray .int, 2) := by decide +kernel
theorem dX10_init_25 : decode cX10_init 25 = .ok (.putfield 18, 3) := by decide +kernel
theorem dX10_init_28 : decode cX10_init 28 = .ok (.aload_n 0, 1) := by decide +kernel
theorem dX10_init_29 : decode cX10_init 29 = .ok (.bipush 6, 2) := by decide +kernel
theorem dX10_init_31 : decode cX10_init 31 = .ok (.newarray .int, 2) := by decide +kernel
theorem dX10_init_33 : decode cX10_init 33 = .ok (.putfield 22, 3) := by decide +kernel
theorem dX10_init_36 : decode cX10_init 36 = .ok (.return_, 1) := by decide +kernel
theorem dX10_settle_0 : decode cX10_settle 0 = .ok (.aload_n 1, 1) := by decide +kernel
theorem dX10_settle_1 : decode cX10_settle 1 = .ok (.getfield 25, 3) := by decide +kernel
theorem dX10_settle_4 : decode cX10_settle 4 = .ok (.astore_n 2, 1) := by decide +kernel
theorem dX10_settle_5 : decode cX10_settle 5 = .ok (.aload_n 0, 1) := by decide +kernel
theorem dX10_settle_6 : decode cX10_settle 6 = .ok (.iconst 0, 1) := by decide +kernel
theorem dX10_settle_7 : decode cX10_settle 7 = .ok (.putfield 31, 3) := by decide +kernel
theorem dX10_settle_10 : decode cX10_settle 10 = .ok (.aload_n 0, 1) := by decide +kernel
theorem dX10_settle_11 : decode cX10_settle 11 = .ok (.getfield 22, 3) := by decide +kernel
theorem dX10_settle_14 : decode cX10_settle 14 = .ok (.iconst (-1), 1) := by decide +kernel
theorem dX10_settle_15 : decode cX10_settle 15 = .ok (.invokestatic 35, 3) := by decide +kernel
theorem dX10_settle_18 : decode cX10_settle 18 = .ok (.iconst 0, 1) := by decide +kernel
theorem dX10_settle_19 : decode cX10_settle 19 = .ok (.istore_n 3, 1) := by decide +kernel
theorem dX10_settle_20 : decode cX10_settle 20 = .ok (.iload_n 3, 1) := by decide +kernel
theorem dX10_settle_21 : decode cX10_settle 21 = .ok (.bipush 6, 2) := by decide +kernel
theorem dX10_settle_23 : decode cX10_settle 23 = .ok (.if_icmp .ge 45, 3) := by decide +kernel
theorem dX10_settle_26 : decode cX10_settle 26 = .ok (.aload_n 0, 1) := by decide +kernel
theorem dX10_settle_27 : decode cX10_settle 27 = .ok (.getfield 9, 3) := by decide +kernel
theorem dX10_settle_30 : decode cX10_settle 30 = .ok (.iload_n 3, 1) := by decide +kernel
theorem dX10_settle_31 : decode cX10_settle 31 = .ok (.aload_n 2, 1) := by decide +kernel
theorem dX10_settle_32 : decode cX10_settle 32 = .ok (.iload_n 3, 1) := by decide +kernel
theorem dX10_settle_33 : decode cX10_settle 33 = .ok (.invokevirtual 41, 3) := by decide +kernel
theorem dX10_settle_36 : decode cX10_settle 36 = .ok (.ifCond .eq 17, 3) := by decide +kernel
theorem dX10_settle_39 : decode cX10_settle 39 = .ok (.aload_n 2, 1) := by decide +kernel
theorem dX10_settle_40 : decode cX10_settle 40 = .ok (.getfield 47, 3) := by decide +kernel
theorem dX10_settle_43 : decode cX10_settle 43 = .ok (.iload_n 3, 1) := by decide +kernel
theorem dX10_settle_44 : decode cX10_settle 44 = .ok (.iaload, 1) := by decide +kernel
theorem dX10_settle_45 : decode cX10_settle 45 = .ok (.iconst (-1), 1) := by decide +kernel
theorem dX10_settle_46 : decode cX10_settle 46 = .ok (.if_icmp .eq 7, 3) := by decide +kernel
theorem dX10_settle_49 : decode cX10_settle 49 = .ok (.iconst 1, 1) := by decide +kernel
theorem dX10_settle_50 : decode cX10_settle 50 = .ok (.goto 4, 3) := by decide +kernel
theorem dX10_settle_53 : decode cX10_settle 53 = .ok (.iconst 0, 1) := by decide +kernel
theorem dX10_settle_54 : decode cX10_settle 54 = .ok (.bastore, 1) := by decide +kernel
theorem dX10_settle_55 : decode cX10_settle 55 = .ok (.aload_n 0, 1) := by decide +kernel
theorem dX10_settle_56 : decode cX10_settle 56 = .ok (.getfield 15, 3) := by decide +kernel
theorem dX10_settle_59 : decode cX10_settle 59 = .ok (.iload_n 3, 1) := by decide +kernel
theorem dX10_settle_60 : decode cX10_settle 60 = .ok (.iconst 0, 1) := by decide +kernel
theorem dX10_settle_61 : decode cX10_settle 61 = .ok (.bastore, 1) := by decide +kernel
theorem dX10_settle_62 : decode cX10_settle 62 = .ok (.iinc 3 1, 3) := by decide +kernel
theorem dX10_settle_65 : decode cX10_settle 65 = .ok (.goto (-45), 3) := by decide +kernel
theorem dX10_settle_68 : decode cX10_settle 68 = .ok (.iconst 0, 1) := by decide +kernel
theorem dX10_settle_69 : decode cX10_settle 69 = .ok (.istore_n 3, 1) := by decide +kernel
theorem dX10_settle_70 : decode cX10_settle 70 = .ok (.iload_n 3, 1) := by decide +kernel
theorem dX10_settle_71 : decode cX10_settle 71 = .ok (.aload_n 2, 1) := by decide +kernel
theorem dX10_settle_72 : decode cX10_settle 72 = .ok (.getfield 50, 3) := by decide +kernel
theorem dX10_settle_75 : decode cX10_settle 75 = .ok (.if_icmp .ge 19, 3) := by decide +kernel
theorem dX10_settle_78 : decode cX10_settle 78 = .ok (.aload_n 0, 1) := by decide +kernel
theorem dX10_settle_79 : decode cX10_settle 79 = .ok (.aload_n 1, 1) := by decide +kernel
theorem dX10_settle_80 : decode cX10_settle 80 = .ok (.invokevirtual 53, 3) := by decide +kernel
theorem dX10_settle_83 : decode cX10_settle 83 = .ok (.aload_n 0, 1) := by decide +kernel
theorem dX10_settle_84 : decode cX10_settle 84 = .ok (.aload_n 2, 1) := by decide +kernel
theorem dX10_settle_85 : decode cX10_settle 85 = .ok (.invokevirtual 57, 3) := by decide +kernel
theorem dX10_settle_88 : decode cX10_settle 88 = .ok (.iinc 3 1, 3) := by decide +kernel
theorem dX10_settle_91 : decode cX10_settle 91 = .ok (.goto (-21), 3) := by decide +kernel
theorem dX10_settle_94 : decode cX10_settle 94 = .ok (.return_, 1) := by decide +kernel
theorem dX10_pointAll_0 : decode cX10_pointAll 0 = .ok (.iconst 0, 1) := by decide +kernel
theorem dX10_pointAll_1 : decode cX10_pointAll 1 = .ok (.istore_n 2, 1) := by decide +kernel
theorem dX10_pointAll_2 : decode cX10_pointAll 2 = .ok (.iload_n 2, 1) := by decide +kernel
theorem dX10_pointAll_3 : decode cX10_pointAll 3 = .ok (.aload_n 1, 1) := by decide +kernel
theorem dX10_pointAll_4 : decode cX10_pointAll 4 = .ok (.getfield 25, 3) := by decide +kernel
theorem dX10_pointAll_7 : decode cX10_pointAll 7 = .ok (.getfield 50, 3) := by decide +kernel
theorem dX10_pointAll_10 : decode cX10_pointAll 10 = .ok (.if_icmp .ge 30, 3) := by decide +kernel
theorem dX10_pointAll_13 : decode cX10_pointAll 13 = .ok (.aload_n 0, 1) := by decide +kernel
theorem dX10_pointAll_14 : decode cX10_pointAll 14 = .ok (.getfield 9, 3) := by decide +kernel
theorem dX10_pointAll_17 : decode cX10_pointAll 17 = .ok (.iload_n 2, 1) := by decide +kernel
theorem dX10_pointAll_18 : decode cX10_pointAll 18 = .ok (.baload, 1) := by decide +kernel
theorem dX10_pointAll_19 : decode cX10_pointAll 19 = .ok (.ifCond .eq 15, 3) := by decide +kernel
theorem dX10_pointAll_22 : decode cX10_pointAll 22 = .ok (.aload_n 0, 1) := by decide +kernel
theorem dX10_pointAll_23 : decode cX10_pointAll 23 = .ok (.getfield 18, 3) := by decide +kernel
theorem dX10_pointAll_26 : decode cX10_pointAll 26 = .ok (.iload_n 2, 1) := by decide +kernel
theorem dX10_pointAll_27 : decode cX10_pointAll 27 = .ok (.aload_n 0, 1) := by decide +kernel
theorem dX10_pointAll_28 : decode cX10_pointAll 28 = .ok (.aload_n 1, 1) := by decide +kernel
theorem dX10_pointAll_29 : decode cX10_pointAll 29 = .ok (.iload_n 2, 1) := by decide +kernel
theorem dX10_pointAll_30 : decode cX10_pointAll 30 = .ok (.invokevirtual 61, 3) := by decide +kernel
theorem dX10_pointAll_33 : decode cX10_pointAll 33 = .ok (.iastore, 1) := by decide +kernel
theorem dX10_pointAll_34 : decode cX10_pointAll 34 = .ok (.iinc 2 1, 3) := by decide +kernel
theorem dX10_pointAll_37 : decode cX10_pointAll 37 = .ok (.goto (-35), 3) := by decide +kernel
theorem dX10_pointAll_40 : decode cX10_pointAll 40 = .ok (.return_, 1) := by decide +kernel
theorem dX10_wishedHolder_0 : decode cX10_wishedHolder 0 = .ok (.aload_n 1, 1) := by decide +kernel
theorem dX10_wishedHolder_1 : decode cX10_wishedHolder 1 = .ok (.getfield 25, 3) := by decide +kernel
theorem dX10_wishedHolder_4 : decode cX10_wishedHolder 4 = .ok (.astore_n 3, 1) := by decide +kernel
theorem dX10_wishedHolder_5 : decode cX10_wishedHolder 5 = .ok (.iload_n 2, 1) := by decide +kernel
theorem dX10_wishedHolder_6 : decode cX10_wishedHolder 6 = .ok (.istore 4, 2) := by decide +kernel
theorem dX10_wishedHolder_8 : decode cX10_wishedHolder 8 = .ok (.iconst (-1), 1) := by decide +kernel
theorem dX10_wishedHolder_9 : decode cX10_wishedHolder 9 = .ok (.istore 5, 2) := by decide +kernel
theorem dX10_wishedHolder_11 : decode cX10_wishedHolder 11 = .ok (.iconst 0, 1) := by decide +kernel
theorem dX10_wishedHolder_12 : decode cX10_wishedHolder 12 = .ok (.istore 6, 2) := by decide +kernel
theorem dX10_wishedHolder_14 : decode cX10_wishedHolder 14 = .ok (.iload 6, 2) := by decide +kernel
theorem dX10_wishedHolder_16 : decode cX10_wishedHolder 16 = .ok (.aload_n 3, 1) := by decide +kernel
theorem dX10_wishedHolder_17 : decode cX10_wishedHolder 17 = .ok (.getfield 65, 3) := by decide +kernel
theorem dX10_wishedHolder_20 : decode cX10_wishedHolder 20 = .ok (.if_icmp .ge 82, 3) := by decide +kernel
theorem dX10_wishedHolder_23 : decode cX10_wishedHolder 23 = .ok (.aload_n 3, 1) := by decide +kernel
theorem dX10_wishedHolder_24 : decode cX10_wishedHolder 24 = .ok (.getfield 68, 3) := by decide +kernel
theorem dX10_wishedHolder_27 : decode cX10_wishedHolder 27 = .ok (.iload 6, 2) := by decide +kernel
theorem dX10_wishedHolder_29 : decode cX10_wishedHolder 29 = .ok (.iaload, 1) := by decide +kernel
theorem dX10_wishedHolder_30 : decode cX10_wishedHolder 30 = .ok (.istore 7, 2) := by decide +kernel
theorem dX10_wishedHolder_32 : decode cX10_wishedHolder 32 = .ok (.iload 7, 2) := by decide +kernel
theorem dX10_wishedHolder_34 : decode cX10_wishedHolder 34 = .ok (.iconst (-1), 1) := by decide +kernel
theorem dX10_wishedHolder_35 : decode cX10_wishedHolder 35 = .ok (.if_icmp .eq 61, 3) := by decide +kernel
theorem dX10_wishedHolder_38 : decode cX10_wishedHolder 38 = .ok (.aload_n 0, 1) := by decide +kernel
theorem dX10_wishedHolder_39 : decode cX10_wishedHolder 39 = .ok (.getfield 9, 3) := by decide +kernel
theorem dX10_wishedHolder_42 : decode cX10_wishedHolder 42 = .ok (.iload 7, 2) := by decide +kernel
theorem dX10_wishedHolder_44 : decode cX10_wishedHolder 44 = .ok (.baload, 1) := by decide +kernel
theorem dX10_wishedHolder_45 : decode cX10_wishedHolder 45 = .ok (.ifCond .eq 51, 3) := by decide +kernel
theorem dX10_wishedHolder_48 : decode cX10_wishedHolder 48 = .ok (.iload 7, 2) := by decide +kernel
theorem dX10_wishedHolder_50 : decode cX10_wishedHolder 50 = .ok (.iload_n 2, 1) := by decide +kernel
theorem dX10_wishedHolder_51 : decode cX10_wishedHolder 51 = .ok (.if_icmp .eq 16, 3) := by decide +kernel
theorem dX10_wishedHolder_54 : decode cX10_wishedHolder 54 = .ok (.aload_n 1, 1) := by decide +kernel
theorem dX10_wishedHolder_55 : decode cX10_wishedHolder 55 = .ok (.iload_n 2, 1) := by decide +kernel
theorem dX10_wishedHolder_56 : decode cX10_wishedHolder 56 = .ok (.iload 6, 2) := by decide +kernel
theorem dX10_wishedHolder_58 : decode cX10_wishedHolder 58 = .ok (.invokevirtual 71, 3) := by decide +kernel
theorem dX10_wishedHolder_61 : decode cX10_wishedHolder 61 = .ok (.ifCond .eq 6, 3) := by decide +kernel
theorem dX10_wishedHolder_64 : decode cX10_wishedHolder 64 = .ok (.goto 32, 3) := by decide +kernel
theorem dX10_wishedHolder_67 : decode cX10_wishedHolder 67 = .ok (.aload_n 3, 1) := by decide +kernel
theorem dX10_wishedHolder_68 : decode cX10_wishedHolder 68 = .ok (.getfield 75, 3) := by decide +kernel
theorem dX10_wishedHolder_71 : decode cX10_wishedHolder 71 = .ok (.iload_n 2, 1) := by decide +kernel
theorem dX10_wishedHolder_72 : decode cX10_wishedHolder 72 = .ok (.bipush 8, 2) := by decide +kernel
theorem dX10_wishedHolder_74 : decode cX10_wishedHolder 74 = .ok (.imul, 1) := by decide +kernel
theorem dX10_wishedHolder_75 : decode cX10_wishedHolder 75 = .ok (.iload 6, 2) := by decide +kernel
theorem dX10_wishedHolder_77 : decode cX10_wishedHolder 77 = .ok (.iadd, 1) := by decide +kernel
theorem dX10_wishedHolder_78 : decode cX10_wishedHolder 78 = .ok (.iaload, 1) := by decide +kernel
theorem dX10_wishedHolder_79 : decode cX10_wishedHolder 79 = .ok (.istore 8, 2) := by decide +kernel
theorem dX10_wishedHolder_81 : decode cX10_wishedHolder 81 = .ok (.iload 8, 2) := by decide +kernel
theorem dX10_wishedHolder_83 : decode cX10_wishedHolder 83 = .ok (.iload 5, 2) := by decide +kernel
theorem dX10_wishedHolder_85 : decode cX10_wishedHolder 85 = .ok (.if_icmp .le 11, 3) := by decide +kernel
theorem dX10_wishedHolder_88 : decode cX10_wishedHolder 88 = .ok (.iload 8, 2) := by decide +kernel
theorem dX10_wishedHolder_90 : decode cX10_wishedHolder 90 = .ok (.istore 5, 2) := by decide +kernel
theorem dX10_wishedHolder_92 : decode cX10_wishedHolder 92 = .ok (.iload 7, 2) := by decide +kernel
theorem dX10_wishedHolder_94 : decode cX10_wishedHolder 94 = .ok (.istore 4, 2) := by decide +kernel
theorem dX10_wishedHolder_96 : decode cX10_wishedHolder 96 = .ok (.iinc 6 1, 3) := by decide +kernel
theorem dX10_wishedHolder_99 : decode cX10_wishedHolder 99 = .ok (.goto (-85), 3) := by decide +kernel
theorem dX10_wishedHolder_102 : decode cX10_wishedHolder 102 = .ok (.iload 4, 2) := by decide +kernel
theorem dX10_wishedHolder_104 : decode cX10_wishedHolder 104 = .ok (.ireturn, 1) := by decide +kernel
theorem dX10_takeRings_0 : decode cX10_takeRings 0 = .ok (.iconst 0, 1) := by decide +kernel
theorem dX10_takeRings_1 : decode cX10_takeRings 1 = .ok (.istore_n 2, 1) := by decide +kernel
theorem dX10_takeRings_2 : decode cX10_takeRings 2 = .ok (.iload_n 2, 1) := by decide +kernel
theorem dX10_takeRings_3 : decode cX10_takeRings 3 = .ok (.aload_n 1, 1) := by decide +kernel
theorem dX10_takeRings_4 : decode cX10_takeRings 4 = .ok (.getfield 50, 3) := by decide +kernel
theorem dX10_takeRings_7 : decode cX10_takeRings 7 = .ok (.if_icmp .ge 37, 3) := by decide +kernel
theorem dX10_takeRings_10 : decode cX10_takeRings 10 = .ok (.aload_n 0, 1) := by decide +kernel
theorem dX10_takeRings_11 : decode cX10_takeRings 11 = .ok (.getfield 15, 3) := by decide +kernel
theorem dX10_takeRings_14 : decode cX10_takeRings 14 = .ok (.iload_n 2, 1) := by decide +kernel
theorem dX10_takeRings_15 : decode cX10_takeRings 15 = .ok (.aload_n 0, 1) := by decide +kernel
theorem dX10_takeRings_16 : decode cX10_takeRings 16 = .ok (.getfield 9, 3) := by decide +kernel
theorem dX10_takeRings_19 : decode cX10_takeRings 19 = .ok (.iload_n 2, 1) := by decide +kernel
theorem dX10_takeRings_20 : decode cX10_takeRings 20 = .ok (.baload, 1) := by decide +kernel
theorem dX10_takeRings_21 : decode cX10_takeRings 21 = .ok (.ifCond .eq 15, 3) := by decide +kernel
theorem dX10_takeRings_24 : decode cX10_takeRings 24 = .ok (.aload_n 0, 1) := by decide +kernel
theorem dX10_takeRings_25 : decode cX10_takeRings 25 = .ok (.iload_n 2, 1) := by decide +kernel
theorem dX10_takeRings_26 : decode cX10_takeRings 26 = .ok (.invokevirtual 78, 3) := by decide +kernel
theorem dX10_takeRings_29 : decode cX10_takeRings 29 = .ok (.ifCond .eq 7, 3) := by decide +kernel
theorem dX10_takeRings_32 : decode cX10_takeRings 32 = .ok (.iconst 1, 1) := by decide +kernel
theorem dX10_takeRings_33 : decode cX10_takeRings 33 = .ok (.goto 4, 3) := by decide +kernel
theorem dX10_takeRings_36 : decode cX10_takeRings 36 = .ok (.iconst 0, 1) := by decide +kernel
theorem dX10_takeRings_37 : decode cX10_takeRings 37 = .ok (.bastore, 1) := by decide +kernel
theorem dX10_takeRings_38 : decode cX10_takeRings 38 = .ok (.iinc 2 1, 3) := by decide +kernel
theorem dX10_takeRings_41 : decode cX10_takeRings 41 = .ok (.goto (-39), 3) := by decide +kernel
theorem dX10_takeRings_44 : decode cX10_takeRings 44 = .ok (.iconst 0, 1) := by decide +kernel
theorem dX10_takeRings_45 : decode cX10_takeRings 45 = .ok (.istore_n 2, 1) := by decide +kernel
theorem dX10_takeRings_46 : decode cX10_takeRings 46 = .ok (.iload_n 2, 1) := by decide +kernel
theorem dX10_takeRings_47 : decode cX10_takeRings 47 = .ok (.aload_n 1, 1) := by decide +kernel
theorem dX10_takeRings_48 : decode cX10_takeRings 48 = .ok (.getfield 50, 3) := by decide +kernel
theorem dX10_takeRings_51 : decode cX10_takeRings 51 = .ok (.if_icmp .ge 42, 3) := by decide +kernel
theorem dX10_takeRings_54 : decode cX10_takeRings 54 = .ok (.aload_n 0, 1) := by decide +kernel
theorem dX10_takeRings_55 : decode cX10_takeRings 55 = .ok (.getfield 15, 3) := by decide +kernel
theorem dX10_takeRings_58 : decode cX10_takeRings 58 = .ok (.iload_n 2, 1) := by decide +kernel
theorem dX10_takeRings_59 : decode cX10_takeRings 59 = .ok (.baload, 1) := by decide +kernel
theorem dX10_takeRings_60 : decode cX10_takeRings 60 = .ok (.ifCond .eq 27, 3) := by decide +kernel
theorem dX10_takeRings_63 : decode cX10_takeRings 63 = .ok (.aload_n 0, 1) := by decide +kernel
theorem dX10_takeRings_64 : decode cX10_takeRings 64 = .ok (.getfield 22, 3) := by decide +kernel
theorem dX10_takeRings_67 : decode cX10_takeRings 67 = .ok (.iload_n 2, 1) := by decide +kernel
theorem dX10_takeRings_68 : decode cX10_takeRings 68 = .ok (.aload_n 1, 1) := by decide +kernel
theorem dX10_takeRings_69 : decode cX10_takeRings 69 = .ok (.getfield 47, 3) := by decide +kernel
theorem dX10_takeRings_72 : decode cX10_takeRings 72 = .ok (.aload_n 0, 1) := by decide +kernel
theorem dX10_takeRings_73 : decode cX10_takeRings 73 = .ok (.getfield 18, 3) := by decide +kernel
theorem dX10_takeRings_76 : decode cX10_takeRings 76 = .ok (.iload_n 2, 1) := by decide +kernel
theorem dX10_takeRings_77 : decode cX10_takeRings 77 = .ok (.iaload, 1) := by decide +kernel
theorem dX10_takeRings_78 : decode cX10_takeRings 78 = .ok (.iaload, 1) := by decide +kernel
theorem dX10_takeRings_79 : decode cX10_takeRings 79 = .ok (.iastore, 1) := by decide +kernel
theorem dX10_takeRings_80 : decode cX10_takeRings 80 = .ok (.aload_n 0, 1) := by decide +kernel
theorem dX10_takeRings_81 : decode cX10_takeRings 81 = .ok (.getfield 9, 3) := by decide +kernel
theorem dX10_takeRings_84 : decode cX10_takeRings 84 = .ok (.iload_n 2, 1) := by decide +kernel
theorem dX10_takeRings_85 : decode cX10_takeRings 85 = .ok (.iconst 0, 1) := by decide +kernel
theorem dX10_takeRings_86 : decode cX10_takeRings 86 = .ok (.bastore, 1) := by decide +kernel
theorem dX10_takeRings_87 : decode cX10_takeRings 87 = .ok (.iinc 2 1, 3) := by decide +kernel
theorem dX10_takeRings_90 : decode cX10_takeRings 90 = .ok (.goto (-44), 3) := by decide +kernel
theorem dX10_takeRings_93 : decode cX10_takeRings 93 = .ok (.return_, 1) := by decide +kernel
theorem dX10_isInRing_0 : decode cX10_isInRing 0 = .ok (.aload_n 0, 1) := by decide +kernel
theorem dX10_isInRing_1 : decode cX10_isInRing 1 = .ok (.getfield 18, 3) := by decide +kernel
theorem dX10_isInRing_4 : decode cX10_isInRing 4 = .ok (.iload_n 1, 1) := by decide +kernel
theorem dX10_isInRing_5 : decode cX10_isInRing 5 = .ok (.iaload, 1) := by decide +kernel
theorem dX10_isInRing_6 : decode cX10_isInRing 6 = .ok (.istore_n 2, 1) := by decide +kernel
theorem dX10_isInRing_7 : decode cX10_isInRing 7 = .ok (.iload_n 1, 1) := by decide +kernel
theorem dX10_isInRing_8 : decode cX10_isInRing 8 = .ok (.iload_n 2, 1) := by decide +kernel
theorem dX10_isInRing_9 : decode cX10_isInRing 9 = .ok (.invokestatic 81, 3) := by decide +kernel
theorem dX10_isInRing_12 : decode cX10_isInRing 12 = .ok (.istore_n 3, 1) := by decide +kernel
theorem dX10_isInRing_13 : decode cX10_isInRing 13 = .ok (.iconst 0, 1) := by decide +kernel
theorem dX10_isInRing_14 : decode cX10_isInRing 14 = .ok (.istore 4, 2) := by decide +kernel
theorem dX10_isInRing_16 : decode cX10_isInRing 16 = .ok (.iload 4, 2) := by decide +kernel
theorem dX10_isInRing_18 : decode cX10_isInRing 18 = .ok (.bipush 6, 2) := by decide +kernel
theorem dX10_isInRing_20 : decode cX10_isInRing 20 = .ok (.if_icmp .ge 27, 3) := by decide +kernel
theorem dX10_isInRing_23 : decode cX10_isInRing 23 = .ok (.iload_n 2, 1) := by decide +kernel
theorem dX10_isInRing_24 : decode cX10_isInRing 24 = .ok (.iload_n 1, 1) := by decide +kernel
theorem dX10_isInRing_25 : decode cX10_isInRing 25 = .ok (.if_icmp .eq 22, 3) := by decide +kernel
theorem dX10_isInRing_28 : decode cX10_isInRing 28 = .ok (.aload_n 0, 1) := by decide +kernel
theorem dX10_isInRing_29 : decode cX10_isInRing 29 = .ok (.getfield 18, 3) := by decide +kernel
theorem dX10_isInRing_32 : decode cX10_isInRing 32 = .ok (.iload_n 2, 1) := by decide +kernel
theorem dX10_isInRing_33 : decode cX10_isInRing 33 = .ok (.iaload, 1) := by decide +kernel
theorem dX10_isInRing_34 : decode cX10_isInRing 34 = .ok (.istore_n 2, 1) := by decide +kernel
theorem dX10_isInRing_35 : decode cX10_isInRing 35 = .ok (.iload_n 3, 1) := by decide +kernel
theorem dX10_isInRing_36 : decode cX10_isInRing 36 = .ok (.iload_n 2, 1) := by decide +kernel
theorem dX10_isInRing_37 : decode cX10_isInRing 37 = .ok (.invokestatic 81, 3) := by decide +kernel
theorem dX10_isInRing_40 : decode cX10_isInRing 40 = .ok (.istore_n 3, 1) := by decide +kernel
theorem dX10_isInRing_41 : decode cX10_isInRing 41 = .ok (.iinc 4 1, 3) := by decide +kernel
theorem dX10_isInRing_44 : decode cX10_isInRing 44 = .ok (.goto (-28), 3) := by decide +kernel
theorem dX10_isInRing_47 : decode cX10_isInRing 47 = .ok (.iload_n 2, 1) := by decide +kernel
theorem dX10_isInRing_48 : decode cX10_isInRing 48 = .ok (.iload_n 1, 1) := by decide +kernel
theorem dX10_isInRing_49 : decode cX10_isInRing 49 = .ok (.if_icmp .ne 18, 3) := by decide +kernel
theorem dX10_isInRing_52 : decode cX10_isInRing 52 = .ok (.iload_n 3, 1) := by decide +kernel
theorem dX10_isInRing_53 : decode cX10_isInRing 53 = .ok (.iload_n 1, 1) := by decide +kernel
theorem dX10_isInRing_54 : decode cX10_isInRing 54 = .ok (.if_icmp .ne 13, 3) := by decide +kernel
theorem dX10_isInRing_57 : decode cX10_isInRing 57 = .ok (.aload_n 0, 1) := by decide +kernel
theorem dX10_isInRing_58 : decode cX10_isInRing 58 = .ok (.dup, 1) := by decide +kernel
theorem dX10_isInRing_59 : decode cX10_isInRing 59 = .ok (.getfield 31, 3) := by decide +kernel
theorem dX10_isInRing_62 : decode cX10_isInRing 62 = .ok (.iconst 1, 1) := by decide +kernel
theorem dX10_isInRing_63 : decode cX10_isInRing 63 = .ok (.iadd, 1) := by decide +kernel
theorem dX10_isInRing_64 : decode cX10_isInRing 64 = .ok (.putfield 31, 3) := by decide +kernel
theorem dX10_isInRing_67 : decode cX10_isInRing 67 = .ok (.iload_n 2, 1) := by decide +kernel
theorem dX10_isInRing_68 : decode cX10_isInRing 68 = .ok (.iload_n 1, 1) := by decide +kernel
theorem dX10_isInRing_69 : decode cX10_isInRing 69 = .ok (.if_icmp .ne 7, 3) := by decide +kernel
theorem dX10_isInRing_72 : decode cX10_isInRing 72 = .ok (.iconst 1, 1) := by decide +kernel
theorem dX10_isInRing_73 : decode cX10_isInRing 73 = .ok (.goto 4, 3) := by decide +kernel
theorem dX10_isInRing_76 : decode cX10_isInRing 76 = .ok (.iconst 0, 1) := by decide +kernel
theorem dX10_isInRing_77 : decode cX10_isInRing 77 = .ok (.ireturn, 1) := by decide +kernel
theorem dX10_bothWouldSwap_0 : decode cX10_bothWouldSwap 0 = .ok (.aload_n 1, 1) := by decide +kernel
theorem dX10_bothWouldSwap_1 : decode cX10_bothWouldSwap 1 = .ok (.getfield 25, 3) := by decide +kernel
theorem dX10_bothWouldSwap_4 : decode cX10_bothWouldSwap 4 = .ok (.astore 4, 2) := by decide +kernel
theorem dX10_bothWouldSwap_6 : decode cX10_bothWouldSwap 6 = .ok (.aload 4, 2) := by decide +kernel
theorem dX10_bothWouldSwap_8 : decode cX10_bothWouldSwap 8 = .ok (.getfield 47, 3) := by decide +kernel
theorem dX10_bothWouldSwap_11 : decode cX10_bothWouldSwap 11 = .ok (.iload_n 2, 1) := by decide +kernel
theorem dX10_bothWouldSwap_12 : decode cX10_bothWouldSwap 12 = .ok (.iaload, 1) := by decide +kernel
theorem dX10_bothWouldSwap_13 : decode cX10_bothWouldSwap 13 = .ok (.istore 5, 2) := by decide +kernel
theorem dX10_bothWouldSwap_15 : decode cX10_bothWouldSwap 15 = .ok (.aload 4, 2) := by decide +kernel
theorem dX10_bothWouldSwap_17 : decode cX10_bothWouldSwap 17 = .ok (.getfield 47, 3) := by decide +kernel
theorem dX10_bothWouldSwap_20 : decode cX10_bothWouldSwap 20 = .ok (.iload_n 3, 1) := by decide +kernel
theorem dX10_bothWouldSwap_21 : decode cX10_bothWouldSwap 21 = .ok (.iaload, 1) := by decide +kernel
theorem dX10_bothWouldSwap_22 : decode cX10_bothWouldSwap 22 = .ok (.istore 6, 2) := by decide +kernel
theorem dX10_bothWouldSwap_24 : decode cX10_bothWouldSwap 24 = .ok (.iload 5, 2) := by decide +kernel
theorem dX10_bothWouldSwap_26 : decode cX10_bothWouldSwap 26 = .ok (.iconst (-1), 1) := by decide +kernel
theorem dX10_bothWouldSwap_27 : decode cX10_bothWouldSwap 27 = .ok (.if_icmp .eq 9, 3) := by decide +kernel
theorem dX10_bothWouldSwap_30 : decode cX10_bothWouldSwap 30 = .ok (.iload 6, 2) := by decide +kernel
theorem dX10_bothWouldSwap_32 : decode cX10_bothWouldSwap 32 = .ok (.iconst (-1), 1) := by decide +kernel
theorem dX10_bothWouldSwap_33 : decode cX10_bothWouldSwap 33 = .ok (.if_icmp .ne 5, 3) := by decide +kernel
theorem dX10_bothWouldSwap_36 : decode cX10_bothWouldSwap 36 = .ok (.iconst 0, 1) := by decide +kernel
theorem dX10_bothWouldSwap_37 : decode cX10_bothWouldSwap 37 = .ok (.ireturn, 1) := by decide +kernel
theorem dX10_bothWouldSwap_38 : decode cX10_bothWouldSwap 38 = .ok (.aload_n 1, 1) := by decide +kernel
theorem dX10_bothWouldSwap_39 : decode cX10_bothWouldSwap 39 = .ok (.iload_n 2, 1) := by decide +kernel
theorem dX10_bothWouldSwap_40 : decode cX10_bothWouldSwap 40 = .ok (.iload 5, 2) := by decide +kernel
theorem dX10_bothWouldSwap_42 : decode cX10_bothWouldSwap 42 = .ok (.iload 6, 2) := by decide +kernel
theorem dX10_bothWouldSwap_44 : decode cX10_bothWouldSwap 44 = .ok (.invokestatic 87, 3) := by decide +kernel
theorem dX10_bothWouldSwap_47 : decode cX10_bothWouldSwap 47 = .ok (.ifCond .eq 19, 3) := by decide +kernel
theorem dX10_bothWouldSwap_50 : decode cX10_bothWouldSwap 50 = .ok (.aload_n 1, 1) := by decide +kernel
theorem dX10_bothWouldSwap_51 : decode cX10_bothWouldSwap 51 = .ok (.iload_n 3, 1) := by decide +kernel
theorem dX10_bothWouldSwap_52 : decode cX10_bothWouldSwap 52 = .ok (.iload 6, 2) := by decide +kernel
theorem dX10_bothWouldSwap_54 : decode cX10_bothWouldSwap 54 = .ok (.iload 5, 2) := by decide +kernel
theorem dX10_bothWouldSwap_56 : decode cX10_bothWouldSwap 56 = .ok (.invokestatic 87, 3) := by decide +kernel
theorem dX10_bothWouldSwap_59 : decode cX10_bothWouldSwap 59 = .ok (.ifCond .eq 7, 3) := by decide +kernel
theorem dX10_bothWouldSwap_62 : decode cX10_bothWouldSwap 62 = .ok (.iconst 1, 1) := by decide +kernel
theorem dX10_bothWouldSwap_63 : decode cX10_bothWouldSwap 63 = .ok (.goto 4, 3) := by decide +kernel
theorem dX10_bothWouldSwap_66 : decode cX10_bothWouldSwap 66 = .ok (.iconst 0, 1) := by decide +kernel
theorem dX10_bothWouldSwap_67 : decode cX10_bothWouldSwap 67 = .ok (.ireturn, 1) := by decide +kernel
theorem dX10_wantsMore_0 : decode cX10_wantsMore 0 = .ok (.iload_n 1, 1) := by decide +kernel
theorem dX10_wantsMore_1 : decode cX10_wantsMore 1 = .ok (.bipush 8, 2) := by decide +kernel
theorem dX10_wantsMore_3 : decode cX10_wantsMore 3 = .ok (.imul, 1) := by decide +kernel
theorem dX10_wantsMore_4 : decode cX10_wantsMore 4 = .ok (.istore 4, 2) := by decide +kernel
theorem dX10_wantsMore_6 : decode cX10_wantsMore 6 = .ok (.aload_n 0, 1) := by decide +kernel
theorem dX10_wantsMore_7 : decode cX10_wantsMore 7 = .ok (.getfield 25, 3) := by decide +kernel
theorem dX10_wantsMore_10 : decode cX10_wantsMore 10 = .ok (.getfield 75, 3) := by decide +kernel
theorem dX10_wantsMore_13 : decode cX10_wantsMore 13 = .ok (.iload 4, 2) := by decide +kernel
theorem dX10_wantsMore_15 : decode cX10_wantsMore 15 = .ok (.iload_n 3, 1) := by decide +kernel
theorem dX10_wantsMore_16 : decode cX10_wantsMore 16 = .ok (.iadd, 1) := by decide +kernel
theorem dX10_wantsMore_17 : decode cX10_wantsMore 17 = .ok (.iaload, 1) := by decide +kernel
theorem dX10_wantsMore_18 : decode cX10_wantsMore 18 = .ok (.aload_n 0, 1) := by decide +kernel
theorem dX10_wantsMore_19 : decode cX10_wantsMore 19 = .ok (.getfield 25, 3) := by decide +kernel
theorem dX10_wantsMore_22 : decode cX10_wantsMore 22 = .ok (.getfield 75, 3) := by decide +kernel
theorem dX10_wantsMore_25 : decode cX10_wantsMore 25 = .ok (.iload 4, 2) := by decide +kernel
theorem dX10_wantsMore_27 : decode cX10_wantsMore 27 = .ok (.iload_n 2, 1) := by decide +kernel
theorem dX10_wantsMore_28 : decode cX10_wantsMore 28 = .ok (.iadd, 1) := by decide +kernel
theorem dX10_wantsMore_29 : decode cX10_wantsMore 29 = .ok (.iaload, 1) := by decide +kernel
theorem dX10_wantsMore_30 : decode cX10_wantsMore 30 = .ok (.if_icmp .le 16, 3) := by decide +kernel
theorem dX10_wantsMore_33 : decode cX10_wantsMore 33 = .ok (.aload_n 0, 1) := by decide +kernel
theorem dX10_wantsMore_34 : decode cX10_wantsMore 34 = .ok (.iload_n 1, 1) := by decide +kernel
theorem dX10_wantsMore_35 : decode cX10_wantsMore 35 = .ok (.iload_n 3, 1) := by decide +kernel
theorem dX10_wantsMore_36 : decode cX10_wantsMore 36 = .ok (.invokevirtual 71, 3) := by decide +kernel
theorem dX10_wantsMore_39 : decode cX10_wantsMore 39 = .ok (.ifCond .ne 7, 3) := by decide +kernel
theorem dX10_wantsMore_42 : decode cX10_wantsMore 42 = .ok (.iconst 1, 1) := by decide +kernel
theorem dX10_wantsMore_43 : decode cX10_wantsMore 43 = .ok (.goto 4, 3) := by decide +kernel
theorem dX10_wantsMore_46 : decode cX10_wantsMore 46 = .ok (.iconst 0, 1) := by decide +kernel
theorem dX10_wantsMore_47 : decode cX10_wantsMore 47 = .ok (.ireturn, 1) := by decide +kernel
