theorem dX3_init_0 : decode cX3_init 0 = .ok (.aload_n 0, 1) := by decide +kernel
theorem dX3_init_1 : decode cX3_init 1 = .ok (.invokespecial 5, 3) := by decide +kernel
theorem dX3_init_4 : decode cX3_init 4 = .ok (.aload_n 0, 1) := by decide +kernel
theorem dX3_init_5 : decode cX3_init 5 = .ok (.new 11, 3) := by decide +kernel
theorem dX3_init_8 : decode cX3_init 8 = .ok (.dup, 1) := by decide +kernel
theorem dX3_init_9 : decode cX3_init 9 = .ok (.invokespecial 13, 3) := by decide +kernel
theorem dX3_init_12 : decode cX3_init 12 = .ok (.putfield 14, 3) := by decide +kernel
theorem dX3_init_15 : decode cX3_init 15 = .ok (.aload_n 0, 1) := by decide +kernel
theorem dX3_init_16 : decode cX3_init 16 = .ok (.bipush 9, 2) := by decide +kernel
theorem dX3_init_18 : decode cX3_init 18 = .ok (.newarray .int, 2) := by decide +kernel
theorem dX3_init_20 : decode cX3_init 20 = .ok (.putfield 18, 3) := by decide +kernel
theorem dX3_init_23 : decode cX3_init 23 = .ok (.aload_n 0, 1) := by decide +kernel
theorem dX3_init_24 : decode cX3_init 24 = .ok (.sipush 246, 3) := by decide +kernel
theorem dX3_init_27 : decode cX3_init 27 = .ok (.newarray .int, 2) := by decide +kernel
theorem dX3_init_29 : decode cX3_init 29 = .ok (.putfield 22, 3) := by decide +kernel
theorem dX3_init_32 : decode cX3_init 32 = .ok (.aload_n 0, 1) := by decide +kernel
theorem dX3_init_33 : decode cX3_init 33 = .ok (.aload_n 1, 1) := by decide +kernel
theorem dX3_init_34 : decode cX3_init 34 = .ok (.putfield 25, 3) := by decide +kernel
theorem dX3_init_37 : decode cX3_init 37 = .ok (.return_, 1) := by decide +kernel
theorem dX3_begin_0 : decode cX3_begin 0 = .ok (.aload_n 0, 1) := by decide +kernel
theorem dX3_begin_1 : decode cX3_begin 1 = .ok (.aload_n 1, 1) := by decide +kernel
theorem dX3_begin_2 : decode cX3_begin 2 = .ok (.putfield 25, 3) := by decide +kernel
theorem dX3_begin_5 : decode cX3_begin 5 = .ok (.aload_n 0, 1) := by decide +kernel
theorem dX3_begin_6 : decode cX3_begin 6 = .ok (.aload_n 2, 1) := by decide +kernel
theorem dX3_begin_7 : decode cX3_begin 7 = .ok (.putfield 29, 3) := by decide +kernel
theorem dX3_begin_10 : decode cX3_begin 10 = .ok (.aload_n 0, 1) := by decide +kernel
theorem dX3_begin_11 : decode cX3_begin 11 = .ok (.getfield 22, 3) := by decide +kernel
theorem dX3_begin_14 : decode cX3_begin 14 = .ok (.iconst (-1), 1) := by decide +kernel
theorem dX3_begin_15 : decode cX3_begin 15 = .ok (.invokestatic 33, 3) := by decide +kernel
theorem dX3_begin_18 : decode cX3_begin 18 = .ok (.return_, 1) := by decide +kernel
theorem dX3_minutes_0 : decode cX3_minutes 0 = .ok (.iload_n 1, 1) := by decide +kernel
theorem dX3_minutes_1 : decode cX3_minutes 1 = .ok (.bipush 8, 2) := by decide +kernel
theorem dX3_minutes_3 : decode cX3_minutes 3 = .ok (.imul, 1) := by decide +kernel
theorem dX3_minutes_4 : decode cX3_minutes 4 = .ok (.iload_n 2, 1) := by decide +kernel
theorem dX3_minutes_5 : decode cX3_minutes 5 = .ok (.iadd, 1) := by decide +kernel
theorem dX3_minutes_6 : decode cX3_minutes 6 = .ok (.iconst 3, 1) := by decide +kernel
theorem dX3_minutes_7 : decode cX3_minutes 7 = .ok (.imul, 1) := by decide +kernel
theorem dX3_minutes_8 : decode cX3_minutes 8 = .ok (.iload_n 3, 1) := by decide +kernel
theorem dX3_minutes_9 : decode cX3_minutes 9 = .ok (.iadd, 1) := by decide +kernel
theorem dX3_minutes_10 : decode cX3_minutes 10 = .ok (.istore 4, 2) := by decide +kernel
theorem dX3_minutes_12 : decode cX3_minutes 12 = .ok (.aload_n 0, 1) := by decide +kernel
theorem dX3_minutes_13 : decode cX3_minutes 13 = .ok (.getfield 22, 3) := by decide +kernel
theorem dX3_minutes_16 : decode cX3_minutes 16 = .ok (.iload 4, 2) := by decide +kernel
theorem dX3_minutes_18 : decode cX3_minutes 18 = .ok (.iaload, 1) := by decide +kernel
theorem dX3_minutes_19 : decode cX3_minutes 19 = .ok (.iconst (-1), 1) := by decide +kernel
theorem dX3_minutes_20 : decode cX3_minutes 20 = .ok (.if_icmp .ne 68, 3) := by decide +kernel
theorem dX3_minutes_23 : decode cX3_minutes 23 = .ok (.aload_n 0, 1) := by decide +kernel
theorem dX3_minutes_24 : decode cX3_minutes 24 = .ok (.getfield 25, 3) := by decide +kernel
theorem dX3_minutes_27 : decode cX3_minutes 27 = .ok (.getfield 39, 3) := by decide +kernel
theorem dX3_minutes_30 : decode cX3_minutes 30 = .ok (.iload_n 3, 1) := by decide +kernel
theorem dX3_minutes_31 : decode cX3_minutes 31 = .ok (.iaload, 1) := by decide +kernel
theorem dX3_minutes_32 : decode cX3_minutes 32 = .ok (.iconst 1, 1) := by decide +kernel
theorem dX3_minutes_33 : decode cX3_minutes 33 = .ok (.invokestatic 44, 3) := by decide +kernel
theorem dX3_minutes_36 : decode cX3_minutes 36 = .ok (.istore 5, 2) := by decide +kernel
theorem dX3_minutes_38 : decode cX3_minutes 38 = .ok (.aload_n 0, 1) := by decide +kernel
theorem dX3_minutes_39 : decode cX3_minutes 39 = .ok (.iload_n 1, 1) := by decide +kernel
theorem dX3_minutes_40 : decode cX3_minutes 40 = .ok (.iload_n 2, 1) := by decide +kernel
theorem dX3_minutes_41 : decode cX3_minutes 41 = .ok (.iload 5, 2) := by decide +kernel
theorem dX3_minutes_43 : decode cX3_minutes 43 = .ok (.invokevirtual 50, 3) := by decide +kernel
theorem dX3_minutes_46 : decode cX3_minutes 46 = .ok (.aload_n 0, 1) := by decide +kernel
theorem dX3_minutes_47 : decode cX3_minutes 47 = .ok (.iconst 0, 1) := by decide +kernel
theorem dX3_minutes_48 : decode cX3_minutes 48 = .ok (.invokevirtual 54, 3) := by decide +kernel
theorem dX3_minutes_51 : decode cX3_minutes 51 = .ok (.istore 6, 2) := by decide +kernel
theorem dX3_minutes_53 : decode cX3_minutes 53 = .ok (.aload_n 0, 1) := by decide +kernel
theorem dX3_minutes_54 : decode cX3_minutes 54 = .ok (.getfield 22, 3) := by decide +kernel
theorem dX3_minutes_57 : decode cX3_minutes 57 = .ok (.iload 4, 2) := by decide +kernel
theorem dX3_minutes_59 : decode cX3_minutes 59 = .ok (.iload 6, 2) := by decide +kernel
theorem dX3_minutes_61 : decode cX3_minutes 61 = .ok (.ldc 58, 2) := by decide +kernel
theorem dX3_minutes_63 : decode cX3_minutes 63 = .ok (.if_icmp .ne 13, 3) := by decide +kernel
theorem dX3_minutes_66 : decode cX3_minutes 66 = .ok (.iconst 1, 1) := by decide +kernel
theorem dX3_minutes_67 : decode cX3_minutes 67 = .ok (.bipush 20, 2) := by decide +kernel
theorem dX3_minutes_69 : decode cX3_minutes 69 = .ok (.iload 5, 2) := by decide +kernel
theorem dX3_minutes_71 : decode cX3_minutes 71 = .ok (.idiv, 1) := by decide +kernel
theorem dX3_minutes_72 : decode cX3_minutes 72 = .ok (.iadd, 1) := by decide +kernel
theorem dX3_minutes_73 : decode cX3_minutes 73 = .ok (.goto 14, 3) := by decide +kernel
theorem dX3_minutes_76 : decode cX3_minutes 76 = .ok (.iconst 1, 1) := by decide +kernel
theorem dX3_minutes_77 : decode cX3_minutes 77 = .ok (.iload 6, 2) := by decide +kernel
theorem dX3_minutes_79 : decode cX3_minutes 79 = .ok (.bipush 60, 2) := by decide +kernel
theorem dX3_minutes_81 : decode cX3_minutes 81 = .ok (.invokestatic 59, 3) := by decide +kernel
theorem dX3_minutes_84 : decode cX3_minutes 84 = .ok (.invokestatic 44, 3) := by decide +kernel
theorem dX3_minutes_87 : decode cX3_minutes 87 = .ok (.iastore, 1) := by decide +kernel
theorem dX3_minutes_88 : decode cX3_minutes 88 = .ok (.aload_n 0, 1) := by decide +kernel
theorem dX3_minutes_89 : decode cX3_minutes 89 = .ok (.getfield 22, 3) := by decide +kernel
theorem dX3_minutes_92 : decode cX3_minutes 92 = .ok (.iload 4, 2) := by decide +kernel
theorem dX3_minutes_94 : decode cX3_minutes 94 = .ok (.iaload, 1) := by decide +kernel
theorem dX3_minutes_95 : decode cX3_minutes 95 = .ok (.ireturn, 1) := by decide +kernel
theorem dX3_cost_0 : decode cX3_cost 0 = .ok (.sipush 240, 3) := by decide +kernel
theorem dX3_cost_3 : decode cX3_cost 3 = .ok (.iload_n 1, 1) := by decide +kernel
theorem dX3_cost_4 : decode cX3_cost 4 = .ok (.iadd, 1) := by decide +kernel
theorem dX3_cost_5 : decode cX3_cost 5 = .ok (.istore_n 2, 1) := by decide +kernel
theorem dX3_cost_6 : decode cX3_cost 6 = .ok (.aload_n 0, 1) := by decide +kernel
theorem dX3_cost_7 : decode cX3_cost 7 = .ok (.getfield 22, 3) := by decide +kernel
theorem dX3_cost_10 : decode cX3_cost 10 = .ok (.iload_n 2, 1) := by decide +kernel
theorem dX3_cost_11 : decode cX3_cost 11 = .ok (.iaload, 1) := by decide +kernel
theorem dX3_cost_12 : decode cX3_cost 12 = .ok (.iconst (-1), 1) := by decide +kernel
theorem dX3_cost_13 : decode cX3_cost 13 = .ok (.if_icmp .ne 42, 3) := by decide +kernel
theorem dX3_cost_16 : decode cX3_cost 16 = .ok (.aload_n 0, 1) := by decide +kernel
theorem dX3_cost_17 : decode cX3_cost 17 = .ok (.iload_n 1, 1) := by decide +kernel
theorem dX3_cost_18 : decode cX3_cost 18 = .ok (.iconst (-1), 1) := by decide +kernel
theorem dX3_cost_19 : decode cX3_cost 19 = .ok (.iconst (-1), 1) := by decide +kernel
theorem dX3_cost_20 : decode cX3_cost 20 = .ok (.invokevirtual 50, 3) := by decide +kernel
theorem dX3_cost_23 : decode cX3_cost 23 = .ok (.aload_n 0, 1) := by decide +kernel
theorem dX3_cost_24 : decode cX3_cost 24 = .ok (.iconst 1, 1) := by decide +kernel
theorem dX3_cost_25 : decode cX3_cost 25 = .ok (.invokevirtual 54, 3) := by decide +kernel
theorem dX3_cost_28 : decode cX3_cost 28 = .ok (.istore_n 3, 1) := by decide +kernel
theorem dX3_cost_29 : decode cX3_cost 29 = .ok (.aload_n 0, 1) := by decide +kernel
theorem dX3_cost_30 : decode cX3_cost 30 = .ok (.getfield 22, 3) := by decide +kernel
theorem dX3_cost_33 : decode cX3_cost 33 = .ok (.iload_n 2, 1) := by decide +kernel
theorem dX3_cost_34 : decode cX3_cost 34 = .ok (.iload_n 3, 1) := by decide +kernel
theorem dX3_cost_35 : decode cX3_cost 35 = .ok (.ldc 58, 2) := by decide +kernel
theorem dX3_cost_37 : decode cX3_cost 37 = .ok (.if_icmp .ne 7, 3) := by decide +kernel
theorem dX3_cost_40 : decode cX3_cost 40 = .ok (.iconst 1, 1) := by decide +kernel
theorem dX3_cost_41 : decode cX3_cost 41 = .ok (.goto 13, 3) := by decide +kernel
theorem dX3_cost_44 : decode cX3_cost 44 = .ok (.iconst 0, 1) := by decide +kernel
theorem dX3_cost_45 : decode cX3_cost 45 = .ok (.iload_n 3, 1) := by decide +kernel
theorem dX3_cost_46 : decode cX3_cost 46 = .ok (.bipush 9, 2) := by decide +kernel
theorem dX3_cost_48 : decode cX3_cost 48 = .ok (.invokestatic 59, 3) := by decide +kernel
theorem dX3_cost_51 : decode cX3_cost 51 = .ok (.invokestatic 44, 3) := by decide +kernel
theorem dX3_cost_54 : decode cX3_cost 54 = .ok (.iastore, 1) := by decide +kernel
theorem dX3_cost_55 : decode cX3_cost 55 = .ok (.aload_n 0, 1) := by decide +kernel
theorem dX3_cost_56 : decode cX3_cost 56 = .ok (.getfield 22, 3) := by decide +kernel
theorem dX3_cost_59 : decode cX3_cost 59 = .ok (.iload_n 2, 1) := by decide +kernel
theorem dX3_cost_60 : decode cX3_cost 60 = .ok (.iaload, 1) := by decide +kernel
theorem dX3_cost_61 : decode cX3_cost 61 = .ok (.ireturn, 1) := by decide +kernel
theorem dX3_isFit_0 : decode cX3_isFit 0 = .ok (.sipush 144, 3) := by decide +kernel
theorem dX3_isFit_3 : decode cX3_isFit 3 = .ok (.iload_n 1, 1) := by decide +kernel
theorem dX3_isFit_4 : decode cX3_isFit 4 = .ok (.bipush 8, 2) := by decide +kernel
theorem dX3_isFit_6 : decode cX3_isFit 6 = .ok (.imul, 1) := by decide +kernel
theorem dX3_isFit_7 : decode cX3_isFit 7 = .ok (.iadd, 1) := by decide +kernel
theorem dX3_isFit_8 : decode cX3_isFit 8 = .ok (.iload_n 2, 1) := by decide +kernel
theorem dX3_isFit_9 : decode cX3_isFit 9 = .ok (.iadd, 1) := by decide +kernel
theorem dX3_isFit_10 : decode cX3_isFit 10 = .ok (.istore_n 3, 1) := by decide +kernel
theorem dX3_isFit_11 : decode cX3_isFit 11 = .ok (.aload_n 0, 1) := by decide +kernel
theorem dX3_isFit_12 : decode cX3_isFit 12 = .ok (.getfield 22, 3) := by decide +kernel
theorem dX3_isFit_15 : decode cX3_isFit 15 = .ok (.iload_n 3, 1) := by decide +kernel
theorem dX3_isFit_16 : decode cX3_isFit 16 = .ok (.iaload, 1) := by decide +kernel
theorem dX3_isFit_17 : decode cX3_isFit 17 = .ok (.iconst (-1), 1) := by decide +kernel
theorem dX3_isFit_18 : decode cX3_isFit 18 = .ok (.if_icmp .ne 50, 3) := by decide +kernel
theorem dX3_isFit_21 : decode cX3_isFit 21 = .ok (.aload_n 0, 1) := by decide +kernel
theorem dX3_isFit_22 : decode cX3_isFit 22 = .ok (.iload_n 1, 1) := by decide +kernel
theorem dX3_isFit_23 : decode cX3_isFit 23 = .ok (.iload_n 2, 1) := by decide +kernel
theorem dX3_isFit_24 : decode cX3_isFit 24 = .ok (.iconst (-1), 1) := by decide +kernel
theorem dX3_isFit_25 : decode cX3_isFit 25 = .ok (.invokevirtual 50, 3) := by decide +kernel
theorem dX3_isFit_28 : decode cX3_isFit 28 = .ok (.aload_n 0, 1) := by decide +kernel
theorem dX3_isFit_29 : decode cX3_isFit 29 = .ok (.getfield 22, 3) := by decide +kernel
theorem dX3_isFit_32 : decode cX3_isFit 32 = .ok (.iload_n 3, 1) := by decide +kernel
theorem dX3_isFit_33 : decode cX3_isFit 33 = .ok (.aload_n 0, 1) := by decide +kernel
theorem dX3_isFit_34 : decode cX3_isFit 34 = .ok (.getfield 25, 3) := by decide +kernel
theorem dX3_isFit_37 : decode cX3_isFit 37 = .ok (.getfield 62, 3) := by decide +kernel
theorem dX3_isFit_40 : decode cX3_isFit 40 = .ok (.iload_n 2, 1) := by decide +kernel
theorem dX3_isFit_41 : decode cX3_isFit 41 = .ok (.iaload, 1) := by decide +kernel
theorem dX3_isFit_42 : decode cX3_isFit 42 = .ok (.aload_n 0, 1) := by decide +kernel
theorem dX3_isFit_43 : decode cX3_isFit 43 = .ok (.getfield 25, 3) := by decide +kernel
theorem dX3_isFit_46 : decode cX3_isFit 46 = .ok (.getfield 65, 3) := by decide +kernel
theorem dX3_isFit_49 : decode cX3_isFit 49 = .ok (.iload_n 1, 1) := by decide +kernel
theorem dX3_isFit_50 : decode cX3_isFit 50 = .ok (.iaload, 1) := by decide +kernel
theorem dX3_isFit_51 : decode cX3_isFit 51 = .ok (.if_icmp .eq 11, 3) := by decide +kernel
theorem dX3_isFit_54 : decode cX3_isFit 54 = .ok (.aload_n 0, 1) := by decide +kernel
theorem dX3_isFit_55 : decode cX3_isFit 55 = .ok (.iconst 2, 1) := by decide +kernel
theorem dX3_isFit_56 : decode cX3_isFit 56 = .ok (.invokevirtual 68, 3) := by decide +kernel
theorem dX3_isFit_59 : decode cX3_isFit 59 = .ok (.ifCond .eq 7, 3) := by decide +kernel
theorem dX3_isFit_62 : decode cX3_isFit 62 = .ok (.iconst 1, 1) := by decide +kernel
theorem dX3_isFit_63 : decode cX3_isFit 63 = .ok (.goto 4, 3) := by decide +kernel
theorem dX3_isFit_66 : decode cX3_isFit 66 = .ok (.iconst 0, 1) := by decide +kernel
theorem dX3_isFit_67 : decode cX3_isFit 67 = .ok (.iastore, 1) := by decide +kernel
theorem dX3_isFit_68 : decode cX3_isFit 68 = .ok (.aload_n 0, 1) := by decide +kernel
theorem dX3_isFit_69 : decode cX3_isFit 69 = .ok (.getfield 22, 3) := by decide +kernel
theorem dX3_isFit_72 : decode cX3_isFit 72 = .ok (.iload_n 3, 1) := by decide +kernel
theorem dX3_isFit_73 : decode cX3_isFit 73 = .ok (.iaload, 1) := by decide +kernel
theorem dX3_isFit_74 : decode cX3_isFit 74 = .ok (.iconst 1, 1) := by decide +kernel
theorem dX3_isFit_75 : decode cX3_isFit 75 = .ok (.if_icmp .ne 7, 3) := by decide +kernel
theorem dX3_isFit_78 : decode cX3_isFit 78 = .ok (.iconst 1, 1) := by decide +kernel
theorem dX3_isFit_79 : decode cX3_isFit 79 = .ok (.goto 4, 3) := by decide +kernel
theorem dX3_isFit_82 : decode cX3_isFit 82 = .ok (.iconst 0, 1) := by decide +kernel
theorem dX3_isFit_83 : decode cX3_isFit 83 = .ok (.ireturn, 1) := by decide +kernel
theorem dX3_isBarred_0 : decode cX3_isBarred 0 = .ok (.sipush 192, 3) := by decide +kernel
theorem dX3_isBarred_3 : decode cX3_isBarred 3 = .ok (.iload_n 1, 1) := by decide +kernel
theorem dX3_isBarred_4 : decode cX3_isBarred 4 = .ok (.bipush 8, 2) := by decide +kernel
theorem dX3_isBarred_6 : decode cX3_isBarred 6 = .ok (.imul, 1) := by decide +kernel
theorem dX3_isBarred_7 : decode cX3_isBarred 7 = .ok (.iadd, 1) := by decide +kernel
theorem dX3_isBarred_8 : decode cX3_isBarred 8 = .ok (.iload_n 2, 1) := by decide +kernel
theorem dX3_isBarred_9 : decode cX3_isBarred 9 = .ok (.iadd, 1) := by decide +kernel
theorem dX3_isBarred_10 : decode cX3_isBarred 10 = .ok (.istore_n 3, 1) := by decide +kernel
theorem dX3_isBarred_11 : decode cX3_isBarred 11 = .ok (.aload_n 0, 1) := by decide +kernel
theorem dX3_isBarred_12 : decode cX3_isBarred 12 = .ok (.getfield 22, 3) := by decide +kernel
theorem dX3_isBarred_15 : decode cX3_isBarred 15 = .ok (.iload_n 3, 1) := by decide +kernel
theorem dX3_isBarred_16 : decode cX3_isBarred 16 = .ok (.iaload, 1) := by decide +kernel
theorem dX3_isBarred_17 : decode cX3_isBarred 17 = .ok (.iconst (-1), 1) := by decide +kernel
theorem dX3_isBarred_18 : decode cX3_isBarred 18 = .ok (.if_icmp .ne 29, 3) := by decide +kernel
theorem dX3_isBarred_21 : decode cX3_isBarred 21 = .ok (.aload_n 0, 1) := by decide +kernel
theorem dX3_isBarred_22 : decode cX3_isBarred 22 = .ok (.iload_n 1, 1) := by decide +kernel
theorem dX3_isBarred_23 : decode cX3_isBarred 23 = .ok (.iload_n 2, 1) := by decide +kernel
theorem dX3_isBarred_24 : decode cX3_isBarred 24 = .ok (.iconst (-1), 1) := by decide +kernel
theorem dX3_isBarred_25 : decode cX3_isBarred 25 = .ok (.invokevirtual 50, 3) := by decide +kernel
theorem dX3_isBarred_28 : decode cX3_isBarred 28 = .ok (.aload_n 0, 1) := by decide +kernel
theorem dX3_isBarred_29 : decode cX3_isBarred 29 = .ok (.getfield 22, 3) := by decide +kernel
theorem dX3_isBarred_32 : decode cX3_isBarred 32 = .ok (.iload_n 3, 1) := by decide +kernel
theorem dX3_isBarred_33 : decode cX3_isBarred 33 = .ok (.aload_n 0, 1) := by decide +kernel
theorem dX3_isBarred_34 : decode cX3_isBarred 34 = .ok (.iconst 3, 1) := by decide +kernel
theorem dX3_isBarred_35 : decode cX3_isBarred 35 = .ok (.invokevirtual 68, 3) := by decide +kernel
theorem dX3_isBarred_38 : decode cX3_isBarred 38 = .ok (.ifCond .eq 7, 3) := by decide +kernel
theorem dX3_isBarred_41 : decode cX3_isBarred 41 = .ok (.iconst 1, 1) := by decide +kernel
theorem dX3_isBarred_42 : decode cX3_isBarred 42 = .ok (.goto 4, 3) := by decide +kernel
theorem dX3_isBarred_45 : decode cX3_isBarred 45 = .ok (.iconst 0, 1) := by decide +kernel
theorem dX3_isBarred_46 : decode cX3_isBarred 46 = .ok (.iastore, 1) := by decide +kernel
theorem dX3_isBarred_47 : decode cX3_isBarred 47 = .ok (.aload_n 0, 1) := by decide +kernel
theorem dX3_isBarred_48 : decode cX3_isBarred 48 = .ok (.getfield 22, 3) := by decide +kernel
theorem dX3_isBarred_51 : decode cX3_isBarred 51 = .ok (.iload_n 3, 1) := by decide +kernel
theorem dX3_isBarred_52 : decode cX3_isBarred 52 = .ok (.iaload, 1) := by decide +kernel
theorem dX3_isBarred_53 : decode cX3_isBarred 53 = .ok (.iconst 1, 1) := by decide +kernel
theorem dX3_isBarred_54 : decode cX3_isBarred 54 = .ok (.if_icmp .ne 7, 3) := by decide +kernel
theorem dX3_isBarred_57 : decode cX3_isBarred 57 = .ok (.iconst 1, 1) := by decide +kernel
theorem dX3_isBarred_58 : decode cX3_isBarred 58 = .ok (.goto 4, 3) := by decide +kernel
theorem dX3_isBarred_61 : decode cX3_isBarred 61 = .ok (.iconst 0, 1) := by decide +kernel
theorem dX3_isBarred_62 : decode cX3_isBarred 62 = .ok (.ireturn, 1) := by decide +kernel
theorem dX3_speakOf_0 : decode cX3_speakOf 0 = .ok (.aload_n 0, 1) := by decide +kernel
theorem dX3_speakOf_1 : decode cX3_speakOf 1 = .ok (.getfield 18, 3) := by decide +kernel
theorem dX3_speakOf_4 : decode cX3_speakOf 4 = .ok (.iconst 0, 1) := by decide +kernel
theorem dX3_speakOf_5 : decode cX3_speakOf 5 = .ok (.iload_n 1, 1) := by decide +kernel
theorem dX3_speakOf_6 : decode cX3_speakOf 6 = .ok (.iastore, 1) := by decide +kernel
theorem dX3_speakOf_7 : decode cX3_speakOf 7 = .ok (.aload_n 0, 1) := by decide +kernel
theorem dX3_speakOf_8 : decode cX3_speakOf 8 = .ok (.getfield 18, 3) := by decide +kernel
theorem dX3_speakOf_11 : decode cX3_speakOf 11 = .ok (.iconst 1, 1) := by decide +kernel
theorem dX3_speakOf_12 : decode cX3_speakOf 12 = .ok (.aload_n 0, 1) := by decide +kernel
theorem dX3_speakOf_13 : decode cX3_speakOf 13 = .ok (.getfield 25, 3) := by decide +kernel
theorem dX3_speakOf_16 : decode cX3_speakOf 16 = .ok (.getfield 65, 3) := by decide +kernel
theorem dX3_speakOf_19 : decode cX3_speakOf 19 = .ok (.iload_n 1, 1) := by decide +kernel
theorem dX3_speakOf_20 : decode cX3_speakOf 20 = .ok (.iaload, 1) := by decide +kernel
theorem dX3_speakOf_21 : decode cX3_speakOf 21 = .ok (.iastore, 1) := by decide +kernel
theorem dX3_speakOf_22 : decode cX3_speakOf 22 = .ok (.aload_n 0, 1) := by decide +kernel
theorem dX3_speakOf_23 : decode cX3_speakOf 23 = .ok (.getfield 18, 3) := by decide +kernel
theorem dX3_speakOf_26 : decode cX3_speakOf 26 = .ok (.iconst 2, 1) := by decide +kernel
theorem dX3_speakOf_27 : decode cX3_speakOf 27 = .ok (.aload_n 0, 1) := by decide +kernel
theorem dX3_speakOf_28 : decode cX3_speakOf 28 = .ok (.getfield 25, 3) := by decide +kernel
theorem dX3_speakOf_31 : decode cX3_speakOf 31 = .ok (.getfield 72, 3) := by decide +kernel
theorem dX3_speakOf_34 : decode cX3_speakOf 34 = .ok (.iload_n 1, 1) := by decide +kernel
theorem dX3_speakOf_35 : decode cX3_speakOf 35 = .ok (.iaload, 1) := by decide +kernel
theorem dX3_speakOf_36 : decode cX3_speakOf 36 = .ok (.iastore, 1) := by decide +kernel
theorem dX3_speakOf_37 : decode cX3_speakOf 37 = .ok (.aload_n 0, 1) := by decide +kernel
theorem dX3_speakOf_38 : decode cX3_speakOf 38 = .ok (.getfield 18, 3) := by decide +kernel
theorem dX3_speakOf_41 : decode cX3_speakOf 41 = .ok (.iconst 3, 1) := by decide +kernel
theorem dX3_speakOf_42 : decode cX3_speakOf 42 = .ok (.iload_n 2, 1) := by decide +kernel
theorem dX3_speakOf_43 : decode cX3_speakOf 43 = .ok (.iastore, 1) := by decide +kernel
theorem dX3_speakOf_44 : decode cX3_speakOf 44 = .ok (.aload_n 0, 1) := by decide +kernel
theorem dX3_speakOf_45 : decode cX3_speakOf 45 = .ok (.getfield 18, 3) := by decide +kernel
theorem dX3_speakOf_48 : decode cX3_speakOf 48 = .ok (.iconst 4, 1) := by decide +kernel
theorem dX3_speakOf_49 : decode cX3_speakOf 49 = .ok (.iload_n 2, 1) := by decide +kernel
theorem dX3_speakOf_50 : decode cX3_speakOf 50 = .ok (.ifCond .ge 7, 3) := by decide +kernel
theorem dX3_speakOf_53 : decode cX3_speakOf 53 = .ok (.iconst (-1), 1) := by decide +kernel
theorem dX3_speakOf_54 : decode cX3_speakOf 54 = .ok (.goto 12, 3) := by decide +kernel
theorem dX3_speakOf_57 : decode cX3_speakOf 57 = .ok (.aload_n 0, 1) := by decide +kernel
theorem dX3_speakOf_58 : decode cX3_speakOf 58 = .ok (.getfield 25, 3) := by decide +kernel
theorem dX3_speakOf_61 : decode cX3_speakOf 61 = .ok (.getfield 75, 3) := by decide +kernel
theorem dX3_speakOf_64 : decode cX3_speakOf 64 = .ok (.iload_n 2, 1) := by decide +kernel
theorem dX3_speakOf_65 : decode cX3_speakOf 65 = .ok (.iaload, 1) := by decide +kernel
theorem dX3_speakOf_66 : decode cX3_speakOf 66 = .ok (.iastore, 1) := by decide +kernel
theorem dX3_speakOf_67 : decode cX3_speakOf 67 = .ok (.aload_n 0, 1) := by decide +kernel
theorem dX3_speakOf_68 : decode cX3_speakOf 68 = .ok (.getfield 18, 3) := by decide +kernel
theorem dX3_speakOf_71 : decode cX3_speakOf 71 = .ok (.iconst 5, 1) := by decide +kernel
theorem dX3_speakOf_72 : decode cX3_speakOf 72 = .ok (.iload_n 2, 1) := by decide +kernel
theorem dX3_speakOf_73 : decode cX3_speakOf 73 = .ok (.ifCond .ge 7, 3) := by decide +kernel
theorem dX3_speakOf_76 : decode cX3_speakOf 76 = .ok (.iconst (-1), 1) := by decide +kernel
theorem dX3_speakOf_77 : decode cX3_speakOf 77 = .ok (.goto 12, 3) := by decide +kernel
theorem dX3_speakOf_80 : decode cX3_speakOf 80 = .ok (.aload_n 0, 1) := by decide +kernel
theorem dX3_speakOf_81 : decode cX3_speakOf 81 = .ok (.getfield 25, 3) := by decide +kernel
theorem dX3_speakOf_84 : decode cX3_speakOf 84 = .ok (.getfield 62, 3) := by decide +kernel
theorem dX3_speakOf_87 : decode cX3_speakOf 87 = .ok (.iload_n 2, 1) := by decide +kernel
theorem dX3_speakOf_88 : decode cX3_speakOf 88 = .ok (.iaload, 1) := by decide +kernel
theorem dX3_speakOf_89 : decode cX3_speakOf 89 = .ok (.iastore, 1) := by decide +kernel
theorem dX3_speakOf_90 : decode cX3_speakOf 90 = .ok (.aload_n 0, 1) := by decide +kernel
theorem dX3_speakOf_91 : decode cX3_speakOf 91 = .ok (.getfield 18, 3) := by decide +kernel
theorem dX3_speakOf_94 : decode cX3_speakOf 94 = .ok (.bipush 6, 2) := by decide +kernel
theorem dX3_speakOf_96 : decode cX3_speakOf 96 = .ok (.iload_n 3, 1) := by decide +kernel
theorem dX3_speakOf_97 : decode cX3_speakOf 97 = .ok (.iastore, 1) := by decide +kernel
theorem dX3_speakOf_98 : decode cX3_speakOf 98 = .ok (.aload_n 0, 1) := by decide +kernel
theorem dX3_speakOf_99 : decode cX3_speakOf 99 = .ok (.getfield 18, 3) := by decide +kernel
theorem dX3_speakOf_102 : decode cX3_speakOf 102 = .ok (.bipush 7, 2) := by decide +kernel
theorem dX3_speakOf_104 : decode cX3_speakOf 104 = .ok (.aload_n 0, 1) := by decide +kernel
theorem dX3_speakOf_105 : decode cX3_speakOf 105 = .ok (.getfield 25, 3) := by decide +kernel
theorem dX3_speakOf_108 : decode cX3_speakOf 108 = .ok (.getfield 78, 3) := by decide +kernel
theorem dX3_speakOf_111 : decode cX3_speakOf 111 = .ok (.iconst 0, 1) := by decide +kernel
theorem dX3_speakOf_112 : decode cX3_speakOf 112 = .ok (.iaload, 1) := by decide +kernel
theorem dX3_speakOf_113 : decode cX3_speakOf 113 = .ok (.iastore, 1) := by decide +kernel
theorem dX3_speakOf_114 : decode cX3_speakOf 114 = .ok (.aload_n 0, 1) := by decide +kernel
theorem dX3_speakOf_115 : decode cX3_speakOf 115 = .ok (.getfield 18, 3) := by decide +kernel
theorem dX3_speakOf_118 : decode cX3_speakOf 118 = .ok (.bipush 8, 2) := by decide +kernel
theorem dX3_speakOf_120 : decode cX3_speakOf 120 = .ok (.aload_n 0, 1) := by decide +kernel
theorem dX3_speakOf_121 : decode cX3_speakOf 121 = .ok (.getfield 25, 3) := by decide +kernel
theorem dX3_speakOf_124 : decode cX3_speakOf 124 = .ok (.getfield 78, 3) := by decide +kernel
theorem dX3_speakOf_127 : decode cX3_speakOf 127 = .ok (.iconst 2, 1) := by decide +kernel
theorem dX3_speakOf_128 : decode cX3_speakOf 128 = .ok (.iaload, 1) := by decide +kernel
theorem dX3_speakOf_129 : decode cX3_speakOf 129 = .ok (.iastore, 1) := by decide +kernel
theorem dX3_speakOf_130 : decode cX3_speakOf 130 = .ok (.return_, 1) := by decide +kernel
theorem dX3_lastTold_0 : decode cX3_lastTold 0 = .ok (.aload_n 0, 1) := by decide +kernel
theorem dX3_lastTold_1 : decode cX3_lastTold 1 = .ok (.getfield 29, 3) := by decide +kernel
theorem dX3_lastTold_4 : decode cX3_lastTold 4 = .ok (.ifnonnull 6, 3) := by decide +kernel
theorem dX3_lastTold_7 : decode cX3_lastTold 7 = .ok (.ldc 58, 2) := by decide +kernel
theorem dX3_lastTold_9 : decode cX3_lastTold 9 = .ok (.ireturn, 1) := by decide +kernel
theorem dX3_lastTold_10 : decode cX3_lastTold 10 = .ok (.aload_n 0, 1) := by decide +kernel
theorem dX3_lastTold_11 : decode cX3_lastTold 11 = .ok (.getfield 29, 3) := by decide +kernel
theorem dX3_lastTold_14 : decode cX3_lastTold 14 = .ok (.getfield 81, 3) := by decide +kernel
theorem dX3_lastTold_17 : decode cX3_lastTold 17 = .ok (.iconst 1, 1) := by decide +kernel
theorem dX3_lastTold_18 : decode cX3_lastTold 18 = .ok (.isub, 1) := by decide +kernel
theorem dX3_lastTold_19 : decode cX3_lastTold 19 = .ok (.istore_n 2, 1) := by decide +kernel
theorem dX3_lastTold_20 : decode cX3_lastTold 20 = .ok (.iload_n 2, 1) := by decide +kernel
theorem dX3_lastTold_21 : decode cX3_lastTold 21 = .ok (.ifCond .lt 96, 3) := by decide +kernel
theorem dX3_lastTold_24 : decode cX3_lastTold 24 = .ok (.aload_n 0, 1) := by decide +kernel
theorem dX3_lastTold_25 : decode cX3_lastTold 25 = .ok (.getfield 29, 3) := by decide +kernel
theorem dX3_lastTold_28 : decode cX3_lastTold 28 = .ok (.iload_n 2, 1) := by decide +kernel
theorem dX3_lastTold_29 : decode cX3_lastTold 29 = .ok (.iconst 0, 1) := by decide +kernel
theorem dX3_lastTold_30 : decode cX3_lastTold 30 = .ok (.invokevirtual 87, 3) := by decide +kernel
theorem dX3_lastTold_33 : decode cX3_lastTold 33 = .ok (.iload_n 1, 1) := by decide +kernel
theorem dX3_lastTold_34 : decode cX3_lastTold 34 = .ok (.if_icmp .eq 6, 3) := by decide +kernel
theorem dX3_lastTold_37 : decode cX3_lastTold 37 = .ok (.goto 74, 3) := by decide +kernel
theorem dX3_lastTold_40 : decode cX3_lastTold 40 = .ok (.aload_n 0, 1) := by decide +kernel
theorem dX3_lastTold_41 : decode cX3_lastTold 41 = .ok (.getfield 29, 3) := by decide +kernel
theorem dX3_lastTold_44 : decode cX3_lastTold 44 = .ok (.iload_n 2, 1) := by decide +kernel
theorem dX3_lastTold_45 : decode cX3_lastTold 45 = .ok (.iconst 2, 1) := by decide +kernel
theorem dX3_lastTold_46 : decode cX3_lastTold 46 = .ok (.invokevirtual 87, 3) := by decide +kernel
theorem dX3_lastTold_49 : decode cX3_lastTold 49 = .ok (.istore_n 3, 1) := by decide +kernel
theorem dX3_lastTold_50 : decode cX3_lastTold 50 = .ok (.iload_n 3, 1) := by decide +kernel
theorem dX3_lastTold_51 : decode cX3_lastTold 51 = .ok (.iconst (-1), 1) := by decide +kernel
theorem dX3_lastTold_52 : decode cX3_lastTold 52 = .ok (.if_icmp .eq 23, 3) := by decide +kernel
theorem dX3_lastTold_55 : decode cX3_lastTold 55 = .ok (.aload_n 0, 1) := by decide +kernel
theorem dX3_lastTold_56 : decode cX3_lastTold 56 = .ok (.getfield 14, 3) := by decide +kernel
theorem dX3_lastTold_59 : decode cX3_lastTold 59 = .ok (.aload_n 0, 1) := by decide +kernel
theorem dX3_lastTold_60 : decode cX3_lastTold 60 = .ok (.getfield 29, 3) := by decide +kernel
theorem dX3_lastTold_63 : decode cX3_lastTold 63 = .ok (.iload_n 3, 1) := by decide +kernel
theorem dX3_lastTold_64 : decode cX3_lastTold 64 = .ok (.aload_n 0, 1) := by decide +kernel
theorem dX3_lastTold_65 : decode cX3_lastTold 65 = .ok (.getfield 18, 3) := by decide +kernel
theorem dX3_lastTold_68 : decode cX3_lastTold 68 = .ok (.invokevirtual 90, 3) := by decide +kernel
theorem dX3_lastTold_71 : decode cX3_lastTold 71 = .ok (.iconst 1, 1) := by decide +kernel
theorem dX3_lastTold_72 : decode cX3_lastTold 72 = .ok (.if_icmp .ne 39, 3) := by decide +kernel
theorem dX3_lastTold_75 : decode cX3_lastTold 75 = .ok (.aload_n 0, 1) := by decide +kernel
theorem dX3_lastTold_76 : decode cX3_lastTold 76 = .ok (.getfield 14, 3) := by decide +kernel
theorem dX3_lastTold_79 : decode cX3_lastTold 79 = .ok (.aload_n 0, 1) := by decide +kernel
theorem dX3_lastTold_80 : decode cX3_lastTold 80 = .ok (.getfield 29, 3) := by decide +kernel
theorem dX3_lastTold_83 : decode cX3_lastTold 83 = .ok (.aload_n 0, 1) := by decide +kernel
theorem dX3_lastTold_84 : decode cX3_lastTold 84 = .ok (.getfield 29, 3) := by decide +kernel
theorem dX3_lastTold_87 : decode cX3_lastTold 87 = .ok (.iload_n 2, 1) := by decide +kernel
theorem dX3_lastTold_88 : decode cX3_lastTold 88 = .ok (.iconst 3, 1) := by decide +kernel
theorem dX3_lastTold_89 : decode cX3_lastTold 89 = .ok (.invokevirtual 87, 3) := by decide +kernel
theorem dX3_lastTold_92 : decode cX3_lastTold 92 = .ok (.aload_n 0, 1) := by decide +kernel
theorem dX3_lastTold_93 : decode cX3_lastTold 93 = .ok (.getfield 18, 3) := by decide +kernel
theorem dX3_lastTold_96 : decode cX3_lastTold 96 = .ok (.invokevirtual 90, 3) := by decide +kernel
theorem dX3_lastTold_99 : decode cX3_lastTold 99 = .ok (.istore 4, 2) := by decide +kernel
theorem dX3_lastTold_101 : decode cX3_lastTold 101 = .ok (.iload 4, 2) := by decide +kernel
theorem dX3_lastTold_103 : decode cX3_lastTold 103 = .ok (.ldc 58, 2) := by decide +kernel
theorem dX3_lastTold_105 : decode cX3_lastTold 105 = .ok (.if_icmp .eq 6, 3) := by decide +kernel
theorem dX3_lastTold_108 : decode cX3_lastTold 108 = .ok (.iload 4, 2) := by decide +kernel
theorem dX3_lastTold_110 : decode cX3_lastTold 110 = .ok (.ireturn, 1) := by decide +kernel
theorem dX3_lastTold_111 : decode cX3_lastTold 111 = .ok (.iinc 2 (-1), 3) := by decide +kernel
theorem dX3_lastTold_114 : decode cX3_lastTold 114 = .ok (.goto (-94), 3) := by decide +kernel
theorem dX3_lastTold_117 : decode cX3_lastTold 117 = .ok (.ldc 58, 2) := by decide +kernel
theorem dX3_lastTold_119 : decode cX3_lastTold 119 = .ok (.ireturn, 1) := by decide +kernel
theorem dX3_anyHolds_0 : decode cX3_anyHolds 0 = .ok (.aload_n 0, 1) := by decide +kernel
theorem dX3_anyHolds_1 : decode cX3_anyHolds 1 = .ok (.getfield 29, 3) := by decide +kernel
theorem dX3_anyHolds_4 : decode cX3_anyHolds 4 = .ok (.ifnonnull 5, 3) := by decide +kernel
theorem dX3_anyHolds_7 : decode cX3_anyHolds 7 = .ok (.iconst 0, 1) := by decide +kernel
theorem dX3_anyHolds_8 : decode cX3_anyHolds 8 = .ok (.ireturn, 1) := by decide +kernel
theorem dX3_anyHolds_9 : decode cX3_anyHolds 9 = .ok (.iconst 0, 1) := by decide +kernel
theorem dX3_anyHolds_10 : decode cX3_anyHolds 10 = .ok (.istore_n 2, 1) := by decide +kernel
theorem dX3_anyHolds_11 : decode cX3_anyHolds 11 = .ok (.iload_n 2, 1) := by decide +kernel
theorem dX3_anyHolds_12 : decode cX3_anyHolds 12 = .ok (.aload_n 0, 1) := by decide +kernel
theorem dX3_anyHolds_13 : decode cX3_anyHolds 13 = .ok (.getfield 29, 3) := by decide +kernel
theorem dX3_anyHolds_16 : decode cX3_anyHolds 16 = .ok (.getfield 81, 3) := by decide +kernel
theorem dX3_anyHolds_19 : decode cX3_anyHolds 19 = .ok (.if_icmp .ge 59, 3) := by decide +kernel
theorem dX3_anyHolds_22 : decode cX3_anyHolds 22 = .ok (.aload_n 0, 1) := by decide +kernel
theorem dX3_anyHolds_23 : decode cX3_anyHolds 23 = .ok (.getfield 29, 3) := by decide +kernel
theorem dX3_anyHolds_26 : decode cX3_anyHolds 26 = .ok (.iload_n 2, 1) := by decide +kernel
theorem dX3_anyHolds_27 : decode cX3_anyHolds 27 = .ok (.iconst 0, 1) := by decide +kernel
theorem dX3_anyHolds_28 : decode cX3_anyHolds 28 = .ok (.invokevirtual 87, 3) := by decide +kernel
theorem dX3_anyHolds_31 : decode cX3_anyHolds 31 = .ok (.iload_n 1, 1) := by decide +kernel
theorem dX3_anyHolds_32 : decode cX3_anyHolds 32 = .ok (.if_icmp .ne 40, 3) := by decide +kernel
theorem dX3_anyHolds_35 : decode cX3_anyHolds 35 = .ok (.aload_n 0, 1) := by decide +kernel
theorem dX3_anyHolds_36 : decode cX3_anyHolds 36 = .ok (.getfield 29, 3) := by decide +kernel
theorem dX3_anyHolds_39 : decode cX3_anyHolds 39 = .ok (.iload_n 2, 1) := by decide +kernel
theorem dX3_anyHolds_40 : decode cX3_anyHolds 40 = .ok (.iconst 2, 1) := by decide +kernel
theorem dX3_anyHolds_41 : decode cX3_anyHolds 41 = .ok (.invokevirtual 87, 3) := by decide +kernel
theorem dX3_anyHolds_44 : decode cX3_anyHolds 44 = .ok (.istore_n 3, 1) := by decide +kernel
theorem dX3_anyHolds_45 : decode cX3_anyHolds 45 = .ok (.iload_n 3, 1) := by decide +kernel
theorem dX3_anyHolds_46 : decode cX3_anyHolds 46 = .ok (.iconst (-1), 1) := by decide +kernel
theorem dX3_anyHolds_47 : decode cX3_anyHolds 47 = .ok (.if_icmp .eq 23, 3) := by decide +kernel
theorem dX3_anyHolds_50 : decode cX3_anyHolds 50 = .ok (.aload_n 0, 1) := by decide +kernel
theorem dX3_anyHolds_51 : decode cX3_anyHolds 51 = .ok (.getfield 14, 3) := by decide +kernel
theorem dX3_anyHolds_54 : decode cX3_anyHolds 54 = .ok (.aload_n 0, 1) := by decide +kernel
theorem dX3_anyHolds_55 : decode cX3_anyHolds 55 = .ok (.getfield 29, 3) := by decide +kernel
theorem dX3_anyHolds_58 : decode cX3_anyHolds 58 = .ok (.iload_n 3, 1) := by decide +kernel
theorem dX3_anyHolds_59 : decode cX3_anyHolds 59 = .ok (.aload_n 0, 1) := by decide +kernel
theorem dX3_anyHolds_60 : decode cX3_anyHolds 60 = .ok (.getfield 18, 3) := by decide +kernel
theorem dX3_anyHolds_63 : decode cX3_anyHolds 63 = .ok (.invokevirtual 90, 3) := by decide +kernel
theorem dX3_anyHolds_66 : decode cX3_anyHolds 66 = .ok (.iconst 1, 1) := by decide +kernel
theorem dX3_anyHolds_67 : decode cX3_anyHolds 67 = .ok (.if_icmp .ne 5, 3) := by decide +kernel
theorem dX3_anyHolds_70 : decode cX3_anyHolds 70 = .ok (.iconst 1, 1) := by decide +kernel
theorem dX3_anyHolds_71 : decode cX3_anyHolds 71 = .ok (.ireturn, 1) := by decide +kernel
theorem dX3_anyHolds_72 : decode cX3_anyHolds 72 = .ok (.iinc 2 1, 3) := by decide +kernel
theorem dX3_anyHolds_75 : decode cX3_anyHolds 75 = .ok (.goto (-64), 3) := by decide +kernel
theorem dX3_anyHolds_78 : decode cX3_anyHolds 78 = .ok (.iconst 0, 1) := by decide +kernel
theorem dX3_anyHolds_79 : decode cX3_anyHolds 79 = .ok (.ireturn, 1) := by decide +kernel
