theorem dX0_init_0 : decode cX0_init 0 = .ok (.aload_n 0, 1) := by decide +kernel
theorem dX0_init_1 : decode cX0_init 1 = .ok (.invokespecial 3, 3) := by decide +kernel
theorem dX0_init_4 : decode cX0_init 4 = .ok (.aload_n 0, 1) := by decide +kernel
theorem dX0_init_5 : decode cX0_init 5 = .ok (.aload_n 1, 1) := by decide +kernel
theorem dX0_init_6 : decode cX0_init 6 = .ok (.putfield 9, 3) := by decide +kernel
theorem dX0_init_9 : decode cX0_init 9 = .ok (.return_, 1) := by decide +kernel
theorem dX0_takeUp_0 : decode cX0_takeUp 0 = .ok (.aload_n 1, 1) := by decide +kernel
theorem dX0_takeUp_1 : decode cX0_takeUp 1 = .ok (.iload_n 2, 1) := by decide +kernel
theorem dX0_takeUp_2 : decode cX0_takeUp 2 = .ok (.invokevirtual 15, 3) := by decide +kernel
theorem dX0_takeUp_5 : decode cX0_takeUp 5 = .ok (.ifCond .eq 11, 3) := by decide +kernel
theorem dX0_takeUp_8 : decode cX0_takeUp 8 = .ok (.aload_n 1, 1) := by decide +kernel
theorem dX0_takeUp_9 : decode cX0_takeUp 9 = .ok (.iload_n 3, 1) := by decide +kernel
theorem dX0_takeUp_10 : decode cX0_takeUp 10 = .ok (.invokevirtual 21, 3) := by decide +kernel
theorem dX0_takeUp_13 : decode cX0_takeUp 13 = .ok (.ifCond .ne 6, 3) := by decide +kernel
theorem dX0_takeUp_16 : decode cX0_takeUp 16 = .ok (.bipush (-2), 2) := by decide +kernel
theorem dX0_takeUp_18 : decode cX0_takeUp 18 = .ok (.ireturn, 1) := by decide +kernel
theorem dX0_takeUp_19 : decode cX0_takeUp 19 = .ok (.aload_n 1, 1) := by decide +kernel
theorem dX0_takeUp_20 : decode cX0_takeUp 20 = .ok (.getfield 24, 3) := by decide +kernel
theorem dX0_takeUp_23 : decode cX0_takeUp 23 = .ok (.iload_n 3, 1) := by decide +kernel
theorem dX0_takeUp_24 : decode cX0_takeUp 24 = .ok (.iaload, 1) := by decide +kernel
theorem dX0_takeUp_25 : decode cX0_takeUp 25 = .ok (.iconst (-1), 1) := by decide +kernel
theorem dX0_takeUp_26 : decode cX0_takeUp 26 = .ok (.if_icmp .ne 25, 3) := by decide +kernel
theorem dX0_takeUp_29 : decode cX0_takeUp 29 = .ok (.aload_n 1, 1) := by decide +kernel
theorem dX0_takeUp_30 : decode cX0_takeUp 30 = .ok (.getfield 28, 3) := by decide +kernel
theorem dX0_takeUp_33 : decode cX0_takeUp 33 = .ok (.iload_n 2, 1) := by decide +kernel
theorem dX0_takeUp_34 : decode cX0_takeUp 34 = .ok (.iaload, 1) := by decide +kernel
theorem dX0_takeUp_35 : decode cX0_takeUp 35 = .ok (.iconst (-1), 1) := by decide +kernel
theorem dX0_takeUp_36 : decode cX0_takeUp 36 = .ok (.if_icmp .ne 15, 3) := by decide +kernel
theorem dX0_takeUp_39 : decode cX0_takeUp 39 = .ok (.aload_n 0, 1) := by decide +kernel
theorem dX0_takeUp_40 : decode cX0_takeUp 40 = .ok (.getfield 9, 3) := by decide +kernel
theorem dX0_takeUp_43 : decode cX0_takeUp 43 = .ok (.iload_n 3, 1) := by decide +kernel
theorem dX0_takeUp_44 : decode cX0_takeUp 44 = .ok (.iload_n 2, 1) := by decide +kernel
theorem dX0_takeUp_45 : decode cX0_takeUp 45 = .ok (.invokevirtual 31, 3) := by decide +kernel
theorem dX0_takeUp_48 : decode cX0_takeUp 48 = .ok (.ifCond .eq 6, 3) := by decide +kernel
theorem dX0_takeUp_51 : decode cX0_takeUp 51 = .ok (.bipush (-3), 2) := by decide +kernel
theorem dX0_takeUp_53 : decode cX0_takeUp 53 = .ok (.ireturn, 1) := by decide +kernel
theorem dX0_takeUp_54 : decode cX0_takeUp 54 = .ok (.aload_n 1, 1) := by decide +kernel
theorem dX0_takeUp_55 : decode cX0_takeUp 55 = .ok (.iload_n 2, 1) := by decide +kernel
theorem dX0_takeUp_56 : decode cX0_takeUp 56 = .ok (.iload_n 3, 1) := by decide +kernel
theorem dX0_takeUp_57 : decode cX0_takeUp 57 = .ok (.invokevirtual 37, 3) := by decide +kernel
theorem dX0_takeUp_60 : decode cX0_takeUp 60 = .ok (.aload_n 1, 1) := by decide +kernel
theorem dX0_takeUp_61 : decode cX0_takeUp 61 = .ok (.getfield 41, 3) := by decide +kernel
theorem dX0_takeUp_64 : decode cX0_takeUp 64 = .ok (.iconst 0, 1) := by decide +kernel
theorem dX0_takeUp_65 : decode cX0_takeUp 65 = .ok (.iload_n 2, 1) := by decide +kernel
theorem dX0_takeUp_66 : decode cX0_takeUp 66 = .ok (.iload_n 3, 1) := by decide +kernel
theorem dX0_takeUp_67 : decode cX0_takeUp 67 = .ok (.invokevirtual 45, 3) := by decide +kernel
theorem dX0_takeUp_70 : decode cX0_takeUp 70 = .ok (.aload_n 1, 1) := by decide +kernel
theorem dX0_takeUp_71 : decode cX0_takeUp 71 = .ok (.getfield 51, 3) := by decide +kernel
theorem dX0_takeUp_74 : decode cX0_takeUp 74 = .ok (.iload_n 2, 1) := by decide +kernel
theorem dX0_takeUp_75 : decode cX0_takeUp 75 = .ok (.iaload, 1) := by decide +kernel
theorem dX0_takeUp_76 : decode cX0_takeUp 76 = .ok (.ireturn, 1) := by decide +kernel
theorem dX0_exchange_0 : decode cX0_exchange 0 = .ok (.aload_n 1, 1) := by decide +kernel
theorem dX0_exchange_1 : decode cX0_exchange 1 = .ok (.iload_n 2, 1) := by decide +kernel
theorem dX0_exchange_2 : decode cX0_exchange 2 = .ok (.invokevirtual 21, 3) := by decide +kernel
theorem dX0_exchange_5 : decode cX0_exchange 5 = .ok (.ifCond .eq 11, 3) := by decide +kernel
theorem dX0_exchange_8 : decode cX0_exchange 8 = .ok (.aload_n 1, 1) := by decide +kernel
theorem dX0_exchange_9 : decode cX0_exchange 9 = .ok (.iload_n 3, 1) := by decide +kernel
theorem dX0_exchange_10 : decode cX0_exchange 10 = .ok (.invokevirtual 21, 3) := by decide +kernel
theorem dX0_exchange_13 : decode cX0_exchange 13 = .ok (.ifCond .ne 6, 3) := by decide +kernel
theorem dX0_exchange_16 : decode cX0_exchange 16 = .ok (.bipush (-2), 2) := by decide +kernel
theorem dX0_exchange_18 : decode cX0_exchange 18 = .ok (.ireturn, 1) := by decide +kernel
theorem dX0_exchange_19 : decode cX0_exchange 19 = .ok (.aload_n 1, 1) := by decide +kernel
theorem dX0_exchange_20 : decode cX0_exchange 20 = .ok (.getfield 24, 3) := by decide +kernel
theorem dX0_exchange_23 : decode cX0_exchange 23 = .ok (.iload_n 2, 1) := by decide +kernel
theorem dX0_exchange_24 : decode cX0_exchange 24 = .ok (.iaload, 1) := by decide +kernel
theorem dX0_exchange_25 : decode cX0_exchange 25 = .ok (.istore 4, 2) := by decide +kernel
theorem dX0_exchange_27 : decode cX0_exchange 27 = .ok (.aload_n 1, 1) := by decide +kernel
theorem dX0_exchange_28 : decode cX0_exchange 28 = .ok (.getfield 24, 3) := by decide +kernel
theorem dX0_exchange_31 : decode cX0_exchange 31 = .ok (.iload_n 3, 1) := by decide +kernel
theorem dX0_exchange_32 : decode cX0_exchange 32 = .ok (.iaload, 1) := by decide +kernel
theorem dX0_exchange_33 : decode cX0_exchange 33 = .ok (.istore 5, 2) := by decide +kernel
theorem dX0_exchange_35 : decode cX0_exchange 35 = .ok (.iload_n 2, 1) := by decide +kernel
theorem dX0_exchange_36 : decode cX0_exchange 36 = .ok (.iload_n 3, 1) := by decide +kernel
theorem dX0_exchange_37 : decode cX0_exchange 37 = .ok (.if_icmp .eq 15, 3) := by decide +kernel
theorem dX0_exchange_40 : decode cX0_exchange 40 = .ok (.iload 4, 2) := by decide +kernel
theorem dX0_exchange_42 : decode cX0_exchange 42 = .ok (.iconst (-1), 1) := by decide +kernel
theorem dX0_exchange_43 : decode cX0_exchange 43 = .ok (.if_icmp .eq 9, 3) := by decide +kernel
theorem dX0_exchange_46 : decode cX0_exchange 46 = .ok (.iload 5, 2) := by decide +kernel
theorem dX0_exchange_48 : decode cX0_exchange 48 = .ok (.iconst (-1), 1) := by decide +kernel
theorem dX0_exchange_49 : decode cX0_exchange 49 = .ok (.if_icmp .ne 6, 3) := by decide +kernel
theorem dX0_exchange_52 : decode cX0_exchange 52 = .ok (.bipush (-3), 2) := by decide +kernel
theorem dX0_exchange_54 : decode cX0_exchange 54 = .ok (.ireturn, 1) := by decide +kernel
theorem dX0_exchange_55 : decode cX0_exchange 55 = .ok (.aload_n 0, 1) := by decide +kernel
theorem dX0_exchange_56 : decode cX0_exchange 56 = .ok (.getfield 9, 3) := by decide +kernel
theorem dX0_exchange_59 : decode cX0_exchange 59 = .ok (.iload_n 2, 1) := by decide +kernel
theorem dX0_exchange_60 : decode cX0_exchange 60 = .ok (.iload 5, 2) := by decide +kernel
theorem dX0_exchange_62 : decode cX0_exchange 62 = .ok (.invokevirtual 31, 3) := by decide +kernel
theorem dX0_exchange_65 : decode cX0_exchange 65 = .ok (.ifCond .ne 16, 3) := by decide +kernel
theorem dX0_exchange_68 : decode cX0_exchange 68 = .ok (.aload_n 0, 1) := by decide +kernel
theorem dX0_exchange_69 : decode cX0_exchange 69 = .ok (.getfield 9, 3) := by decide +kernel
theorem dX0_exchange_72 : decode cX0_exchange 72 = .ok (.iload_n 3, 1) := by decide +kernel
theorem dX0_exchange_73 : decode cX0_exchange 73 = .ok (.iload 4, 2) := by decide +kernel
theorem dX0_exchange_75 : decode cX0_exchange 75 = .ok (.invokevirtual 31, 3) := by decide +kernel
theorem dX0_exchange_78 : decode cX0_exchange 78 = .ok (.ifCond .eq 6, 3) := by decide +kernel
theorem dX0_exchange_81 : decode cX0_exchange 81 = .ok (.bipush (-3), 2) := by decide +kernel
theorem dX0_exchange_83 : decode cX0_exchange 83 = .ok (.ireturn, 1) := by decide +kernel
theorem dX0_exchange_84 : decode cX0_exchange 84 = .ok (.aload_n 1, 1) := by decide +kernel
theorem dX0_exchange_85 : decode cX0_exchange 85 = .ok (.iload_n 2, 1) := by decide +kernel
theorem dX0_exchange_86 : decode cX0_exchange 86 = .ok (.iload_n 3, 1) := by decide +kernel
theorem dX0_exchange_87 : decode cX0_exchange 87 = .ok (.invokevirtual 54, 3) := by decide +kernel
theorem dX0_exchange_90 : decode cX0_exchange 90 = .ok (.aload_n 1, 1) := by decide +kernel
theorem dX0_exchange_91 : decode cX0_exchange 91 = .ok (.getfield 41, 3) := by decide +kernel
theorem dX0_exchange_94 : decode cX0_exchange 94 = .ok (.iconst 1, 1) := by decide +kernel
theorem dX0_exchange_95 : decode cX0_exchange 95 = .ok (.iload_n 2, 1) := by decide +kernel
theorem dX0_exchange_96 : decode cX0_exchange 96 = .ok (.iload_n 3, 1) := by decide +kernel
theorem dX0_exchange_97 : decode cX0_exchange 97 = .ok (.invokevirtual 45, 3) := by decide +kernel
theorem dX0_exchange_100 : decode cX0_exchange 100 = .ok (.iload 5, 2) := by decide +kernel
theorem dX0_exchange_102 : decode cX0_exchange 102 = .ok (.ireturn, 1) := by decide +kernel
theorem dX0_giveUp_0 : decode cX0_giveUp 0 = .ok (.aload_n 1, 1) := by decide +kernel
theorem dX0_giveUp_1 : decode cX0_giveUp 1 = .ok (.iload_n 2, 1) := by decide +kernel
theorem dX0_giveUp_2 : decode cX0_giveUp 2 = .ok (.invokevirtual 21, 3) := by decide +kernel
theorem dX0_giveUp_5 : decode cX0_giveUp 5 = .ok (.ifCond .ne 6, 3) := by decide +kernel
theorem dX0_giveUp_8 : decode cX0_giveUp 8 = .ok (.bipush (-2), 2) := by decide +kernel
theorem dX0_giveUp_10 : decode cX0_giveUp 10 = .ok (.ireturn, 1) := by decide +kernel
theorem dX0_giveUp_11 : decode cX0_giveUp 11 = .ok (.aload_n 1, 1) := by decide +kernel
theorem dX0_giveUp_12 : decode cX0_giveUp 12 = .ok (.getfield 24, 3) := by decide +kernel
theorem dX0_giveUp_15 : decode cX0_giveUp 15 = .ok (.iload_n 2, 1) := by decide +kernel
theorem dX0_giveUp_16 : decode cX0_giveUp 16 = .ok (.iaload, 1) := by decide +kernel
theorem dX0_giveUp_17 : decode cX0_giveUp 17 = .ok (.istore_n 3, 1) := by decide +kernel
theorem dX0_giveUp_18 : decode cX0_giveUp 18 = .ok (.iload_n 3, 1) := by decide +kernel
theorem dX0_giveUp_19 : decode cX0_giveUp 19 = .ok (.iconst (-1), 1) := by decide +kernel
theorem dX0_giveUp_20 : decode cX0_giveUp 20 = .ok (.if_icmp .ne 6, 3) := by decide +kernel
theorem dX0_giveUp_23 : decode cX0_giveUp 23 = .ok (.bipush (-3), 2) := by decide +kernel
theorem dX0_giveUp_25 : decode cX0_giveUp 25 = .ok (.ireturn, 1) := by decide +kernel
theorem dX0_giveUp_26 : decode cX0_giveUp 26 = .ok (.aload_n 1, 1) := by decide +kernel
theorem dX0_giveUp_27 : decode cX0_giveUp 27 = .ok (.iload_n 3, 1) := by decide +kernel
theorem dX0_giveUp_28 : decode cX0_giveUp 28 = .ok (.iload_n 2, 1) := by decide +kernel
theorem dX0_giveUp_29 : decode cX0_giveUp 29 = .ok (.invokevirtual 57, 3) := by decide +kernel
theorem dX0_giveUp_32 : decode cX0_giveUp 32 = .ok (.aload_n 1, 1) := by decide +kernel
theorem dX0_giveUp_33 : decode cX0_giveUp 33 = .ok (.getfield 41, 3) := by decide +kernel
theorem dX0_giveUp_36 : decode cX0_giveUp 36 = .ok (.iconst 2, 1) := by decide +kernel
theorem dX0_giveUp_37 : decode cX0_giveUp 37 = .ok (.iload_n 3, 1) := by decide +kernel
theorem dX0_giveUp_38 : decode cX0_giveUp 38 = .ok (.iload_n 2, 1) := by decide +kernel
theorem dX0_giveUp_39 : decode cX0_giveUp 39 = .ok (.invokevirtual 45, 3) := by decide +kernel
theorem dX0_giveUp_42 : decode cX0_giveUp 42 = .ok (.iload_n 3, 1) := by decide +kernel
theorem dX0_giveUp_43 : decode cX0_giveUp 43 = .ok (.ireturn, 1) := by decide +kernel
theorem dX0_tick_0 : decode cX0_tick 0 = .ok (.aload_n 1, 1) := by decide +kernel
theorem dX0_tick_1 : decode cX0_tick 1 = .ok (.getfield 60, 3) := by decide +kernel
theorem dX0_tick_4 : decode cX0_tick 4 = .ok (.iconst 0, 1) := by decide +kernel
theorem dX0_tick_5 : decode cX0_tick 5 = .ok (.iaload, 1) := by decide +kernel
theorem dX0_tick_6 : decode cX0_tick 6 = .ok (.sipush 999, 3) := by decide +kernel
theorem dX0_tick_9 : decode cX0_tick 9 = .ok (.if_icmp .lt 6, 3) := by decide +kernel
theorem dX0_tick_12 : decode cX0_tick 12 = .ok (.bipush (-3), 2) := by decide +kernel
theorem dX0_tick_14 : decode cX0_tick 14 = .ok (.ireturn, 1) := by decide +kernel
theorem dX0_tick_15 : decode cX0_tick 15 = .ok (.aload_n 1, 1) := by decide +kernel
theorem dX0_tick_16 : decode cX0_tick 16 = .ok (.getfield 60, 3) := by decide +kernel
theorem dX0_tick_19 : decode cX0_tick 19 = .ok (.iconst 0, 1) := by decide +kernel
theorem dX0_tick_20 : decode cX0_tick 20 = .ok (.dup2, 1) := by decide +kernel
theorem dX0_tick_21 : decode cX0_tick 21 = .ok (.iaload, 1) := by decide +kernel
theorem dX0_tick_22 : decode cX0_tick 22 = .ok (.iconst 1, 1) := by decide +kernel
theorem dX0_tick_23 : decode cX0_tick 23 = .ok (.iadd, 1) := by decide +kernel
theorem dX0_tick_24 : decode cX0_tick 24 = .ok (.iastore, 1) := by decide +kernel
theorem dX0_tick_25 : decode cX0_tick 25 = .ok (.aload_n 1, 1) := by decide +kernel
theorem dX0_tick_26 : decode cX0_tick 26 = .ok (.getfield 41, 3) := by decide +kernel
theorem dX0_tick_29 : decode cX0_tick 29 = .ok (.iconst 3, 1) := by decide +kernel
theorem dX0_tick_30 : decode cX0_tick 30 = .ok (.iconst 0, 1) := by decide +kernel
theorem dX0_tick_31 : decode cX0_tick 31 = .ok (.iconst 0, 1) := by decide +kernel
theorem dX0_tick_32 : decode cX0_tick 32 = .ok (.invokevirtual 45, 3) := by decide +kernel
theorem dX0_tick_35 : decode cX0_tick 35 = .ok (.aload_n 0, 1) := by decide +kernel
theorem dX0_tick_36 : decode cX0_tick 36 = .ok (.getfield 9, 3) := by decide +kernel
theorem dX0_tick_39 : decode cX0_tick 39 = .ok (.aload_n 1, 1) := by decide +kernel
theorem dX0_tick_40 : decode cX0_tick 40 = .ok (.aload_n 1, 1) := by decide +kernel
theorem dX0_tick_41 : decode cX0_tick 41 = .ok (.invokevirtual 63, 3) := by decide +kernel
theorem dX0_tick_44 : decode cX0_tick 44 = .ok (.invokevirtual 67, 3) := by decide +kernel
theorem dX0_tick_47 : decode cX0_tick 47 = .ok (.aload_n 1, 1) := by decide +kernel
theorem dX0_tick_48 : decode cX0_tick 48 = .ok (.getfield 60, 3) := by decide +kernel
theorem dX0_tick_51 : decode cX0_tick 51 = .ok (.iconst 0, 1) := by decide +kernel
theorem dX0_tick_52 : decode cX0_tick 52 = .ok (.iaload, 1) := by decide +kernel
theorem dX0_tick_53 : decode cX0_tick 53 = .ok (.ireturn, 1) := by decide +kernel
theorem dX0_byLot_0 : decode cX0_byLot 0 = .ok (.aload_n 0, 1) := by decide +kernel
theorem dX0_byLot_1 : decode cX0_byLot 1 = .ok (.aload_n 1, 1) := by decide +kernel
theorem dX0_byLot_2 : decode cX0_byLot 2 = .ok (.getfield 71, 3) := by decide +kernel
theorem dX0_byLot_5 : decode cX0_byLot 5 = .ok (.invokevirtual 75, 3) := by decide +kernel
theorem dX0_byLot_8 : decode cX0_byLot 8 = .ok (.istore_n 2, 1) := by decide +kernel
theorem dX0_byLot_9 : decode cX0_byLot 9 = .ok (.aload_n 0, 1) := by decide +kernel
theorem dX0_byLot_10 : decode cX0_byLot 10 = .ok (.aload_n 1, 1) := by decide +kernel
theorem dX0_byLot_11 : decode cX0_byLot 11 = .ok (.getfield 79, 3) := by decide +kernel
theorem dX0_byLot_14 : decode cX0_byLot 14 = .ok (.invokevirtual 75, 3) := by decide +kernel
theorem dX0_byLot_17 : decode cX0_byLot 17 = .ok (.istore_n 3, 1) := by decide +kernel
theorem dX0_byLot_18 : decode cX0_byLot 18 = .ok (.aload_n 0, 1) := by decide +kernel
theorem dX0_byLot_19 : decode cX0_byLot 19 = .ok (.iconst 3, 1) := by decide +kernel
theorem dX0_byLot_20 : decode cX0_byLot 20 = .ok (.invokevirtual 75, 3) := by decide +kernel
theorem dX0_byLot_23 : decode cX0_byLot 23 = .ok (.istore 4, 2) := by decide +kernel
theorem dX0_byLot_25 : decode cX0_byLot 25 = .ok (.iload 4, 2) := by decide +kernel
theorem dX0_byLot_27 : decode cX0_byLot 27 = .ok (.ifCond .ne 11, 3) := by decide +kernel
theorem dX0_byLot_30 : decode cX0_byLot 30 = .ok (.aload_n 0, 1) := by decide +kernel
theorem dX0_byLot_31 : decode cX0_byLot 31 = .ok (.aload_n 1, 1) := by decide +kernel
theorem dX0_byLot_32 : decode cX0_byLot 32 = .ok (.iload_n 3, 1) := by decide +kernel
theorem dX0_byLot_33 : decode cX0_byLot 33 = .ok (.iload_n 2, 1) := by decide +kernel
theorem dX0_byLot_34 : decode cX0_byLot 34 = .ok (.invokevirtual 82, 3) := by decide +kernel
theorem dX0_byLot_37 : decode cX0_byLot 37 = .ok (.ireturn, 1) := by decide +kernel
theorem dX0_byLot_38 : decode cX0_byLot 38 = .ok (.iload 4, 2) := by decide +kernel
theorem dX0_byLot_40 : decode cX0_byLot 40 = .ok (.iconst 1, 1) := by decide +kernel
theorem dX0_byLot_41 : decode cX0_byLot 41 = .ok (.if_icmp .ne 29, 3) := by decide +kernel
theorem dX0_byLot_44 : decode cX0_byLot 44 = .ok (.aload_n 1, 1) := by decide +kernel
theorem dX0_byLot_45 : decode cX0_byLot 45 = .ok (.iload_n 3, 1) := by decide +kernel
theorem dX0_byLot_46 : decode cX0_byLot 46 = .ok (.invokevirtual 15, 3) := by decide +kernel
theorem dX0_byLot_49 : decode cX0_byLot 49 = .ok (.ifCond .eq 18, 3) := by decide +kernel
theorem dX0_byLot_52 : decode cX0_byLot 52 = .ok (.aload_n 0, 1) := by decide +kernel
theorem dX0_byLot_53 : decode cX0_byLot 53 = .ok (.aload_n 1, 1) := by decide +kernel
theorem dX0_byLot_54 : decode cX0_byLot 54 = .ok (.iload_n 2, 1) := by decide +kernel
theorem dX0_byLot_55 : decode cX0_byLot 55 = .ok (.aload_n 1, 1) := by decide +kernel
theorem dX0_byLot_56 : decode cX0_byLot 56 = .ok (.getfield 28, 3) := by decide +kernel
theorem dX0_byLot_59 : decode cX0_byLot 59 = .ok (.iload_n 3, 1) := by decide +kernel
theorem dX0_byLot_60 : decode cX0_byLot 60 = .ok (.iaload, 1) := by decide +kernel
theorem dX0_byLot_61 : decode cX0_byLot 61 = .ok (.invokevirtual 86, 3) := by decide +kernel
theorem dX0_byLot_64 : decode cX0_byLot 64 = .ok (.goto 5, 3) := by decide +kernel
theorem dX0_byLot_67 : decode cX0_byLot 67 = .ok (.bipush (-2), 2) := by decide +kernel
theorem dX0_byLot_69 : decode cX0_byLot 69 = .ok (.ireturn, 1) := by decide +kernel
theorem dX0_byLot_70 : decode cX0_byLot 70 = .ok (.aload_n 0, 1) := by decide +kernel
theorem dX0_byLot_71 : decode cX0_byLot 71 = .ok (.aload_n 1, 1) := by decide +kernel
theorem dX0_byLot_72 : decode cX0_byLot 72 = .ok (.iload_n 2, 1) := by decide +kernel
theorem dX0_byLot_73 : decode cX0_byLot 73 = .ok (.invokevirtual 89, 3) := by decide +kernel
theorem dX0_byLot_76 : decode cX0_byLot 76 = .ok (.ireturn, 1) := by decide +kernel
theorem dX0_lot_0 : decode cX0_lot 0 = .ok (.aload_n 0, 1) := by decide +kernel
theorem dX0_lot_1 : decode cX0_lot 1 = .ok (.aload_n 0, 1) := by decide +kernel
theorem dX0_lot_2 : decode cX0_lot 2 = .ok (.getfield 93, 3) := by decide +kernel
theorem dX0_lot_5 : decode cX0_lot 5 = .ok (.ldc2_w 97, 3) := by decide +kernel
theorem dX0_lot_8 : decode cX0_lot 8 = .ok (.lmul, 1) := by decide +kernel
theorem dX0_lot_9 : decode cX0_lot 9 = .ok (.ldc2_w 99, 3) := by decide +kernel
theorem dX0_lot_12 : decode cX0_lot 12 = .ok (.ladd, 1) := by decide +kernel
theorem dX0_lot_13 : decode cX0_lot 13 = .ok (.ldc2_w 101, 3) := by decide +kernel
theorem dX0_lot_16 : decode cX0_lot 16 = .ok (.lrem, 1) := by decide +kernel
theorem dX0_lot_17 : decode cX0_lot 17 = .ok (.putfield 93, 3) := by decide +kernel
theorem dX0_lot_20 : decode cX0_lot 20 = .ok (.iload_n 1, 1) := by decide +kernel
theorem dX0_lot_21 : decode cX0_lot 21 = .ok (.ifCond .le 14, 3) := by decide +kernel
theorem dX0_lot_24 : decode cX0_lot 24 = .ok (.aload_n 0, 1) := by decide +kernel
theorem dX0_lot_25 : decode cX0_lot 25 = .ok (.getfield 93, 3) := by decide +kernel
theorem dX0_lot_28 : decode cX0_lot 28 = .ok (.iload_n 1, 1) := by decide +kernel
theorem dX0_lot_29 : decode cX0_lot 29 = .ok (.i2l, 1) := by decide +kernel
theorem dX0_lot_30 : decode cX0_lot 30 = .ok (.lrem, 1) := by decide +kernel
theorem dX0_lot_31 : decode cX0_lot 31 = .ok (.l2i, 1) := by decide +kernel
theorem dX0_lot_32 : decode cX0_lot 32 = .ok (.goto 4, 3) := by decide +kernel
theorem dX0_lot_35 : decode cX0_lot 35 = .ok (.iconst 0, 1) := by decide +kernel
theorem dX0_lot_36 : decode cX0_lot 36 = .ok (.ireturn, 1) := by decide +kernel
