theorem dX12_trade_6 : decode cX12_trade 6 = .ok (.iload_n 1, 1) := by decide +kernel
theorem dX12_trade_7 : decode cX12_trade 7 = .ok (.invokevirtual 131, 3) := by decide +kernel
theorem dX12_trade_10 : decode cX12_trade 10 = .ok (.ifCond .ne 5, 3) := by decide +kernel
theorem dX12_trade_13 : decode cX12_trade 13 = .ok (.iconst (-1), 1) := by decide +kernel
theorem dX12_trade_14 : decode cX12_trade 14 = .ok (.ireturn, 1) := by decide +kernel
theorem dX12_trade_15 : decode cX12_trade 15 = .ok (.aload_n 0, 1) := by decide +kernel
theorem dX12_trade_16 : decode cX12_trade 16 = .ok (.invokevirtual 440, 3) := by decide +kernel
theorem dX12_trade_19 : decode cX12_trade 19 = .ok (.istore_n 2, 1) := by decide +kernel
theorem dX12_trade_20 : decode cX12_trade 20 = .ok (.iload_n 1, 1) := by decide +kernel
theorem dX12_trade_21 : decode cX12_trade 21 = .ok (.iconst (-1), 1) := by decide +kernel
theorem dX12_trade_22 : decode cX12_trade 22 = .ok (.if_icmp .ne 7, 3) := by decide +kernel
theorem dX12_trade_25 : decode cX12_trade 25 = .ok (.iload_n 2, 1) := by decide +kernel
theorem dX12_trade_26 : decode cX12_trade 26 = .ok (.goto 9, 3) := by decide +kernel
theorem dX12_trade_29 : decode cX12_trade 29 = .ok (.aload_n 0, 1) := by decide +kernel
theorem dX12_trade_30 : decode cX12_trade 30 = .ok (.getfield 89, 3) := by decide +kernel
theorem dX12_trade_33 : decode cX12_trade 33 = .ok (.iload_n 1, 1) := by decide +kernel
theorem dX12_trade_34 : decode cX12_trade 34 = .ok (.iaload, 1) := by decide +kernel
theorem dX12_trade_35 : decode cX12_trade 35 = .ok (.ireturn, 1) := by decide +kernel
theorem dX12_wishBoth_0 : decode cX12_wishBoth 0 = .ok (.aload_n 0, 1) := by decide +kernel
theorem dX12_wishBoth_1 : decode cX12_wishBoth 1 = .ok (.iload_n 1, 1) := by decide +kernel
theorem dX12_wishBoth_2 : decode cX12_wishBoth 2 = .ok (.iload_n 2, 1) := by decide +kernel
theorem dX12_wishBoth_3 : decode cX12_wishBoth 3 = .ok (.invokevirtual 360, 3) := by decide +kernel
theorem dX12_wishBoth_6 : decode cX12_wishBoth 6 = .ok (.ifCond .ne 5, 3) := by decide +kernel
theorem dX12_wishBoth_9 : decode cX12_wishBoth 9 = .ok (.iconst 0, 1) := by decide +kernel
theorem dX12_wishBoth_10 : decode cX12_wishBoth 10 = .ok (.ireturn, 1) := by decide +kernel
theorem dX12_wishBoth_11 : decode cX12_wishBoth 11 = .ok (.aload_n 0, 1) := by decide +kernel
theorem dX12_wishBoth_12 : decode cX12_wishBoth 12 = .ok (.getfield 24, 3) := by decide +kernel
theorem dX12_wishBoth_15 : decode cX12_wishBoth 15 = .ok (.iconst 0, 1) := by decide +kernel
theorem dX12_wishBoth_16 : decode cX12_wishBoth 16 = .ok (.iload_n 1, 1) := by decide +kernel
theorem dX12_wishBoth_17 : decode cX12_wishBoth 17 = .ok (.iadd, 1) := by decide +kernel
theorem dX12_wishBoth_18 : decode cX12_wishBoth 18 = .ok (.iaload, 1) := by decide +kernel
theorem dX12_wishBoth_19 : decode cX12_wishBoth 19 = .ok (.istore_n 3, 1) := by decide +kernel
theorem dX12_wishBoth_20 : decode cX12_wishBoth 20 = .ok (.aload_n 0, 1) := by decide +kernel
theorem dX12_wishBoth_21 : decode cX12_wishBoth 21 = .ok (.getfield 24, 3) := by decide +kernel
theorem dX12_wishBoth_24 : decode cX12_wishBoth 24 = .ok (.iconst 0, 1) := by decide +kernel
theorem dX12_wishBoth_25 : decode cX12_wishBoth 25 = .ok (.iload_n 2, 1) := by decide +kernel
theorem dX12_wishBoth_26 : decode cX12_wishBoth 26 = .ok (.iadd, 1) := by decide +kernel
theorem dX12_wishBoth_27 : decode cX12_wishBoth 27 = .ok (.iaload, 1) := by decide +kernel
theorem dX12_wishBoth_28 : decode cX12_wishBoth 28 = .ok (.istore 4, 2) := by decide +kernel
theorem dX12_wishBoth_30 : decode cX12_wishBoth 30 = .ok (.aload_n 0, 1) := by decide +kernel
theorem dX12_wishBoth_31 : decode cX12_wishBoth 31 = .ok (.iload_n 1, 1) := by decide +kernel
theorem dX12_wishBoth_32 : decode cX12_wishBoth 32 = .ok (.iload 4, 2) := by decide +kernel
theorem dX12_wishBoth_34 : decode cX12_wishBoth 34 = .ok (.invokevirtual 154, 3) := by decide +kernel
theorem dX12_wishBoth_37 : decode cX12_wishBoth 37 = .ok (.aload_n 0, 1) := by decide +kernel
theorem dX12_wishBoth_38 : decode cX12_wishBoth 38 = .ok (.iload_n 1, 1) := by decide +kernel
theorem dX12_wishBoth_39 : decode cX12_wishBoth 39 = .ok (.iload_n 3, 1) := by decide +kernel
theorem dX12_wishBoth_40 : decode cX12_wishBoth 40 = .ok (.invokevirtual 154, 3) := by decide +kernel
theorem dX12_wishBoth_43 : decode cX12_wishBoth 43 = .ok (.if_icmp .le 23, 3) := by decide +kernel
theorem dX12_wishBoth_46 : decode cX12_wishBoth 46 = .ok (.aload_n 0, 1) := by decide +kernel
theorem dX12_wishBoth_47 : decode cX12_wishBoth 47 = .ok (.iload_n 2, 1) := by decide +kernel
theorem dX12_wishBoth_48 : decode cX12_wishBoth 48 = .ok (.iload_n 3, 1) := by decide +kernel
theorem dX12_wishBoth_49 : decode cX12_wishBoth 49 = .ok (.invokevirtual 154, 3) := by decide +kernel
theorem dX12_wishBoth_52 : decode cX12_wishBoth 52 = .ok (.aload_n 0, 1) := by decide +kernel
theorem dX12_wishBoth_53 : decode cX12_wishBoth 53 = .ok (.iload_n 2, 1) := by decide +kernel
theorem dX12_wishBoth_54 : decode cX12_wishBoth 54 = .ok (.iload 4, 2) := by decide +kernel
theorem dX12_wishBoth_56 : decode cX12_wishBoth 56 = .ok (.invokevirtual 154, 3) := by decide +kernel
theorem dX12_wishBoth_59 : decode cX12_wishBoth 59 = .ok (.if_icmp .le 7, 3) := by decide +kernel
theorem dX12_wishBoth_62 : decode cX12_wishBoth 62 = .ok (.iconst 1, 1) := by decide +kernel
theorem dX12_wishBoth_63 : decode cX12_wishBoth 63 = .ok (.goto 4, 3) := by decide +kernel
theorem dX12_wishBoth_66 : decode cX12_wishBoth 66 = .ok (.iconst 0, 1) := by decide +kernel
theorem dX12_wishBoth_67 : decode cX12_wishBoth 67 = .ok (.ireturn, 1) := by decide +kernel
theorem dX12_both_0 : decode cX12_both 0 = .ok (.iload_n 1, 1) := by decide +kernel
theorem dX12_both_1 : decode cX12_both 1 = .ok (.iconst (-1), 1) := by decide +kernel
theorem dX12_both_2 : decode cX12_both 2 = .ok (.if_icmp .ge 5, 3) := by decide +kernel
theorem dX12_both_5 : decode cX12_both 5 = .ok (.iconst (-1), 1) := by decide +kernel
theorem dX12_both_6 : decode cX12_both 6 = .ok (.ireturn, 1) := by decide +kernel
theorem dX12_both_7 : decode cX12_both 7 = .ok (.iconst 0, 1) := by decide +kernel
theorem dX12_both_8 : decode cX12_both 8 = .ok (.istore_n 2, 1) := by decide +kernel
theorem dX12_both_9 : decode cX12_both 9 = .ok (.iconst 0, 1) := by decide +kernel
theorem dX12_both_10 : decode cX12_both 10 = .ok (.istore_n 3, 1) := by decide +kernel
theorem dX12_both_11 : decode cX12_both 11 = .ok (.iload_n 3, 1) := by decide +kernel
theorem dX12_both_12 : decode cX12_both 12 = .ok (.aload_n 0, 1) := by decide +kernel
theorem dX12_both_13 : decode cX12_both 13 = .ok (.getfield 24, 3) := by decide +kernel
theorem dX12_both_16 : decode cX12_both 16 = .ok (.bipush 103, 2) := by decide +kernel
theorem dX12_both_18 : decode cX12_both 18 = .ok (.iaload, 1) := by decide +kernel
theorem dX12_both_19 : decode cX12_both 19 = .ok (.if_icmp .ge 61, 3) := by decide +kernel
theorem dX12_both_22 : decode cX12_both 22 = .ok (.iload_n 3, 1) := by decide +kernel
theorem dX12_both_23 : decode cX12_both 23 = .ok (.iconst 1, 1) := by decide +kernel
theorem dX12_both_24 : decode cX12_both 24 = .ok (.iadd, 1) := by decide +kernel
theorem dX12_both_25 : decode cX12_both 25 = .ok (.istore 4, 2) := by decide +kernel
theorem dX12_both_27 : decode cX12_both 27 = .ok (.iload 4, 2) := by decide +kernel
theorem dX12_both_29 : decode cX12_both 29 = .ok (.aload_n 0, 1) := by decide +kernel
theorem dX12_both_30 : decode cX12_both 30 = .ok (.getfield 24, 3) := by decide +kernel
theorem dX12_both_33 : decode cX12_both 33 = .ok (.bipush 103, 2) := by decide +kernel
theorem dX12_both_35 : decode cX12_both 35 = .ok (.iaload, 1) := by decide +kernel
theorem dX12_both_36 : decode cX12_both 36 = .ok (.if_icmp .ge 38, 3) := by decide +kernel
theorem dX12_both_39 : decode cX12_both 39 = .ok (.aload_n 0, 1) := by decide +kernel
theorem dX12_both_40 : decode cX12_both 40 = .ok (.iload_n 3, 1) := by decide +kernel
theorem dX12_both_41 : decode cX12_both 41 = .ok (.iload 4, 2) := by decide +kernel
theorem dX12_both_43 : decode cX12_both 43 = .ok (.invokevirtual 443, 3) := by decide +kernel
theorem dX12_both_46 : decode cX12_both 46 = .ok (.ifCond .ne 6, 3) := by decide +kernel
theorem dX12_both_49 : decode cX12_both 49 = .ok (.goto 19, 3) := by decide +kernel
theorem dX12_both_52 : decode cX12_both 52 = .ok (.iload_n 2, 1) := by decide +kernel
theorem dX12_both_53 : decode cX12_both 53 = .ok (.iload_n 1, 1) := by decide +kernel
theorem dX12_both_54 : decode cX12_both 54 = .ok (.if_icmp .ne 11, 3) := by decide +kernel
theorem dX12_both_57 : decode cX12_both 57 = .ok (.bipush 10, 2) := by decide +kernel
theorem dX12_both_59 : decode cX12_both 59 = .ok (.iload_n 3, 1) := by decide +kernel
theorem dX12_both_60 : decode cX12_both 60 = .ok (.imul, 1) := by decide +kernel
theorem dX12_both_61 : decode cX12_both 61 = .ok (.iload 4, 2) := by decide +kernel
theorem dX12_both_63 : decode cX12_both 63 = .ok (.iadd, 1) := by decide +kernel
theorem dX12_both_64 : decode cX12_both 64 = .ok (.ireturn, 1) := by decide +kernel
theorem dX12_both_65 : decode cX12_both 65 = .ok (.iinc 2 1, 3) := by decide +kernel
theorem dX12_both_68 : decode cX12_both 68 = .ok (.iinc 4 1, 3) := by decide +kernel
theorem dX12_both_71 : decode cX12_both 71 = .ok (.goto (-44), 3) := by decide +kernel
theorem dX12_both_74 : decode cX12_both 74 = .ok (.iinc 3 1, 3) := by decide +kernel
theorem dX12_both_77 : decode cX12_both 77 = .ok (.goto (-66), 3) := by decide +kernel
theorem dX12_both_80 : decode cX12_both 80 = .ok (.iload_n 1, 1) := by decide +kernel
theorem dX12_both_81 : decode cX12_both 81 = .ok (.iconst (-1), 1) := by decide +kernel
theorem dX12_both_82 : decode cX12_both 82 = .ok (.if_icmp .ne 7, 3) := by decide +kernel
theorem dX12_both_85 : decode cX12_both 85 = .ok (.iload_n 2, 1) := by decide +kernel
theorem dX12_both_86 : decode cX12_both 86 = .ok (.goto 4, 3) := by decide +kernel
theorem dX12_both_89 : decode cX12_both 89 = .ok (.iconst (-1), 1) := by decide +kernel
theorem dX12_both_90 : decode cX12_both 90 = .ok (.ireturn, 1) := by decide +kernel
theorem dX12_take_0 : decode cX12_take 0 = .ok (.aload_n 0, 1) := by decide +kernel
theorem dX12_take_1 : decode cX12_take 1 = .ok (.iload_n 1, 1) := by decide +kernel
theorem dX12_take_2 : decode cX12_take 2 = .ok (.invokevirtual 131, 3) := by decide +kernel
theorem dX12_take_5 : decode cX12_take 5 = .ok (.ifCond .eq 11, 3) := by decide +kernel
theorem dX12_take_8 : decode cX12_take 8 = .ok (.aload_n 0, 1) := by decide +kernel
theorem dX12_take_9 : decode cX12_take 9 = .ok (.iload_n 1, 1) := by decide +kernel
theorem dX12_take_10 : decode cX12_take 10 = .ok (.invokevirtual 351, 3) := by decide +kernel
theorem dX12_take_13 : decode cX12_take 13 = .ok (.ifCond .eq 5, 3) := by decide +kernel
theorem dX12_take_16 : decode cX12_take 16 = .ok (.iconst (-1), 1) := by decide +kernel
theorem dX12_take_17 : decode cX12_take 17 = .ok (.ireturn, 1) := by decide +kernel
theorem dX12_take_18 : decode cX12_take 18 = .ok (.iconst (-1), 1) := by decide +kernel
theorem dX12_take_19 : decode cX12_take 19 = .ok (.istore_n 2, 1) := by decide +kernel
theorem dX12_take_20 : decode cX12_take 20 = .ok (.ldc 192, 2) := by decide +kernel
theorem dX12_take_22 : decode cX12_take 22 = .ok (.istore_n 3, 1) := by decide +kernel
theorem dX12_take_23 : decode cX12_take 23 = .ok (.iconst 0, 1) := by decide +kernel
theorem dX12_take_24 : decode cX12_take 24 = .ok (.istore 4, 2) := by decide +kernel
theorem dX12_take_26 : decode cX12_take 26 = .ok (.iload 4, 2) := by decide +kernel
theorem dX12_take_28 : decode cX12_take 28 = .ok (.aload_n 0, 1) := by decide +kernel
theorem dX12_take_29 : decode cX12_take 29 = .ok (.getfield 24, 3) := by decide +kernel
theorem dX12_take_32 : decode cX12_take 32 = .ok (.bipush 104, 2) := by decide +kernel
theorem dX12_take_34 : decode cX12_take 34 = .ok (.iaload, 1) := by decide +kernel
theorem dX12_take_35 : decode cX12_take 35 = .ok (.if_icmp .ge 82, 3) := by decide +kernel
theorem dX12_take_38 : decode cX12_take 38 = .ok (.aload_n 0, 1) := by decide +kernel
theorem dX12_take_39 : decode cX12_take 39 = .ok (.iload 4, 2) := by decide +kernel
theorem dX12_take_41 : decode cX12_take 41 = .ok (.iload_n 1, 1) := by decide +kernel
theorem dX12_take_42 : decode cX12_take 42 = .ok (.invokevirtual 354, 3) := by decide +kernel
theorem dX12_take_45 : decode cX12_take 45 = .ok (.ifCond .ne 6, 3) := by decide +kernel
theorem dX12_take_48 : decode cX12_take 48 = .ok (.goto 63, 3) := by decide +kernel
theorem dX12_take_51 : decode cX12_take 51 = .ok (.aload_n 0, 1) := by decide +kernel
theorem dX12_take_52 : decode cX12_take 52 = .ok (.getfield 24, 3) := by decide +kernel
theorem dX12_take_55 : decode cX12_take 55 = .ok (.iconst 0, 1) := by decide +kernel
theorem dX12_take_56 : decode cX12_take 56 = .ok (.iload_n 1, 1) := by decide +kernel
theorem dX12_take_57 : decode cX12_take 57 = .ok (.iadd, 1) := by decide +kernel
theorem dX12_take_58 : decode cX12_take 58 = .ok (.iload 4, 2) := by decide +kernel
theorem dX12_take_60 : decode cX12_take 60 = .ok (.iastore, 1) := by decide +kernel
theorem dX12_take_61 : decode cX12_take 61 = .ok (.aload_n 0, 1) := by decide +kernel
theorem dX12_take_62 : decode cX12_take 62 = .ok (.aload_n 0, 1) := by decide +kernel
theorem dX12_take_63 : decode cX12_take 63 = .ok (.invokevirtual 393, 3) := by decide +kernel
theorem dX12_take_66 : decode cX12_take 66 = .ok (.invokevirtual 396, 3) := by decide +kernel
theorem dX12_take_69 : decode cX12_take 69 = .ok (.aload_n 0, 1) := by decide +kernel
theorem dX12_take_70 : decode cX12_take 70 = .ok (.getfield 24, 3) := by decide +kernel
theorem dX12_take_73 : decode cX12_take 73 = .ok (.iconst 0, 1) := by decide +kernel
theorem dX12_take_74 : decode cX12_take 74 = .ok (.iload_n 1, 1) := by decide +kernel
theorem dX12_take_75 : decode cX12_take 75 = .ok (.iadd, 1) := by decide +kernel
theorem dX12_take_76 : decode cX12_take 76 = .ok (.iconst (-1), 1) := by decide +kernel
theorem dX12_take_77 : decode cX12_take 77 = .ok (.iastore, 1) := by decide +kernel
theorem dX12_take_78 : decode cX12_take 78 = .ok (.aload_n 0, 1) := by decide +kernel
theorem dX12_take_79 : decode cX12_take 79 = .ok (.getfield 74, 3) := by decide +kernel
theorem dX12_take_82 : decode cX12_take 82 = .ok (.iload_n 1, 1) := by decide +kernel
theorem dX12_take_83 : decode cX12_take 83 = .ok (.iaload, 1) := by decide +kernel
theorem dX12_take_84 : decode cX12_take 84 = .ok (.iconst (-1), 1) := by decide +kernel
theorem dX12_take_85 : decode cX12_take 85 = .ok (.if_icmp .eq 26, 3) := by decide +kernel
theorem dX12_take_88 : decode cX12_take 88 = .ok (.aload_n 0, 1) := by decide +kernel
theorem dX12_take_89 : decode cX12_take 89 = .ok (.getfield 71, 3) := by decide +kernel
theorem dX12_take_92 : decode cX12_take 92 = .ok (.iload_n 1, 1) := by decide +kernel
theorem dX12_take_93 : decode cX12_take 93 = .ok (.iaload, 1) := by decide +kernel
theorem dX12_take_94 : decode cX12_take 94 = .ok (.iload_n 3, 1) := by decide +kernel
theorem dX12_take_95 : decode cX12_take 95 = .ok (.if_icmp .lt 6, 3) := by decide +kernel
theorem dX12_take_98 : decode cX12_take 98 = .ok (.goto 13, 3) := by decide +kernel
theorem dX12_take_101 : decode cX12_take 101 = .ok (.aload_n 0, 1) := by decide +kernel
theorem dX12_take_102 : decode cX12_take 102 = .ok (.getfield 71, 3) := by decide +kernel
theorem dX12_take_105 : decode cX12_take 105 = .ok (.iload_n 1, 1) := by decide +kernel
theorem dX12_take_106 : decode cX12_take 106 = .ok (.iaload, 1) := by decide +kernel
theorem dX12_take_107 : decode cX12_take 107 = .ok (.istore_n 3, 1) := by decide +kernel
theorem dX12_take_108 : decode cX12_take 108 = .ok (.iload 4, 2) := by decide +kernel
theorem dX12_take_110 : decode cX12_take 110 = .ok (.istore_n 2, 1) := by decide +kernel
theorem dX12_take_111 : decode cX12_take 111 = .ok (.iinc 4 1, 3) := by decide +kernel
theorem dX12_take_114 : decode cX12_take 114 = .ok (.goto (-88), 3) := by decide +kernel
theorem dX12_take_117 : decode cX12_take 117 = .ok (.iload_n 2, 1) := by decide +kernel
theorem dX12_take_118 : decode cX12_take 118 = .ok (.ireturn, 1) := by decide +kernel
theorem dX12_areDone_0 : decode cX12_areDone 0 = .ok (.aload_n 0, 1) := by decide +kernel
theorem dX12_areDone_1 : decode cX12_areDone 1 = .ok (.iload_n 1, 1) := by decide +kernel
theorem dX12_areDone_2 : decode cX12_areDone 2 = .ok (.invokevirtual 396, 3) := by decide +kernel
theorem dX12_areDone_5 : decode cX12_areDone 5 = .ok (.iconst 1, 1) := by decide +kernel
theorem dX12_areDone_6 : decode cX12_areDone 6 = .ok (.istore_n 3, 1) := by decide +kernel
theorem dX12_areDone_7 : decode cX12_areDone 7 = .ok (.iconst 0, 1) := by decide +kernel
theorem dX12_areDone_8 : decode cX12_areDone 8 = .ok (.istore 4, 2) := by decide +kernel
theorem dX12_areDone_10 : decode cX12_areDone 10 = .ok (.iload 4, 2) := by decide +kernel
theorem dX12_areDone_12 : decode cX12_areDone 12 = .ok (.aload_n 0, 1) := by decide +kernel
theorem dX12_areDone_13 : decode cX12_areDone 13 = .ok (.getfield 24, 3) := by decide +kernel
theorem dX12_areDone_16 : decode cX12_areDone 16 = .ok (.bipush 103, 2) := by decide +kernel
theorem dX12_areDone_18 : decode cX12_areDone 18 = .ok (.iaload, 1) := by decide +kernel
theorem dX12_areDone_19 : decode cX12_areDone 19 = .ok (.if_icmp .ge 50, 3) := by decide +kernel
theorem dX12_areDone_22 : decode cX12_areDone 22 = .ok (.iload_n 3, 1) := by decide +kernel
theorem dX12_areDone_23 : decode cX12_areDone 23 = .ok (.ifCond .eq 38, 3) := by decide +kernel
theorem dX12_areDone_26 : decode cX12_areDone 26 = .ok (.aload_n 0, 1) := by decide +kernel
theorem dX12_areDone_27 : decode cX12_areDone 27 = .ok (.iload 4, 2) := by decide +kernel
theorem dX12_areDone_29 : decode cX12_areDone 29 = .ok (.invokevirtual 351, 3) := by decide +kernel
theorem dX12_areDone_32 : decode cX12_areDone 32 = .ok (.ifCond .eq 25, 3) := by decide +kernel
theorem dX12_areDone_35 : decode cX12_areDone 35 = .ok (.aload_n 0, 1) := by decide +kernel
theorem dX12_areDone_36 : decode cX12_areDone 36 = .ok (.getfield 74, 3) := by decide +kernel
theorem dX12_areDone_39 : decode cX12_areDone 39 = .ok (.iload 4, 2) := by decide +kernel
theorem dX12_areDone_41 : decode cX12_areDone 41 = .ok (.iaload, 1) := by decide +kernel
theorem dX12_areDone_42 : decode cX12_areDone 42 = .ok (.iconst (-1), 1) := by decide +kernel
theorem dX12_areDone_43 : decode cX12_areDone 43 = .ok (.if_icmp .eq 18, 3) := by decide +kernel
theorem dX12_areDone_46 : decode cX12_areDone 46 = .ok (.aload_n 0, 1) := by decide +kernel
theorem dX12_areDone_47 : decode cX12_areDone 47 = .ok (.getfield 71, 3) := by decide +kernel
theorem dX12_areDone_50 : decode cX12_areDone 50 = .ok (.iload 4, 2) := by decide +kernel
theorem dX12_areDone_52 : decode cX12_areDone 52 = .ok (.iaload, 1) := by decide +kernel
theorem dX12_areDone_53 : decode cX12_areDone 53 = .ok (.iload_n 2, 1) := by decide +kernel
theorem dX12_areDone_54 : decode cX12_areDone 54 = .ok (.if_icmp .gt 7, 3) := by decide +kernel
theorem dX12_areDone_57 : decode cX12_areDone 57 = .ok (.iconst 1, 1) := by decide +kernel
theorem dX12_areDone_58 : decode cX12_areDone 58 = .ok (.goto 4, 3) := by decide +kernel
theorem dX12_areDone_61 : decode cX12_areDone 61 = .ok (.iconst 0, 1) := by decide +kernel
theorem dX12_areDone_62 : decode cX12_areDone 62 = .ok (.istore_n 3, 1) := by decide +kernel
theorem dX12_areDone_63 : decode cX12_areDone 63 = .ok (.iinc 4 1, 3) := by decide +kernel
theorem dX12_areDone_66 : decode cX12_areDone 66 = .ok (.goto (-56), 3) := by decide +kernel
theorem dX12_areDone_69 : decode cX12_areDone 69 = .ok (.iload_n 3, 1) := by decide +kernel
theorem dX12_areDone_70 : decode cX12_areDone 70 = .ok (.ireturn, 1) := by decide +kernel
theorem dX12_desks_0 : decode cX12_desks 0 = .ok (.iload_n 1, 1) := by decide +kernel
theorem dX12_desks_1 : decode cX12_desks 1 = .ok (.iconst 0, 1) := by decide +kernel
theorem dX12_desks_2 : decode cX12_desks 2 = .ok (.sipush 999, 3) := by decide +kernel
theorem dX12_desks_5 : decode cX12_desks 5 = .ok (.invokestatic 117, 3) := by decide +kernel
theorem dX12_desks_8 : decode cX12_desks 8 = .ok (.ifCond .eq 12, 3) := by decide +kernel
theorem dX12_desks_11 : decode cX12_desks 11 = .ok (.iload_n 2, 1) := by decide +kernel
theorem dX12_desks_12 : decode cX12_desks 12 = .ok (.iconst 0, 1) := by decide +kernel
theorem dX12_desks_13 : decode cX12_desks 13 = .ok (.iconst 1, 1) := by decide +kernel
theorem dX12_desks_14 : decode cX12_desks 14 = .ok (.invokestatic 117, 3) := by decide +kernel
theorem dX12_desks_17 : decode cX12_desks 17 = .ok (.ifCond .ne 5, 3) := by decide +kernel
theorem dX12_desks_20 : decode cX12_desks 20 = .ok (.iconst (-1), 1) := by decide +kernel
theorem dX12_desks_21 : decode cX12_desks 21 = .ok (.ireturn, 1) := by decide +kernel
theorem dX12_desks_22 : decode cX12_desks 22 = .ok (.iconst (-1), 1) := by decide +kernel
theorem dX12_desks_23 : decode cX12_desks 23 = .ok (.istore_n 3, 1) := by decide +kernel
theorem dX12_desks_24 : decode cX12_desks 24 = .ok (.iconst 0, 1) := by decide +kernel
theorem dX12_desks_25 : decode cX12_desks 25 = .ok (.istore 4, 2) := by decide +kernel
theorem dX12_desks_27 : decode cX12_desks 27 = .ok (.iload 4, 2) := by decide +kernel
theorem dX12_desks_29 : decode cX12_desks 29 = .ok (.aload_n 0, 1) := by decide +kernel
theorem dX12_desks_30 : decode cX12_desks 30 = .ok (.invokevirtual 393, 3) := by decide +kernel
theorem dX12_desks_33 : decode cX12_desks 33 = .ok (.if_icmp .gt 39, 3) := by decide +kernel
theorem dX12_desks_36 : decode cX12_desks 36 = .ok (.iload_n 3, 1) := by decide +kernel
theorem dX12_desks_37 : decode cX12_desks 37 = .ok (.iconst (-1), 1) := by decide +kernel
theorem dX12_desks_38 : decode cX12_desks 38 = .ok (.if_icmp .eq 15, 3) := by decide +kernel
theorem dX12_desks_41 : decode cX12_desks 41 = .ok (.iload 4, 2) := by decide +kernel
theorem dX12_desks_43 : decode cX12_desks 43 = .ok (.invokestatic 446, 3) := by decide +kernel
theorem dX12_desks_46 : decode cX12_desks 46 = .ok (.iload_n 3, 1) := by decide +kernel
theorem dX12_desks_47 : decode cX12_desks 47 = .ok (.invokestatic 446, 3) := by decide +kernel
theorem dX12_desks_50 : decode cX12_desks 50 = .ok (.if_icmp .ge 16, 3) := by decide +kernel
theorem dX12_desks_53 : decode cX12_desks 53 = .ok (.aload_n 0, 1) := by decide +kernel
theorem dX12_desks_54 : decode cX12_desks 54 = .ok (.iload 4, 2) := by decide +kernel
theorem dX12_desks_56 : decode cX12_desks 56 = .ok (.iload_n 1, 1) := by decide +kernel
theorem dX12_desks_57 : decode cX12_desks 57 = .ok (.invokevirtual 449, 3) := by decide +kernel
theorem dX12_desks_60 : decode cX12_desks 60 = .ok (.ifCond .eq 6, 3) := by decide +kernel
theorem dX12_desks_63 : decode cX12_desks 63 = .ok (.iload 4, 2) := by decide +kernel
theorem dX12_desks_65 : decode cX12_desks 65 = .ok (.istore_n 3, 1) := by decide +kernel
theorem dX12_desks_66 : decode cX12_desks 66 = .ok (.iinc 4 1, 3) := by decide +kernel
theorem dX12_desks_69 : decode cX12_desks 69 = .ok (.goto (-42), 3) := by decide +kernel
theorem dX12_desks_72 : decode cX12_desks 72 = .ok (.iload_n 3, 1) := by decide +kernel
theorem dX12_desks_73 : decode cX12_desks 73 = .ok (.iconst (-1), 1) := by decide +kernel
theorem dX12_desks_74 : decode cX12_desks 74 = .ok (.if_icmp .eq 8, 3) := by decide +kernel
theorem dX12_desks_77 : decode cX12_desks 77 = .ok (.iload_n 2, 1) := by decide +kernel
theorem dX12_desks_78 : decode cX12_desks 78 = .ok (.iconst 1, 1) := by decide +kernel
theorem dX12_desks_79 : decode cX12_desks 79 = .ok (.if_icmp .ne 7, 3) := by decide +kernel
theorem dX12_desks_82 : decode cX12_desks 82 = .ok (.iload_n 3, 1) := by decide +kernel
theorem dX12_desks_83 : decode cX12_desks 83 = .ok (.goto 7, 3) := by decide +kernel
theorem dX12_desks_86 : decode cX12_desks 86 = .ok (.iload_n 3, 1) := by decide +kernel
theorem dX12_desks_87 : decode cX12_desks 87 = .ok (.invokestatic 446, 3) := by decide +kernel
theorem dX12_desks_90 : decode cX12_desks 90 = .ok (.ireturn, 1) := by decide +kernel
theorem dX12_told_0 : decode cX12_told 0 = .ok (.iload_n 2, 1) := by decide +kernel
theorem dX12_told_1 : decode cX12_told 1 = .ok (.iconst 0, 1) := by decide +kernel
theorem dX12_told_2 : decode cX12_told 2 = .ok (.sipush 999, 3) := by decide +kernel
theorem dX12_told_5 : decode cX12_told 5 = .ok (.invokestatic 117, 3) := by decide +kernel
theorem dX12_told_8 : decode cX12_told 8 = .ok (.ifCond .ne 9, 3) := by decide +kernel
theorem dX12_told_11 : decode cX12_told 11 = .ok (.aload_n 0, 1) := by decide +kernel
theorem dX12_told_12 : decode cX12_told 12 = .ok (.iconst (-1), 1) := by decide +kernel
theorem dX12_told_13 : decode cX12_told 13 = .ok (.invokevirtual 121, 3) := by decide +kernel
theorem dX12_told_16 : decode cX12_told 16 = .ok (.ireturn, 1) := by decide +kernel
theorem dX12_told_17 : decode cX12_told 17 = .ok (.aload_n 0, 1) := by decide +kernel
theorem dX12_told_18 : decode cX12_told 18 = .ok (.iload_n 1, 1) := by decide +kernel
theorem dX12_told_19 : decode cX12_told 19 = .ok (.invokevirtual 131, 3) := by decide +kernel
theorem dX12_told_22 : decode cX12_told 22 = .ok (.ifCond .ne 10, 3) := by decide +kernel
theorem dX12_told_25 : decode cX12_told 25 = .ok (.aload_n 0, 1) := by decide +kernel
theorem dX12_told_26 : decode cX12_told 26 = .ok (.bipush (-2), 2) := by decide +kernel
theorem dX12_told_28 : decode cX12_told 28 = .ok (.invokevirtual 121, 3) := by decide +kernel
theorem dX12_told_31 : decode cX12_told 31 = .ok (.ireturn, 1) := by decide +kernel
theorem dX12_told_32 : decode cX12_told 32 = .ok (.aload_n 0, 1) := by decide +kernel
theorem dX12_told_33 : decode cX12_told 33 = .ok (.getfield 24, 3) := by decide +kernel
theorem dX12_told_36 : decode cX12_told 36 = .ok (.bipush 106, 2) := by decide +kernel
theorem dX12_told_38 : decode cX12_told 38 = .ok (.iaload, 1) := by decide +kernel
theorem dX12_told_39 : decode cX12_told 39 = .ok (.istore_n 3, 1) := by decide +kernel
theorem dX12_told_40 : decode cX12_told 40 = .ok (.iload_n 3, 1) := by decide +kernel
theorem dX12_told_41 : decode cX12_told 41 = .ok (.bipush 6, 2) := by decide +kernel
theorem dX12_told_43 : decode cX12_told 43 = .ok (.if_icmp .ne 10, 3) := by decide +kernel
theorem dX12_told_46 : decode cX12_told 46 = .ok (.aload_n 0, 1) := by decide +kernel
theorem dX12_told_47 : decode cX12_told 47 = .ok (.bipush (-5), 2) := by decide +kernel
theorem dX12_told_49 : decode cX12_told 49 = .ok (.invokevirtual 121, 3) := by decide +kernel
theorem dX12_told_52 : decode cX12_told 52 = .ok (.ireturn, 1) := by decide +kernel
theorem dX12_told_53 : decode cX12_told 53 = .ok (.aload_n 0, 1) := by decide +kernel
theorem dX12_told_54 : decode cX12_told 54 = .ok (.getfield 24, 3) := by decide +kernel
theorem dX12_told_57 : decode cX12_told 57 = .ok (.bipush 89, 2) := by decide +kernel
theorem dX12_told_59 : decode cX12_told 59 = .ok (.iconst 2, 1) := by decide +kernel
theorem dX12_told_60 : decode cX12_told 60 = .ok (.iload_n 3, 1) := by decide +kernel
theorem dX12_told_61 : decode cX12_told 61 = .ok (.imul, 1) := by decide +kernel
theorem dX12_told_62 : decode cX12_told 62 = .ok (.iadd, 1) := by decide +kernel
theorem dX12_told_63 : decode cX12_told 63 = .ok (.iload_n 1, 1) := by decide +kernel
theorem dX12_told_64 : decode cX12_told 64 = .ok (.iastore, 1) := by decide +kernel
theorem dX12_told_65 : decode cX12_told 65 = .ok (.aload_n 0, 1) := by decide +kernel
theorem dX12_told_66 : decode cX12_told 66 = .ok (.getfield 24, 3) := by decide +kernel
theorem dX12_told_69 : decode cX12_told 69 = .ok (.bipush 89, 2) := by decide +kernel
theorem dX12_told_71 : decode cX12_told 71 = .ok (.iconst 2, 1) := by decide +kernel
theorem dX12_told_72 : decode cX12_told 72 = .ok (.iload_n 3, 1) := by decide +kernel
theorem dX12_told_73 : decode cX12_told 73 = .ok (.imul, 1) := by decide +kernel
theorem dX12_told_74 : decode cX12_told 74 = .ok (.iadd, 1) := by decide +kernel
theorem dX12_told_75 : decode cX12_told 75 = .ok (.iconst 1, 1) := by decide +kernel
theorem dX12_told_76 : decode cX12_told 76 = .ok (.iadd, 1) := by decide +kernel
theorem dX12_told_77 : decode cX12_told 77 = .ok (.iload_n 2, 1) := by decide +kernel
theorem dX12_told_78 : decode cX12_told 78 = .ok (.iastore, 1) := by decide +kernel
theorem dX12_told_79 : decode cX12_told 79 = .ok (.aload_n 0, 1) := by decide +kernel
theorem dX12_told_80 : decode cX12_told 80 = .ok (.getfield 24, 3) := by decide +kernel
theorem dX12_told_83 : decode cX12_told 83 = .ok (.bipush 106, 2) := by decide +kernel
theorem dX12_told_85 : decode cX12_told 85 = .ok (.dup2, 1) := by decide +kernel
theorem dX12_told_86 : decode cX12_told 86 = .ok (.iaload, 1) := by decide +kernel
theorem dX12_told_87 : decode cX12_told 87 = .ok (.iconst 1, 1) := by decide +kernel
theorem dX12_told_88 : decode cX12_told 88 = .ok (.iadd, 1) := by decide +kernel
theorem dX12_told_89 : decode cX12_told 89 = .ok (.iastore, 1) := by decide +kernel
theorem dX12_told_90 : decode cX12_told 90 = .ok (.aload_n 0, 1) := by decide +kernel
theorem dX12_told_91 : decode cX12_told 91 = .ok (.iload_n 3, 1) := by decide +kernel
theorem dX12_told_92 : decode cX12_told 92 = .ok (.iconst 1, 1) := by decide +kernel
theorem dX12_told_93 : decode cX12_told 93 = .ok (.iadd, 1) := by decide +kernel
theorem dX12_told_94 : decode cX12_told 94 = .ok (.invokevirtual 14, 3) := by decide +kernel
theorem dX12_told_97 : decode cX12_told 97 = .ok (.ireturn, 1) := by decide +kernel
theorem dX12_forget_0 : decode cX12_forget 0 = .ok (.aload_n 0, 1) := by decide +kernel
theorem dX12_forget_1 : decode cX12_forget 1 = .ok (.getfield 24, 3) := by decide +kernel
theorem dX12_forget_4 : decode cX12_forget 4 = .ok (.bipush 106, 2) := by decide +kernel
theorem dX12_forget_6 : decode cX12_forget 6 = .ok (.iaload, 1) := by decide +kernel
theorem dX12_forget_7 : decode cX12_forget 7 = .ok (.istore_n 1, 1) := by decide +kernel
theorem dX12_forget_8 : decode cX12_forget 8 = .ok (.aload_n 0, 1) := by decide +kernel
theorem dX12_forget_9 : decode cX12_forget 9 = .ok (.getfield 24, 3) := by decide +kernel
theorem dX12_forget_12 : decode cX12_forget 12 = .ok (.bipush 106, 2) := by decide +kernel
theorem dX12_forget_14 : decode cX12_forget 14 = .ok (.iconst 0, 1) := by decide +kernel
theorem dX12_forget_15 : decode cX12_forget 15 = .ok (.iastore, 1) := by decide +kernel
theorem dX12_forget_16 : decode cX12_forget 16 = .ok (.iload_n 1, 1) := by decide +kernel
theorem dX12_forget_17 : decode cX12_forget 17 = .ok (.ireturn, 1) := by decide +kernel
theorem dX12_isAllSo_0 : decode cX12_isAllSo 0 = .ok (.aload_n 0, 1) := by decide +kernel
theorem dX12_isAllSo_1 : decode cX12_isAllSo 1 = .ok (.aload_n 0, 1) := by decide +kernel
theorem dX12_isAllSo_2 : decode cX12_isAllSo 2 = .ok (.invokevirtual 393, 3) := by decide +kernel
theorem dX12_isAllSo_5 : decode cX12_isAllSo 5 = .ok (.invokevirtual 396, 3) := by decide +kernel
theorem dX12_isAllSo_8 : decode cX12_isAllSo 8 = .ok (.iconst 1, 1) := by decide +kernel
theorem dX12_isAllSo_9 : decode cX12_isAllSo 9 = .ok (.istore_n 1, 1) := by decide +kernel
theorem dX12_isAllSo_10 : decode cX12_isAllSo 10 = .ok (.iconst 0, 1) := by decide +kernel
theorem dX12_isAllSo_11 : decode cX12_isAllSo 11 = .ok (.istore_n 2, 1) := by decide +kernel
theorem dX12_isAllSo_12 : decode cX12_isAllSo 12 = .ok (.iload_n 2, 1) := by decide +kernel
theorem dX12_isAllSo_13 : decode cX12_isAllSo 13 = .ok (.aload_n 0, 1) := by decide +kernel
theorem dX12_isAllSo_14 : decode cX12_isAllSo 14 = .ok (.getfield 24, 3) := by decide +kernel
theorem dX12_isAllSo_17 : decode cX12_isAllSo 17 = .ok (.bipush 106, 2) := by decide +kernel
theorem dX12_isAllSo_19 : decode cX12_isAllSo 19 = .ok (.iaload, 1) := by decide +kernel
theorem dX12_isAllSo_20 : decode cX12_isAllSo 20 = .ok (.if_icmp .ge 51, 3) := by decide +kernel
theorem dX12_isAllSo_23 : decode cX12_isAllSo 23 = .ok (.iload_n 1, 1) := by decide +kernel
theorem dX12_isAllSo_24 : decode cX12_isAllSo 24 = .ok (.ifCond .eq 39, 3) := by decide +kernel
theorem dX12_isAllSo_27 : decode cX12_isAllSo 27 = .ok (.aload_n 0, 1) := by decide +kernel
theorem dX12_isAllSo_28 : decode cX12_isAllSo 28 = .ok (.getfield 71, 3) := by decide +kernel
theorem dX12_isAllSo_31 : decode cX12_isAllSo 31 = .ok (.aload_n 0, 1) := by decide +kernel
theorem dX12_isAllSo_32 : decode cX12_isAllSo 32 = .ok (.getfield 24, 3) := by decide +kernel
theorem dX12_isAllSo_35 : decode cX12_isAllSo 35 = .ok (.bipush 89, 2) := by decide +kernel
theorem dX12_isAllSo_37 : decode cX12_isAllSo 37 = .ok (.iconst 2, 1) := by decide +kernel
theorem dX12_isAllSo_38 : decode cX12_isAllSo 38 = .ok (.iload_n 2, 1) := by decide +kernel
theorem dX12_isAllSo_39 : decode cX12_isAllSo 39 = .ok (.imul, 1) := by decide +kernel
theorem dX12_isAllSo_40 : decode cX12_isAllSo 40 = .ok (.iadd, 1) := by decide +kernel
theorem dX12_isAllSo_41 : decode cX12_isAllSo 41 = .ok (.iaload, 1) := by decide +kernel
theorem dX12_isAllSo_42 : decode cX12_isAllSo 42 = .ok (.iaload, 1) := by decide +kernel
theorem dX12_isAllSo_43 : decode cX12_isAllSo 43 = .ok (.aload_n 0, 1) := by decide +kernel
theorem dX12_isAllSo_44 : decode cX12_isAllSo 44 = .ok (.getfield 24, 3) := by decide +kernel
theorem dX12_isAllSo_47 : decode cX12_isAllSo 47 = .ok (.bipush 89, 2) := by decide +kernel
theorem dX12_isAllSo_49 : decode cX12_isAllSo 49 = .ok (.iconst 2, 1) := by decide +kernel
theorem dX12_isAllSo_50 : decode cX12_isAllSo 50 = .ok (.iload_n 2, 1) := by decide +kernel
theorem dX12_isAllSo_51 : decode cX12_isAllSo 51 = .ok (.imul, 1) := by decide +kernel
theorem dX12_isAllSo_52 : decode cX12_isAllSo 52 = .ok (.iadd, 1) := by decide +kernel
theorem dX12_isAllSo_53 : decode cX12_isAllSo 53 = .ok (.iconst 1, 1) := by decide +kernel
theorem dX12_isAllSo_54 : decode cX12_isAllSo 54 = .ok (.iadd, 1) := by decide +kernel
theorem dX12_isAllSo_55 : decode cX12_isAllSo 55 = .ok (.iaload, 1) := by decide +kernel
theorem dX12_isAllSo_56 : decode cX12_isAllSo 56 = .ok (.if_icmp .ne 7, 3) := by decide +kernel
theorem dX12_isAllSo_59 : decode cX12_isAllSo 59 = .ok (.iconst 1, 1) := by decide +kernel
theorem dX12_isAllSo_60 : decode cX12_isAllSo 60 = .ok (.goto 4, 3) := by decide +kernel
theorem dX12_isAllSo_63 : decode cX12_isAllSo 63 = .ok (.iconst 0, 1) := by decide +kernel
theorem dX12_isAllSo_64 : decode cX12_isAllSo 64 = .ok (.istore_n 1, 1) := by decide +kernel
theorem dX12_isAllSo_65 : decode cX12_isAllSo 65 = .ok (.iinc 2 1, 3) := by decide +kernel
theorem dX12_isAllSo_68 : decode cX12_isAllSo 68 = .ok (.goto (-56), 3) := by decide +kernel
theorem dX12_isAllSo_71 : decode cX12_isAllSo 71 = .ok (.iload_n 1, 1) := by decide +kernel
theorem dX12_isAllSo_72 : decode cX12_isAllSo 72 = .ok (.ireturn, 1) := by decide +kernel
theorem dX12_countsWay_0 : decode cX12_countsWay 0 = .ok (.aload_n 0, 1) := by decide +kernel
theorem dX12_countsWay_1 : decode cX12_countsWay 1 = .ok (.invokevirtual 452, 3) := by decide +kernel
theorem dX12_countsWay_4 : decode cX12_countsWay 4 = .ok (.ifCond .ne 4, 3) := by decide +kernel
theorem dX12_countsWay_7 : decode cX12_countsWay 7 = .ok (.return_, 1) := by decide +kernel
theorem dX12_countsWay_8 : decode cX12_countsWay 8 = .ok (.iconst 0, 1) := by decide +kernel
theorem dX12_countsWay_9 : decode cX12_countsWay 9 = .ok (.istore_n 1, 1) := by decide +kernel
theorem dX12_countsWay_10 : decode cX12_countsWay 10 = .ok (.iload_n 1, 1) := by decide +kernel
theorem dX12_countsWay_11 : decode cX12_countsWay 11 = .ok (.bipush 6, 2) := by decide +kernel
theorem dX12_countsWay_13 : decode cX12_countsWay 13 = .ok (.if_icmp .ge 68, 3) := by decide +kernel
theorem dX12_countsWay_16 : decode cX12_countsWay 16 = .ok (.aload_n 0, 1) := by decide +kernel
theorem dX12_countsWay_17 : decode cX12_countsWay 17 = .ok (.getfield 455, 3) := by decide +kernel
theorem dX12_countsWay_20 : decode cX12_countsWay 20 = .ok (.aload_n 0, 1) := by decide +kernel
theorem dX12_countsWay_21 : decode cX12_countsWay 21 = .ok (.getfield 458, 3) := by decide +kernel
theorem dX12_countsWay_24 : decode cX12_countsWay 24 = .ok (.if_icmp .ne 17, 3) := by decide +kernel
theorem dX12_countsWay_27 : decode cX12_countsWay 27 = .ok (.aload_n 0, 1) := by decide +kernel
theorem dX12_countsWay_28 : decode cX12_countsWay 28 = .ok (.getfield 95, 3) := by decide +kernel
theorem dX12_countsWay_31 : decode cX12_countsWay 31 = .ok (.iload_n 1, 1) := by decide +kernel
theorem dX12_countsWay_32 : decode cX12_countsWay 32 = .ok (.aload_n 0, 1) := by decide +kernel
theorem dX12_countsWay_33 : decode cX12_countsWay 33 = .ok (.getfield 24, 3) := by decide +kernel
theorem dX12_countsWay_36 : decode cX12_countsWay 36 = .ok (.iconst 0, 1) := by decide +kernel
theorem dX12_countsWay_37 : decode cX12_countsWay 37 = .ok (.iload_n 1, 1) := by decide +kernel
theorem dX12_countsWay_38 : decode cX12_countsWay 38 = .ok (.iadd, 1) := by decide +kernel
theorem dX12_countsWay_39 : decode cX12_countsWay 39 = .ok (.iaload, 1) := by decide +kernel
theorem dX12_countsWay_40 : decode cX12_countsWay 40 = .ok (.iastore, 1) := by decide +kernel
theorem dX12_countsWay_41 : decode cX12_countsWay 41 = .ok (.aload_n 0, 1) := by decide +kernel
theorem dX12_countsWay_42 : decode cX12_countsWay 42 = .ok (.getfield 24, 3) := by decide +kernel
theorem dX12_countsWay_45 : decode cX12_countsWay 45 = .ok (.iconst 0, 1) := by decide +kernel
theorem dX12_countsWay_46 : decode cX12_countsWay 46 = .ok (.iload_n 1, 1) := by decide +kernel
theorem dX12_countsWay_47 : decode cX12_countsWay 47 = .ok (.iadd, 1) := by decide +kernel
theorem dX12_countsWay_48 : decode cX12_countsWay 48 = .ok (.iaload, 1) := by decide +kernel
theorem dX12_countsWay_49 : decode cX12_countsWay 49 = .ok (.iconst (-1), 1) := by decide +kernel
theorem dX12_countsWay_50 : decode cX12_countsWay 50 = .ok (.if_icmp .eq 25, 3) := by decide +kernel
theorem dX12_countsWay_53 : decode cX12_countsWay 53 = .ok (.aload_n 0, 1) := by decide +kernel
theorem dX12_countsWay_54 : decode cX12_countsWay 54 = .ok (.getfield 98, 3) := by decide +kernel
theorem dX12_countsWay_57 : decode cX12_countsWay 57 = .ok (.bipush 8, 2) := by decide +kernel
theorem dX12_countsWay_59 : decode cX12_countsWay 59 = .ok (.iload_n 1, 1) := by decide +kernel
theorem dX12_countsWay_60 : decode cX12_countsWay 60 = .ok (.imul, 1) := by decide +kernel
theorem dX12_countsWay_61 : decode cX12_countsWay 61 = .ok (.aload_n 0, 1) := by decide +kernel
theorem dX12_countsWay_62 : decode cX12_countsWay 62 = .ok (.getfield 24, 3) := by decide +kernel
theorem dX12_countsWay_65 : decode cX12_countsWay 65 = .ok (.iconst 0, 1) := by decide +kernel
theorem dX12_countsWay_66 : decode cX12_countsWay 66 = .ok (.iload_n 1, 1) := by decide +kernel
theorem dX12_countsWay_67 : decode cX12_countsWay 67 = .ok (.iadd, 1) := by decide +kernel
theorem dX12_countsWay_68 : decode cX12_countsWay 68 = .ok (.iaload, 1) := by decide +kernel
theorem dX12_countsWay_69 : decode cX12_countsWay 69 = .ok (.iadd, 1) := by decide +kernel
theorem dX12_countsWay_70 : decode cX12_countsWay 70 = .ok (.dup2, 1) := by decide +kernel
theorem dX12_countsWay_71 : decode cX12_countsWay 71 = .ok (.iaload, 1) := by decide +kernel
theorem dX12_countsWay_72 : decode cX12_countsWay 72 = .ok (.iconst 1, 1) := by decide +kernel
theorem dX12_countsWay_73 : decode cX12_countsWay 73 = .ok (.iadd, 1) := by decide +kernel
theorem dX12_countsWay_74 : decode cX12_countsWay 74 = .ok (.iastore, 1) := by decide +kernel
theorem dX12_countsWay_75 : decode cX12_countsWay 75 = .ok (.iinc 1 1, 3) := by decide +kernel
theorem dX12_countsWay_78 : decode cX12_countsWay 78 = .ok (.goto (-68), 3) := by decide +kernel
theorem dX12_countsWay_81 : decode cX12_countsWay 81 = .ok (.aload_n 0, 1) := by decide +kernel
theorem dX12_countsWay_82 : decode cX12_countsWay 82 = .ok (.dup, 1) := by decide +kernel
theorem dX12_countsWay_83 : decode cX12_countsWay 83 = .ok (.getfield 455, 3) := by decide +kernel
theorem dX12_countsWay_86 : decode cX12_countsWay 86 = .ok (.iconst 1, 1) := by decide +kernel
theorem dX12_countsWay_87 : decode cX12_countsWay 87 = .ok (.iadd, 1) := by decide +kernel
theorem dX12_countsWay_88 : decode cX12_countsWay 88 = .ok (.putfield 455, 3) := by decide +kernel
theorem dX12_countsWay_91 : decode cX12_countsWay 91 = .ok (.return_, 1) := by decide +kernel
theorem dX12_triesHad_0 : decode cX12_triesHad 0 = .ok (.iload_n 1, 1) := by decide +kernel
theorem dX12_triesHad_1 : decode cX12_triesHad 1 = .ok (.aload_n 0, 1) := by decide +kernel
theorem dX12_triesHad_2 : decode cX12_triesHad 2 = .ok (.getfield 405, 3) := by decide +kernel
theorem dX12_triesHad_5 : decode cX12_triesHad 5 = .ok (.if_icmp .ne 8, 3) := by decide +kernel
theorem dX12_triesHad_8 : decode cX12_triesHad 8 = .ok (.aload_n 0, 1) := by decide +kernel
theorem dX12_triesHad_9 : decode cX12_triesHad 9 = .ok (.invokevirtual 461, 3) := by decide +kernel
theorem dX12_triesHad_12 : decode cX12_triesHad 12 = .ok (.return_, 1) := by decide +kernel
theorem dX12_triesHad_13 : decode cX12_triesHad 13 = .ok (.iconst 0, 1) := by decide +kernel
theorem dX12_triesHad_14 : decode cX12_triesHad 14 = .ok (.istore_n 3, 1) := by decide +kernel
theorem dX12_triesHad_15 : decode cX12_triesHad 15 = .ok (.iload_n 3, 1) := by decide +kernel
theorem dX12_triesHad_16 : decode cX12_triesHad 16 = .ok (.aload_n 0, 1) := by decide +kernel
theorem dX12_triesHad_17 : decode cX12_triesHad 17 = .ok (.getfield 405, 3) := by decide +kernel
theorem dX12_triesHad_20 : decode cX12_triesHad 20 = .ok (.if_icmp .ge 51, 3) := by decide +kernel
theorem dX12_triesHad_23 : decode cX12_triesHad 23 = .ok (.iload_n 2, 1) := by decide +kernel
theorem dX12_triesHad_24 : decode cX12_triesHad 24 = .ok (.iload_n 3, 1) := by decide +kernel
theorem dX12_triesHad_25 : decode cX12_triesHad 25 = .ok (.invokestatic 381, 3) := by decide +kernel
theorem dX12_triesHad_28 : decode cX12_triesHad 28 = .ok (.ifCond .eq 6, 3) := by decide +kernel
theorem dX12_triesHad_31 : decode cX12_triesHad 31 = .ok (.goto 34, 3) := by decide +kernel
theorem dX12_triesHad_34 : decode cX12_triesHad 34 = .ok (.aload_n 0, 1) := by decide +kernel
theorem dX12_triesHad_35 : decode cX12_triesHad 35 = .ok (.getfield 24, 3) := by decide +kernel
theorem dX12_triesHad_38 : decode cX12_triesHad 38 = .ok (.iconst 0, 1) := by decide +kernel
theorem dX12_triesHad_39 : decode cX12_triesHad 39 = .ok (.aload_n 0, 1) := by decide +kernel
theorem dX12_triesHad_40 : decode cX12_triesHad 40 = .ok (.getfield 80, 3) := by decide +kernel
theorem dX12_triesHad_43 : decode cX12_triesHad 43 = .ok (.iload_n 1, 1) := by decide +kernel
theorem dX12_triesHad_44 : decode cX12_triesHad 44 = .ok (.iaload, 1) := by decide +kernel
theorem dX12_triesHad_45 : decode cX12_triesHad 45 = .ok (.iadd, 1) := by decide +kernel
theorem dX12_triesHad_46 : decode cX12_triesHad 46 = .ok (.aload_n 0, 1) := by decide +kernel
theorem dX12_triesHad_47 : decode cX12_triesHad 47 = .ok (.getfield 83, 3) := by decide +kernel
theorem dX12_triesHad_50 : decode cX12_triesHad 50 = .ok (.iload_n 3, 1) := by decide +kernel
theorem dX12_triesHad_51 : decode cX12_triesHad 51 = .ok (.iaload, 1) := by decide +kernel
theorem dX12_triesHad_52 : decode cX12_triesHad 52 = .ok (.iastore, 1) := by decide +kernel
theorem dX12_triesHad_53 : decode cX12_triesHad 53 = .ok (.aload_n 0, 1) := by decide +kernel
theorem dX12_triesHad_54 : decode cX12_triesHad 54 = .ok (.iload_n 1, 1) := by decide +kernel
theorem dX12_triesHad_55 : decode cX12_triesHad 55 = .ok (.iconst 1, 1) := by decide +kernel
theorem dX12_triesHad_56 : decode cX12_triesHad 56 = .ok (.iadd, 1) := by decide +kernel
theorem dX12_triesHad_57 : decode cX12_triesHad 57 = .ok (.iload_n 2, 1) := by decide +kernel
theorem dX12_triesHad_58 : decode cX12_triesHad 58 = .ok (.iconst 1, 1) := by decide +kernel
theorem dX12_triesHad_59 : decode cX12_triesHad 59 = .ok (.iload_n 3, 1) := by decide +kernel
theorem dX12_triesHad_60 : decode cX12_triesHad 60 = .ok (.ishl, 1) := by decide +kernel
theorem dX12_triesHad_61 : decode cX12_triesHad 61 = .ok (.ior, 1) := by decide +kernel
theorem dX12_triesHad_62 : decode cX12_triesHad 62 = .ok (.invokevirtual 464, 3) := by decide +kernel
theorem dX12_triesHad_65 : decode cX12_triesHad 65 = .ok (.iinc 3 1, 3) := by decide +kernel
theorem dX12_triesHad_68 : decode cX12_triesHad 68 = .ok (.goto (-53), 3) := by decide +kernel
theorem dX12_triesHad_71 : decode cX12_triesHad 71 = .ok (.return_, 1) := by decide +kernel
theorem dX12_laysWays_0 : decode cX12_laysWays 0 = .ok (.aload_n 0, 1) := by decide +kernel
theorem dX12_laysWays_1 : decode cX12_laysWays 1 = .ok (.invokevirtual 423, 3) := by decide +kernel
theorem dX12_laysWays_4 : decode cX12_laysWays 4 = .ok (.aload_n 0, 1) := by decide +kernel
theorem dX12_laysWays_5 : decode cX12_laysWays 5 = .ok (.iconst 0, 1) := by decide +kernel
theorem dX12_laysWays_6 : decode cX12_laysWays 6 = .ok (.invokevirtual 426, 3) := by decide +kernel
theorem dX12_laysWays_9 : decode cX12_laysWays 9 = .ok (.aload_n 0, 1) := by decide +kernel
theorem dX12_laysWays_10 : decode cX12_laysWays 10 = .ok (.iconst 0, 1) := by decide +kernel
theorem dX12_laysWays_11 : decode cX12_laysWays 11 = .ok (.putfield 455, 3) := by decide +kernel
theorem dX12_laysWays_14 : decode cX12_laysWays 14 = .ok (.aload_n 0, 1) := by decide +kernel
theorem dX12_laysWays_15 : decode cX12_laysWays 15 = .ok (.iload_n 1, 1) := by decide +kernel
theorem dX12_laysWays_16 : decode cX12_laysWays 16 = .ok (.putfield 458, 3) := by decide +kernel
theorem dX12_laysWays_19 : decode cX12_laysWays 19 = .ok (.iconst 0, 1) := by decide +kernel
theorem dX12_laysWays_20 : decode cX12_laysWays 20 = .ok (.istore_n 2, 1) := by decide +kernel
theorem dX12_laysWays_21 : decode cX12_laysWays 21 = .ok (.iload_n 2, 1) := by decide +kernel
theorem dX12_laysWays_22 : decode cX12_laysWays 22 = .ok (.bipush 48, 2) := by decide +kernel
theorem dX12_laysWays_24 : decode cX12_laysWays 24 = .ok (.if_icmp .ge 16, 3) := by decide +kernel
theorem dX12_laysWays_27 : decode cX12_laysWays 27 = .ok (.aload_n 0, 1) := by decide +kernel
theorem dX12_laysWays_28 : decode cX12_laysWays 28 = .ok (.getfield 98, 3) := by decide +kernel
theorem dX12_laysWays_31 : decode cX12_laysWays 31 = .ok (.iload_n 2, 1) := by decide +kernel
theorem dX12_laysWays_32 : decode cX12_laysWays 32 = .ok (.iconst 0, 1) := by decide +kernel
theorem dX12_laysWays_33 : decode cX12_laysWays 33 = .ok (.iastore, 1) := by decide +kernel
theorem dX12_laysWays_34 : decode cX12_laysWays 34 = .ok (.iinc 2 1, 3) := by decide +kernel
theorem dX12_laysWays_37 : decode cX12_laysWays 37 = .ok (.goto (-16), 3) := by decide +kernel
theorem dX12_laysWays_40 : decode cX12_laysWays 40 = .ok (.aload_n 0, 1) := by decide +kernel
theorem dX12_laysWays_41 : decode cX12_laysWays 41 = .ok (.iconst 0, 1) := by decide +kernel
theorem dX12_laysWays_42 : decode cX12_laysWays 42 = .ok (.iconst 0, 1) := by decide +kernel
theorem dX12_laysWays_43 : decode cX12_laysWays 43 = .ok (.invokevirtual 464, 3) := by decide +kernel
theorem dX12_laysWays_46 : decode cX12_laysWays 46 = .ok (.aload_n 0, 1) := by decide +kernel
theorem dX12_laysWays_47 : decode cX12_laysWays 47 = .ok (.iconst 0, 1) := by decide +kernel
theorem dX12_laysWays_48 : decode cX12_laysWays 48 = .ok (.invokevirtual 429, 3) := by decide +kernel
theorem dX12_laysWays_51 : decode cX12_laysWays 51 = .ok (.return_, 1) := by decide +kernel
theorem dX12_had_0 : decode cX12_had 0 = .ok (.iload_n 1, 1) := by decide +kernel
theorem dX12_had_1 : decode cX12_had 1 = .ok (.iconst (-1), 1) := by decide +kernel
theorem dX12_had_2 : decode cX12_had 2 = .ok (.if_icmp .lt 16, 3) := by decide +kernel
theorem dX12_had_5 : decode cX12_had 5 = .ok (.iload_n 1, 1) := by decide +kernel
theorem dX12_had_6 : decode cX12_had 6 = .ok (.iconst (-1), 1) := by decide +kernel
theorem dX12_had_7 : decode cX12_had 7 = .ok (.if_icmp .le 13, 3) := by decide +kernel
theorem dX12_had_10 : decode cX12_had 10 = .ok (.aload_n 0, 1) := by decide +kernel
theorem dX12_had_11 : decode cX12_had 11 = .ok (.iload_n 2, 1) := by decide +kernel
theorem dX12_had_12 : decode cX12_had 12 = .ok (.invokevirtual 131, 3) := by decide +kernel
theorem dX12_had_15 : decode cX12_had 15 = .ok (.ifCond .ne 5, 3) := by decide +kernel
theorem dX12_had_18 : decode cX12_had 18 = .ok (.iconst (-1), 1) := by decide +kernel
theorem dX12_had_19 : decode cX12_had 19 = .ok (.ireturn, 1) := by decide +kernel
theorem dX12_had_20 : decode cX12_had 20 = .ok (.aload_n 0, 1) := by decide +kernel
theorem dX12_had_21 : decode cX12_had 21 = .ok (.iload_n 1, 1) := by decide +kernel
theorem dX12_had_22 : decode cX12_had 22 = .ok (.invokevirtual 467, 3) := by decide +kernel
theorem dX12_had_25 : decode cX12_had 25 = .ok (.iload_n 1, 1) := by decide +kernel
theorem dX12_had_26 : decode cX12_had 26 = .ok (.iconst (-1), 1) := by decide +kernel
theorem dX12_had_27 : decode cX12_had 27 = .ok (.if_icmp .ne 8, 3) := by decide +kernel
theorem dX12_had_30 : decode cX12_had 30 = .ok (.aload_n 0, 1) := by decide +kernel
theorem dX12_had_31 : decode cX12_had 31 = .ok (.getfield 455, 3) := by decide +kernel
theorem dX12_had_34 : decode cX12_had 34 = .ok (.ireturn, 1) := by decide +kernel
theorem dX12_had_35 : decode cX12_had 35 = .ok (.iload_n 1, 1) := by decide +kernel
theorem dX12_had_36 : decode cX12_had 36 = .ok (.aload_n 0, 1) := by decide +kernel
theorem dX12_had_37 : decode cX12_had 37 = .ok (.getfield 455, 3) := by decide +kernel
theorem dX12_had_40 : decode cX12_had 40 = .ok (.if_icmp .ge 12, 3) := by decide +kernel
theorem dX12_had_43 : decode cX12_had 43 = .ok (.aload_n 0, 1) := by decide +kernel
theorem dX12_had_44 : decode cX12_had 44 = .ok (.getfield 95, 3) := by decide +kernel
theorem dX12_had_47 : decode cX12_had 47 = .ok (.iload_n 2, 1) := by decide +kernel
theorem dX12_had_48 : decode cX12_had 48 = .ok (.iaload, 1) := by decide +kernel
theorem dX12_had_49 : decode cX12_had 49 = .ok (.goto 4, 3) := by decide +kernel
theorem dX12_had_52 : decode cX12_had 52 = .ok (.iconst (-1), 1) := by decide +kernel
theorem dX12_had_53 : decode cX12_had 53 = .ok (.ireturn, 1) := by decide +kernel
theorem dX12_mostGiven_0 : decode cX12_mostGiven 0 = .ok (.iconst 0, 1) := by decide +kernel
theorem dX12_mostGiven_1 : decode cX12_mostGiven 1 = .ok (.istore_n 2, 1) := by decide +kernel
theorem dX12_mostGiven_2 : decode cX12_mostGiven 2 = .ok (.iconst 0, 1) := by decide +kernel
theorem dX12_mostGiven_3 : decode cX12_mostGiven 3 = .ok (.istore_n 3, 1) := by decide +kernel
theorem dX12_mostGiven_4 : decode cX12_mostGiven 4 = .ok (.iload_n 3, 1) := by decide +kernel
theorem dX12_mostGiven_5 : decode cX12_mostGiven 5 = .ok (.bipush 8, 2) := by decide +kernel
theorem dX12_mostGiven_7 : decode cX12_mostGiven 7 = .ok (.if_icmp .ge 25, 3) := by decide +kernel
theorem dX12_mostGiven_10 : decode cX12_mostGiven 10 = .ok (.iload_n 2, 1) := by decide +kernel
theorem dX12_mostGiven_11 : decode cX12_mostGiven 11 = .ok (.aload_n 0, 1) := by decide +kernel
theorem dX12_mostGiven_12 : decode cX12_mostGiven 12 = .ok (.getfield 98, 3) := by decide +kernel
theorem dX12_mostGiven_15 : decode cX12_mostGiven 15 = .ok (.bipush 8, 2) := by decide +kernel
theorem dX12_mostGiven_17 : decode cX12_mostGiven 17 = .ok (.iload_n 1, 1) := by decide +kernel
theorem dX12_mostGiven_18 : decode cX12_mostGiven 18 = .ok (.imul, 1) := by decide +kernel
theorem dX12_mostGiven_19 : decode cX12_mostGiven 19 = .ok (.iload_n 3, 1) := by decide +kernel
theorem dX12_mostGiven_20 : decode cX12_mostGiven 20 = .ok (.iadd, 1) := by decide +kernel
theorem dX12_mostGiven_21 : decode cX12_mostGiven 21 = .ok (.iaload, 1) := by decide +kernel
theorem dX12_mostGiven_22 : decode cX12_mostGiven 22 = .ok (.invokestatic 470, 3) := by decide +kernel
theorem dX12_mostGiven_25 : decode cX12_mostGiven 25 = .ok (.istore_n 2, 1) := by decide +kernel
theorem dX12_mostGiven_26 : decode cX12_mostGiven 26 = .ok (.iinc 3 1, 3) := by decide +kernel
theorem dX12_mostGiven_29 : decode cX12_mostGiven 29 = .ok (.goto (-25), 3) := by decide +kernel
theorem dX12_mostGiven_32 : decode cX12_mostGiven 32 = .ok (.iload_n 2, 1) := by decide +kernel
theorem dX12_mostGiven_33 : decode cX12_mostGiven 33 = .ok (.ireturn, 1) := by decide +kernel
theorem dX12_ask_0 : decode cX12_ask 0 = .ok (.iload_n 1, 1) := by decide +kernel
theorem dX12_ask_1 : decode cX12_ask 1 = .ok (.iconst 0, 1) := by decide +kernel
theorem dX12_ask_2 : decode cX12_ask 2 = .ok (.iconst 1, 1) := by decide +kernel
theorem dX12_ask_3 : decode cX12_ask 3 = .ok (.invokestatic 117, 3) := by decide +kernel
theorem dX12_ask_6 : decode cX12_ask 6 = .ok (.ifCond .ne 5, 3) := by decide +kernel
theorem dX12_ask_9 : decode cX12_ask 9 = .ok (.iconst (-1), 1) := by decide +kernel
theorem dX12_ask_10 : decode cX12_ask 10 = .ok (.ireturn, 1) := by decide +kernel
theorem dX12_ask_11 : decode cX12_ask 11 = .ok (.aload_n 0, 1) := by decide +kernel
theorem dX12_ask_12 : decode cX12_ask 12 = .ok (.iconst (-1), 1) := by decide +kernel
theorem dX12_ask_13 : decode cX12_ask 13 = .ok (.invokevirtual 467, 3) := by decide +kernel
theorem dX12_ask_16 : decode cX12_ask 16 = .ok (.iconst (-1), 1) := by decide +kernel
theorem dX12_ask_17 : decode cX12_ask 17 = .ok (.istore_n 2, 1) := by decide +kernel
theorem dX12_ask_18 : decode cX12_ask 18 = .ok (.ldc 192, 2) := by decide +kernel
theorem dX12_ask_20 : decode cX12_ask 20 = .ok (.istore_n 3, 1) := by decide +kernel
theorem dX12_ask_21 : decode cX12_ask 21 = .ok (.iconst 0, 1) := by decide +kernel
theorem dX12_ask_22 : decode cX12_ask 22 = .ok (.istore 4, 2) := by decide +kernel
theorem dX12_ask_24 : decode cX12_ask 24 = .ok (.iload 4, 2) := by decide +kernel
theorem dX12_ask_26 : decode cX12_ask 26 = .ok (.aload_n 0, 1) := by decide +kernel
theorem dX12_ask_27 : decode cX12_ask 27 = .ok (.getfield 24, 3) := by decide +kernel
theorem dX12_ask_30 : decode cX12_ask 30 = .ok (.bipush 103, 2) := by decide +kernel
theorem dX12_ask_32 : decode cX12_ask 32 = .ok (.iaload, 1) := by decide +kernel
theorem dX12_ask_33 : decode cX12_ask 33 = .ok (.if_icmp .ge 48, 3) := by decide +kernel
theorem dX12_ask_36 : decode cX12_ask 36 = .ok (.aload_n 0, 1) := by decide +kernel
theorem dX12_ask_37 : decode cX12_ask 37 = .ok (.getfield 455, 3) := by decide +kernel
theorem dX12_ask_40 : decode cX12_ask 40 = .ok (.ifCond .le 41, 3) := by decide +kernel
theorem dX12_ask_43 : decode cX12_ask 43 = .ok (.aload_n 0, 1) := by decide +kernel
theorem dX12_ask_44 : decode cX12_ask 44 = .ok (.iload 4, 2) := by decide +kernel
theorem dX12_ask_46 : decode cX12_ask 46 = .ok (.invokevirtual 351, 3) := by decide +kernel
theorem dX12_ask_49 : decode cX12_ask 49 = .ok (.ifCond .eq 26, 3) := by decide +kernel
theorem dX12_ask_52 : decode cX12_ask 52 = .ok (.aload_n 0, 1) := by decide +kernel
theorem dX12_ask_53 : decode cX12_ask 53 = .ok (.iload 4, 2) := by decide +kernel
theorem dX12_ask_55 : decode cX12_ask 55 = .ok (.invokevirtual 473, 3) := by decide +kernel
theorem dX12_ask_58 : decode cX12_ask 58 = .ok (.iload_n 3, 1) := by decide +kernel
theorem dX12_ask_59 : decode cX12_ask 59 = .ok (.if_icmp .lt 6, 3) := by decide +kernel
theorem dX12_ask_62 : decode cX12_ask 62 = .ok (.goto 13, 3) := by decide +kernel
theorem dX12_ask_65 : decode cX12_ask 65 = .ok (.aload_n 0, 1) := by decide +kernel
theorem dX12_ask_66 : decode cX12_ask 66 = .ok (.iload 4, 2) := by decide +kernel
theorem dX12_ask_68 : decode cX12_ask 68 = .ok (.invokevirtual 473, 3) := by decide +kernel
theorem dX12_ask_71 : decode cX12_ask 71 = .ok (.istore_n 3, 1) := by decide +kernel
theorem dX12_ask_72 : decode cX12_ask 72 = .ok (.iload 4, 2) := by decide +kernel
theorem dX12_ask_74 : decode cX12_ask 74 = .ok (.istore_n 2, 1) := by decide +kernel
theorem dX12_ask_75 : decode cX12_ask 75 = .ok (.iinc 4 1, 3) := by decide +kernel
theorem dX12_ask_78 : decode cX12_ask 78 = .ok (.goto (-54), 3) := by decide +kernel
theorem dX12_ask_81 : decode cX12_ask 81 = .ok (.iload_n 2, 1) := by decide +kernel
theorem dX12_ask_82 : decode cX12_ask 82 = .ok (.iconst (-1), 1) := by decide +kernel
theorem dX12_ask_83 : decode cX12_ask 83 = .ok (.if_icmp .eq 7, 3) := by decide +kernel
theorem dX12_ask_86 : decode cX12_ask 86 = .ok (.iload_n 1, 1) := by decide +kernel
theorem dX12_ask_87 : decode cX12_ask 87 = .ok (.ifCond .ne 7, 3) := by decide +kernel
theorem dX12_ask_90 : decode cX12_ask 90 = .ok (.iload_n 2, 1) := by decide +kernel
theorem dX12_ask_91 : decode cX12_ask 91 = .ok (.goto 4, 3) := by decide +kernel
theorem dX12_ask_94 : decode cX12_ask 94 = .ok (.iload_n 3, 1) := by decide +kernel
theorem dX12_ask_95 : decode cX12_ask 95 = .ok (.ireturn, 1) := by decide +kernel
theorem dX12_few_0 : decode cX12_few 0 = .ok (.iload_n 1, 1) := by decide +kernel
theorem dX12_few_1 : decode cX12_few 1 = .ok (.iconst 1, 1) := by decide +kernel
theorem dX12_few_2 : decode cX12_few 2 = .ok (.bipush 20, 2) := by decide +kernel
theorem dX12_few_4 : decode cX12_few 4 = .ok (.invokestatic 117, 3) := by decide +kernel
theorem dX12_few_7 : decode cX12_few 7 = .ok (.ifCond .eq 13, 3) := by decide +kernel
theorem dX12_few_10 : decode cX12_few 10 = .ok (.iload_n 2, 1) := by decide +kernel
theorem dX12_few_11 : decode cX12_few 11 = .ok (.iconst 0, 1) := by decide +kernel
theorem dX12_few_12 : decode cX12_few 12 = .ok (.bipush 99, 2) := by decide +kernel
theorem dX12_few_14 : decode cX12_few 14 = .ok (.invokestatic 117, 3) := by decide +kernel
theorem dX12_few_17 : decode cX12_few 17 = .ok (.ifCond .ne 7, 3) := by decide +kernel
theorem dX12_few_20 : decode cX12_few 20 = .ok (.ldc2_w 476, 3) := by decide +kernel
theorem dX12_few_23 : decode cX12_few 23 = .ok (.lreturn, 1) := by decide +kernel
theorem dX12_few_24 : decode cX12_few 24 = .ok (.iconst 0, 1) := by decide +kernel
theorem dX12_few_25 : decode cX12_few 25 = .ok (.istore_n 3, 1) := by decide +kernel
theorem dX12_few_26 : decode cX12_few 26 = .ok (.iload_n 3, 1) := by decide +kernel
theorem dX12_few_27 : decode cX12_few 27 = .ok (.bipush 20, 2) := by decide +kernel
theorem dX12_few_29 : decode cX12_few 29 = .ok (.if_icmp .gt 26, 3) := by decide +kernel
theorem dX12_few_32 : decode cX12_few 32 = .ok (.aload_n 0, 1) := by decide +kernel
theorem dX12_few_33 : decode cX12_few 33 = .ok (.getfield 101, 3) := by decide +kernel
theorem dX12_few_36 : decode cX12_few 36 = .ok (.iload_n 3, 1) := by decide +kernel
theorem dX12_few_37 : decode cX12_few 37 = .ok (.iload_n 3, 1) := by decide +kernel
theorem dX12_few_38 : decode cX12_few 38 = .ok (.ifCond .ne 9, 3) := by decide +kernel
theorem dX12_few_41 : decode cX12_few 41 = .ok (.ldc2_w 478, 3) := by decide +kernel
theorem dX12_few_44 : decode cX12_few 44 = .ok (.goto 4, 3) := by decide +kernel
theorem dX12_few_47 : decode cX12_few 47 = .ok (.lconst 0, 1) := by decide +kernel
theorem dX12_few_48 : decode cX12_few 48 = .ok (.lastore, 1) := by decide +kernel
theorem dX12_few_49 : decode cX12_few 49 = .ok (.iinc 3 1, 3) := by decide +kernel
theorem dX12_few_52 : decode cX12_few 52 = .ok (.goto (-26), 3) := by decide +kernel
theorem dX12_few_55 : decode cX12_few 55 = .ok (.iconst 0, 1) := by decide +kernel
theorem dX12_few_56 : decode cX12_few 56 = .ok (.istore_n 3, 1) := by decide +kernel
theorem dX12_few_57 : decode cX12_few 57 = .ok (.iload_n 3, 1) := by decide +kernel
theorem dX12_few_58 : decode cX12_few 58 = .ok (.iload_n 2, 1) := by decide +kernel
theorem dX12_few_59 : decode cX12_few 59 = .ok (.if_icmp .ge 87, 3) := by decide +kernel
theorem dX12_few_62 : decode cX12_few 62 = .ok (.iload_n 1, 1) := by decide +kernel
theorem dX12_few_63 : decode cX12_few 63 = .ok (.iconst 1, 1) := by decide +kernel
theorem dX12_few_64 : decode cX12_few 64 = .ok (.isub, 1) := by decide +kernel
theorem dX12_few_65 : decode cX12_few 65 = .ok (.istore 4, 2) := by decide +kernel
theorem dX12_few_67 : decode cX12_few 67 = .ok (.iload 4, 2) := by decide +kernel
theorem dX12_few_69 : decode cX12_few 69 = .ok (.ifCond .lt 71, 3) := by decide +kernel
theorem dX12_few_72 : decode cX12_few 72 = .ok (.aload_n 0, 1) := by decide +kernel
theorem dX12_few_73 : decode cX12_few 73 = .ok (.getfield 101, 3) := by decide +kernel
theorem dX12_few_76 : decode cX12_few 76 = .ok (.iload 4, 2) := by decide +kernel
theorem dX12_few_78 : decode cX12_few 78 = .ok (.iconst 1, 1) := by decide +kernel
theorem dX12_few_79 : decode cX12_few 79 = .ok (.iadd, 1) := by decide +kernel
theorem dX12_few_80 : decode cX12_few 80 = .ok (.dup2, 1) := by decide +kernel
theorem dX12_few_81 : decode cX12_few 81 = .ok (.laload, 1) := by decide +kernel
theorem dX12_few_82 : decode cX12_few 82 = .ok (.aload_n 0, 1) := by decide +kernel
theorem dX12_few_83 : decode cX12_few 83 = .ok (.getfield 101, 3) := by decide +kernel
theorem dX12_few_86 : decode cX12_few 86 = .ok (.iload 4, 2) := by decide +kernel
theorem dX12_few_88 : decode cX12_few 88 = .ok (.laload, 1) := by decide +kernel
theorem dX12_few_89 : decode cX12_few 89 = .ok (.aload_n 0, 1) := by decide +kernel
theorem dX12_few_90 : decode cX12_few 90 = .ok (.getfield 24, 3) := by decide +kernel
theorem dX12_few_93 : decode cX12_few 93 = .ok (.bipush 101, 2) := by decide +kernel
theorem dX12_few_95 : decode cX12_few 95 = .ok (.iaload, 1) := by decide +kernel
theorem dX12_few_96 : decode cX12_few 96 = .ok (.i2l, 1) := by decide +kernel
theorem dX12_few_97 : decode cX12_few 97 = .ok (.lmul, 1) := by decide +kernel
theorem dX12_few_98 : decode cX12_few 98 = .ok (.ldc2_w 480, 3) := by decide +kernel
theorem dX12_few_101 : decode cX12_few 101 = .ok (.ldiv, 1) := by decide +kernel
theorem dX12_few_102 : decode cX12_few 102 = .ok (.ladd, 1) := by decide +kernel
theorem dX12_few_103 : decode cX12_few 103 = .ok (.lastore, 1) := by decide +kernel
theorem dX12_few_104 : decode cX12_few 104 = .ok (.aload_n 0, 1) := by decide +kernel
theorem dX12_few_105 : decode cX12_few 105 = .ok (.getfield 101, 3) := by decide +kernel
theorem dX12_few_108 : decode cX12_few 108 = .ok (.iload 4, 2) := by decide +kernel
theorem dX12_few_110 : decode cX12_few 110 = .ok (.aload_n 0, 1) := by decide +kernel
theorem dX12_few_111 : decode cX12_few 111 = .ok (.getfield 101, 3) := by decide +kernel
theorem dX12_few_114 : decode cX12_few 114 = .ok (.iload 4, 2) := by decide +kernel
theorem dX12_few_116 : decode cX12_few 116 = .ok (.laload, 1) := by decide +kernel
theorem dX12_few_117 : decode cX12_few 117 = .ok (.bipush 10, 2) := by decide +kernel
theorem dX12_few_119 : decode cX12_few 119 = .ok (.aload_n 0, 1) := by decide +kernel
theorem dX12_few_120 : decode cX12_few 120 = .ok (.getfield 24, 3) := by decide +kernel
theorem dX12_few_123 : decode cX12_few 123 = .ok (.bipush 101, 2) := by decide +kernel
theorem dX12_few_125 : decode cX12_few 125 = .ok (.iaload, 1) := by decide +kernel
theorem dX12_few_126 : decode cX12_few 126 = .ok (.isub, 1) := by decide +kernel
theorem dX12_few_127 : decode cX12_few 127 = .ok (.i2l, 1) := by decide +kernel
theorem dX12_few_128 : decode cX12_few 128 = .ok (.lmul, 1) := by decide +kernel
theorem dX12_few_129 : decode cX12_few 129 = .ok (.ldc2_w 480, 3) := by decide +kernel
theorem dX12_few_132 : decode cX12_few 132 = .ok (.ldiv, 1) := by decide +kernel
theorem dX12_few_133 : decode cX12_few 133 = .ok (.lastore, 1) := by decide +kernel
theorem dX12_few_134 : decode cX12_few 134 = .ok (.iinc 4 (-1), 3) := by decide +kernel
theorem dX12_few_137 : decode cX12_few 137 = .ok (.goto (-70), 3) := by decide +kernel
theorem dX12_few_140 : decode cX12_few 140 = .ok (.iinc 3 1, 3) := by decide +kernel
theorem dX12_few_143 : decode cX12_few 143 = .ok (.goto (-86), 3) := by decide +kernel
theorem dX12_few_146 : decode cX12_few 146 = .ok (.lconst 0, 1) := by decide +kernel
theorem dX12_few_147 : decode cX12_few 147 = .ok (.lstore_n 3, 1) := by decide +kernel
theorem dX12_few_148 : decode cX12_few 148 = .ok (.iconst 0, 1) := by decide +kernel
theorem dX12_few_149 : decode cX12_few 149 = .ok (.istore 5, 2) := by decide +kernel
theorem dX12_few_151 : decode cX12_few 151 = .ok (.iload 5, 2) := by decide +kernel
theorem dX12_few_153 : decode cX12_few 153 = .ok (.iload_n 1, 1) := by decide +kernel
theorem dX12_few_154 : decode cX12_few 154 = .ok (.if_icmp .ge 19, 3) := by decide +kernel
theorem dX12_few_157 : decode cX12_few 157 = .ok (.lload_n 3, 1) := by decide +kernel
theorem dX12_few_158 : decode cX12_few 158 = .ok (.aload_n 0, 1) := by decide +kernel
theorem dX12_few_159 : decode cX12_few 159 = .ok (.getfield 101, 3) := by decide +kernel
theorem dX12_few_162 : decode cX12_few 162 = .ok (.iload 5, 2) := by decide +kernel
theorem dX12_few_164 : decode cX12_few 164 = .ok (.laload, 1) := by decide +kernel
theorem dX12_few_165 : decode cX12_few 165 = .ok (.ladd, 1) := by decide +kernel
theorem dX12_few_166 : decode cX12_few 166 = .ok (.lstore_n 3, 1) := by decide +kernel
theorem dX12_few_167 : decode cX12_few 167 = .ok (.iinc 5 1, 3) := by decide +kernel
theorem dX12_few_170 : decode cX12_few 170 = .ok (.goto (-19), 3) := by decide +kernel
theorem dX12_few_173 : decode cX12_few 173 = .ok (.lload_n 3, 1) := by decide +kernel
theorem dX12_few_174 : decode cX12_few 174 = .ok (.lreturn, 1) := by decide +kernel
theorem dX12_stopped_0 : decode cX12_stopped 0 = .ok (.aload_n 0, 1) := by decide +kernel
theorem dX12_stopped_1 : decode cX12_stopped 1 = .ok (.getfield 105, 3) := by decide +kernel
theorem dX12_stopped_4 : decode cX12_stopped 4 = .ok (.ireturn, 1) := by decide +kernel
theorem dX12_orders_0 : decode cX12_orders 0 = .ok (.aload_n 0, 1) := by decide +kernel
theorem dX12_orders_1 : decode cX12_orders 1 = .ok (.iconst (-1), 1) := by decide +kernel
theorem dX12_orders_2 : decode cX12_orders 2 = .ok (.putfield 105, 3) := by decide +kernel
theorem dX12_orders_5 : decode cX12_orders 5 = .ok (.aload_n 0, 1) := by decide +kernel
theorem dX12_orders_6 : decode cX12_orders 6 = .ok (.iconst 1, 1) := by decide +kernel
theorem dX12_orders_7 : decode cX12_orders 7 = .ok (.invokevirtual 269, 3) := by decide +kernel
theorem dX12_orders_10 : decode cX12_orders 10 = .ok (.ifCond .ne 10, 3) := by decide +kernel
theorem dX12_orders_13 : decode cX12_orders 13 = .ok (.aload_n 0, 1) := by decide +kernel
theorem dX12_orders_14 : decode cX12_orders 14 = .ok (.bipush (-6), 2) := by decide +kernel
theorem dX12_orders_16 : decode cX12_orders 16 = .ok (.invokevirtual 121, 3) := by decide +kernel
theorem dX12_orders_19 : decode cX12_orders 19 = .ok (.ireturn, 1) := by decide +kernel
theorem dX12_orders_20 : decode cX12_orders 20 = .ok (.aload_n 0, 1) := by decide +kernel
theorem dX12_orders_21 : decode cX12_orders 21 = .ok (.iconst 1, 1) := by decide +kernel
theorem dX12_orders_22 : decode cX12_orders 22 = .ok (.invokevirtual 426, 3) := by decide +kernel
theorem dX12_orders_25 : decode cX12_orders 25 = .ok (.iconst 0, 1) := by decide +kernel
theorem dX12_orders_26 : decode cX12_orders 26 = .ok (.istore_n 1, 1) := by decide +kernel
theorem dX12_orders_27 : decode cX12_orders 27 = .ok (.iload_n 1, 1) := by decide +kernel
theorem dX12_orders_28 : decode cX12_orders 28 = .ok (.sipush 128, 3) := by decide +kernel
theorem dX12_orders_31 : decode cX12_orders 31 = .ok (.if_icmp .ge 21, 3) := by decide +kernel
theorem dX12_orders_34 : decode cX12_orders 34 = .ok (.aload_n 0, 1) := by decide +kernel
theorem dX12_orders_35 : decode cX12_orders 35 = .ok (.getfield 65, 3) := by decide +kernel
theorem dX12_orders_38 : decode cX12_orders 38 = .ok (.iload_n 1, 1) := by decide +kernel
theorem dX12_orders_39 : decode cX12_orders 39 = .ok (.aload_n 0, 1) := by decide +kernel
theorem dX12_orders_40 : decode cX12_orders 40 = .ok (.getfield 62, 3) := by decide +kernel
theorem dX12_orders_43 : decode cX12_orders 43 = .ok (.iload_n 1, 1) := by decide +kernel
theorem dX12_orders_44 : decode cX12_orders 44 = .ok (.iaload, 1) := by decide +kernel
theorem dX12_orders_45 : decode cX12_orders 45 = .ok (.iastore, 1) := by decide +kernel
theorem dX12_orders_46 : decode cX12_orders 46 = .ok (.iinc 1 1, 3) := by decide +kernel
theorem dX12_orders_49 : decode cX12_orders 49 = .ok (.goto (-22), 3) := by decide +kernel
theorem dX12_orders_52 : decode cX12_orders 52 = .ok (.aload_n 0, 1) := by decide +kernel
theorem dX12_orders_53 : decode cX12_orders 53 = .ok (.getfield 11, 3) := by decide +kernel
theorem dX12_orders_56 : decode cX12_orders 56 = .ok (.istore_n 1, 1) := by decide +kernel
theorem dX12_orders_57 : decode cX12_orders 57 = .ok (.aload_n 0, 1) := by decide +kernel
theorem dX12_orders_58 : decode cX12_orders 58 = .ok (.bipush 6, 2) := by decide +kernel
theorem dX12_orders_60 : decode cX12_orders 60 = .ok (.invokevirtual 273, 3) := by decide +kernel
theorem dX12_orders_63 : decode cX12_orders 63 = .ok (.aload_n 0, 1) := by decide +kernel
theorem dX12_orders_64 : decode cX12_orders 64 = .ok (.iconst 0, 1) := by decide +kernel
theorem dX12_orders_65 : decode cX12_orders 65 = .ok (.putfield 318, 3) := by decide +kernel
theorem dX12_orders_68 : decode cX12_orders 68 = .ok (.aload_n 0, 1) := by decide +kernel
theorem dX12_orders_69 : decode cX12_orders 69 = .ok (.iconst (-1), 1) := by decide +kernel
theorem dX12_orders_70 : decode cX12_orders 70 = .ok (.putfield 321, 3) := by decide +kernel
theorem dX12_orders_73 : decode cX12_orders 73 = .ok (.aload_n 0, 1) := by decide +kernel
theorem dX12_orders_74 : decode cX12_orders 74 = .ok (.sipush 2400, 3) := by decide +kernel
theorem dX12_orders_77 : decode cX12_orders 77 = .ok (.putfield 482, 3) := by decide +kernel
theorem dX12_orders_80 : decode cX12_orders 80 = .ok (.aload_n 0, 1) := by decide +kernel
theorem dX12_orders_81 : decode cX12_orders 81 = .ok (.getfield 482, 3) := by decide +kernel
theorem dX12_orders_84 : decode cX12_orders 84 = .ok (.aload_n 0, 1) := by decide +kernel
theorem dX12_orders_85 : decode cX12_orders 85 = .ok (.getfield 24, 3) := by decide +kernel
theorem dX12_orders_88 : decode cX12_orders 88 = .ok (.bipush 115, 2) := by decide +kernel
theorem dX12_orders_90 : decode cX12_orders 90 = .ok (.iaload, 1) := by decide +kernel
theorem dX12_orders_91 : decode cX12_orders 91 = .ok (.iadd, 1) := by decide +kernel
theorem dX12_orders_92 : decode cX12_orders 92 = .ok (.istore_n 2, 1) := by decide +kernel
theorem dX12_orders_93 : decode cX12_orders 93 = .ok (.iconst 0, 1) := by decide +kernel
theorem dX12_orders_94 : decode cX12_orders 94 = .ok (.istore_n 3, 1) := by decide +kernel
theorem dX12_orders_95 : decode cX12_orders 95 = .ok (.aload_n 0, 1) := by decide +kernel
theorem dX12_orders_96 : decode cX12_orders 96 = .ok (.getfield 482, 3) := by decide +kernel
theorem dX12_orders_99 : decode cX12_orders 99 = .ok (.iload_n 2, 1) := by decide +kernel
theorem dX12_orders_100 : decode cX12_orders 100 = .ok (.if_icmp .ge 73, 3) := by decide +kernel
theorem dX12_orders_103 : decode cX12_orders 103 = .ok (.aload_n 0, 1) := by decide +kernel
theorem dX12_orders_104 : decode cX12_orders 104 = .ok (.iload_n 2, 1) := by decide +kernel
theorem dX12_orders_105 : decode cX12_orders 105 = .ok (.invokevirtual 485, 3) := by decide +kernel
theorem dX12_orders_108 : decode cX12_orders 108 = .ok (.ifCond .eq 6, 3) := by decide +kernel
theorem dX12_orders_111 : decode cX12_orders 111 = .ok (.goto 56, 3) := by decide +kernel
theorem dX12_orders_114 : decode cX12_orders 114 = .ok (.aload_n 0, 1) := by decide +kernel
theorem dX12_orders_115 : decode cX12_orders 115 = .ok (.iconst 1, 1) := by decide +kernel
theorem dX12_orders_116 : decode cX12_orders 116 = .ok (.invokevirtual 429, 3) := by decide +kernel
theorem dX12_orders_119 : decode cX12_orders 119 = .ok (.iconst 0, 1) := by decide +kernel
theorem dX12_orders_120 : decode cX12_orders 120 = .ok (.istore 4, 2) := by decide +kernel
theorem dX12_orders_122 : decode cX12_orders 122 = .ok (.iload 4, 2) := by decide +kernel
theorem dX12_orders_124 : decode cX12_orders 124 = .ok (.sipush 128, 3) := by decide +kernel
theorem dX12_orders_127 : decode cX12_orders 127 = .ok (.if_icmp .ge 23, 3) := by decide +kernel
theorem dX12_orders_130 : decode cX12_orders 130 = .ok (.aload_n 0, 1) := by decide +kernel
theorem dX12_orders_131 : decode cX12_orders 131 = .ok (.getfield 62, 3) := by decide +kernel
theorem dX12_orders_134 : decode cX12_orders 134 = .ok (.iload 4, 2) := by decide +kernel
theorem dX12_orders_136 : decode cX12_orders 136 = .ok (.aload_n 0, 1) := by decide +kernel
theorem dX12_orders_137 : decode cX12_orders 137 = .ok (.getfield 65, 3) := by decide +kernel
theorem dX12_orders_140 : decode cX12_orders 140 = .ok (.iload 4, 2) := by decide +kernel
theorem dX12_orders_142 : decode cX12_orders 142 = .ok (.iaload, 1) := by decide +kernel
theorem dX12_orders_143 : decode cX12_orders 143 = .ok (.iastore, 1) := by decide +kernel
theorem dX12_orders_144 : decode cX12_orders 144 = .ok (.iinc 4 1, 3) := by decide +kernel
theorem dX12_orders_147 : decode cX12_orders 147 = .ok (.goto (-25), 3) := by decide +kernel
theorem dX12_orders_150 : decode cX12_orders 150 = .ok (.aload_n 0, 1) := by decide +kernel
theorem dX12_orders_151 : decode cX12_orders 151 = .ok (.iload_n 1, 1) := by decide +kernel
theorem dX12_orders_152 : decode cX12_orders 152 = .ok (.putfield 11, 3) := by decide +kernel
theorem dX12_orders_155 : decode cX12_orders 155 = .ok (.aload_n 0, 1) := by decide +kernel
theorem dX12_orders_156 : decode cX12_orders 156 = .ok (.iload_n 3, 1) := by decide +kernel
theorem dX12_orders_157 : decode cX12_orders 157 = .ok (.putfield 105, 3) := by decide +kernel
theorem dX12_orders_160 : decode cX12_orders 160 = .ok (.aload_n 0, 1) := by decide +kernel
theorem dX12_orders_161 : decode cX12_orders 161 = .ok (.bipush (-3), 2) := by decide +kernel
theorem dX12_orders_163 : decode cX12_orders 163 = .ok (.invokevirtual 121, 3) := by decide +kernel
theorem dX12_orders_166 : decode cX12_orders 166 = .ok (.ireturn, 1) := by decide +kernel
theorem dX12_orders_167 : decode cX12_orders 167 = .ok (.iinc 3 1, 3) := by decide +kernel
theorem dX12_orders_170 : decode cX12_orders 170 = .ok (.goto (-75), 3) := by decide +kernel
theorem dX12_orders_173 : decode cX12_orders 173 = .ok (.aload_n 0, 1) := by decide +kernel
theorem dX12_orders_174 : decode cX12_orders 174 = .ok (.aload_n 0, 1) := by decide +kernel
theorem dX12_orders_175 : decode cX12_orders 175 = .ok (.getfield 318, 3) := by decide +kernel
theorem dX12_orders_178 : decode cX12_orders 178 = .ok (.invokevirtual 14, 3) := by decide +kernel
theorem dX12_orders_181 : decode cX12_orders 181 = .ok (.ireturn, 1) := by decide +kernel
theorem dX12_goesAlong_0 : decode cX12_goesAlong 0 = .ok (.aload_n 0, 1) := by decide +kernel
theorem dX12_goesAlong_1 : decode cX12_goesAlong 1 = .ok (.aload_n 0, 1) := by decide +kernel
theorem dX12_goesAlong_2 : decode cX12_goesAlong 2 = .ok (.invokevirtual 408, 3) := by decide +kernel
theorem dX12_goesAlong_5 : decode cX12_goesAlong 5 = .ok (.putfield 324, 3) := by decide +kernel
theorem dX12_goesAlong_8 : decode cX12_goesAlong 8 = .ok (.aload_n 0, 1) := by decide +kernel
theorem dX12_goesAlong_9 : decode cX12_goesAlong 9 = .ok (.iconst 1, 1) := by decide +kernel
theorem dX12_goesAlong_10 : decode cX12_goesAlong 10 = .ok (.putfield 312, 3) := by decide +kernel
theorem dX12_goesAlong_13 : decode cX12_goesAlong 13 = .ok (.aload_n 0, 1) := by decide +kernel
theorem dX12_goesAlong_14 : decode cX12_goesAlong 14 = .ok (.iload_n 1, 1) := by decide +kernel
theorem dX12_goesAlong_15 : decode cX12_goesAlong 15 = .ok (.putfield 279, 3) := by decide +kernel
theorem dX12_goesAlong_18 : decode cX12_goesAlong 18 = .ok (.aload_n 0, 1) := by decide +kernel
theorem dX12_goesAlong_19 : decode cX12_goesAlong 19 = .ok (.aload_n 0, 1) := by decide +kernel
theorem dX12_goesAlong_20 : decode cX12_goesAlong 20 = .ok (.getfield 482, 3) := by decide +kernel
theorem dX12_goesAlong_23 : decode cX12_goesAlong 23 = .ok (.putfield 282, 3) := by decide +kernel
theorem dX12_goesAlong_26 : decode cX12_goesAlong 26 = .ok (.aload_n 0, 1) := by decide +kernel
theorem dX12_goesAlong_27 : decode cX12_goesAlong 27 = .ok (.aload_n 0, 1) := by decide +kernel
theorem dX12_goesAlong_28 : decode cX12_goesAlong 28 = .ok (.aload_n 0, 1) := by decide +kernel
theorem dX12_goesAlong_29 : decode cX12_goesAlong 29 = .ok (.getfield 282, 3) := by decide +kernel
theorem dX12_goesAlong_32 : decode cX12_goesAlong 32 = .ok (.invokevirtual 285, 3) := by decide +kernel
theorem dX12_goesAlong_35 : decode cX12_goesAlong 35 = .ok (.putfield 488, 3) := by decide +kernel
theorem dX12_goesAlong_38 : decode cX12_goesAlong 38 = .ok (.aload_n 0, 1) := by decide +kernel
theorem dX12_goesAlong_39 : decode cX12_goesAlong 39 = .ok (.dup, 1) := by decide +kernel
theorem dX12_goesAlong_40 : decode cX12_goesAlong 40 = .ok (.getfield 282, 3) := by decide +kernel
theorem dX12_goesAlong_43 : decode cX12_goesAlong 43 = .ok (.iconst 1, 1) := by decide +kernel
theorem dX12_goesAlong_44 : decode cX12_goesAlong 44 = .ok (.iadd, 1) := by decide +kernel
theorem dX12_goesAlong_45 : decode cX12_goesAlong 45 = .ok (.putfield 282, 3) := by decide +kernel
theorem dX12_goesAlong_48 : decode cX12_goesAlong 48 = .ok (.aload_n 0, 1) := by decide +kernel
theorem dX12_goesAlong_49 : decode cX12_goesAlong 49 = .ok (.iconst 1, 1) := by decide +kernel
theorem dX12_goesAlong_50 : decode cX12_goesAlong 50 = .ok (.putfield 491, 3) := by decide +kernel
theorem dX12_goesAlong_53 : decode cX12_goesAlong 53 = .ok (.aload_n 0, 1) := by decide +kernel
theorem dX12_goesAlong_54 : decode cX12_goesAlong 54 = .ok (.getfield 488, 3) := by decide +kernel
theorem dX12_goesAlong_57 : decode cX12_goesAlong 57 = .ok (.bipush 28, 2) := by decide +kernel
theorem dX12_goesAlong_59 : decode cX12_goesAlong 59 = .ok (.if_icmp .ne 7, 3) := by decide +kernel
theorem dX12_goesAlong_62 : decode cX12_goesAlong 62 = .ok (.iconst 0, 1) := by decide +kernel
theorem dX12_goesAlong_63 : decode cX12_goesAlong 63 = .ok (.goto 17, 3) := by decide +kernel
theorem dX12_goesAlong_66 : decode cX12_goesAlong 66 = .ok (.aload_n 0, 1) := by decide +kernel
theorem dX12_goesAlong_67 : decode cX12_goesAlong 67 = .ok (.getfield 488, 3) := by decide +kernel
theorem dX12_goesAlong_70 : decode cX12_goesAlong 70 = .ok (.bipush 27, 2) := by decide +kernel
theorem dX12_goesAlong_72 : decode cX12_goesAlong 72 = .ok (.if_icmp .ne 7, 3) := by decide +kernel
theorem dX12_goesAlong_75 : decode cX12_goesAlong 75 = .ok (.iconst 1, 1) := by decide +kernel
theorem dX12_goesAlong_76 : decode cX12_goesAlong 76 = .ok (.goto 4, 3) := by decide +kernel
theorem dX12_goesAlong_79 : decode cX12_goesAlong 79 = .ok (.iconst 2, 1) := by decide +kernel
theorem dX12_goesAlong_80 : decode cX12_goesAlong 80 = .ok (.istore_n 3, 1) := by decide +kernel
theorem dX12_goesAlong_81 : decode cX12_goesAlong 81 = .ok (.iconst 0, 1) := by decide +kernel
theorem dX12_goesAlong_82 : decode cX12_goesAlong 82 = .ok (.istore 4, 2) := by decide +kernel
theorem dX12_goesAlong_84 : decode cX12_goesAlong 84 = .ok (.iload 4, 2) := by decide +kernel
theorem dX12_goesAlong_86 : decode cX12_goesAlong 86 = .ok (.iload_n 3, 1) := by decide +kernel
theorem dX12_goesAlong_87 : decode cX12_goesAlong 87 = .ok (.if_icmp .ge 64, 3) := by decide +kernel
theorem dX12_goesAlong_90 : decode cX12_goesAlong 90 = .ok (.iload 4, 2) := by decide +kernel
theorem dX12_goesAlong_92 : decode cX12_goesAlong 92 = .ok (.ifCond .le 13, 3) := by decide +kernel
theorem dX12_goesAlong_95 : decode cX12_goesAlong 95 = .ok (.aload_n 0, 1) := by decide +kernel
theorem dX12_goesAlong_96 : decode cX12_goesAlong 96 = .ok (.dup, 1) := by decide +kernel
theorem dX12_goesAlong_97 : decode cX12_goesAlong 97 = .ok (.getfield 282, 3) := by decide +kernel
theorem dX12_goesAlong_100 : decode cX12_goesAlong 100 = .ok (.iconst 1, 1) := by decide +kernel
theorem dX12_goesAlong_101 : decode cX12_goesAlong 101 = .ok (.iadd, 1) := by decide +kernel
theorem dX12_goesAlong_102 : decode cX12_goesAlong 102 = .ok (.putfield 282, 3) := by decide +kernel
theorem dX12_goesAlong_105 : decode cX12_goesAlong 105 = .ok (.aload_n 0, 1) := by decide +kernel
theorem dX12_goesAlong_106 : decode cX12_goesAlong 106 = .ok (.iconst 0, 1) := by decide +kernel
theorem dX12_goesAlong_107 : decode cX12_goesAlong 107 = .ok (.putfield 292, 3) := by decide +kernel
theorem dX12_goesAlong_110 : decode cX12_goesAlong 110 = .ok (.aload_n 0, 1) := by decide +kernel
theorem dX12_goesAlong_111 : decode cX12_goesAlong 111 = .ok (.getfield 108, 3) := by decide +kernel
theorem dX12_goesAlong_114 : decode cX12_goesAlong 114 = .ok (.iload 4, 2) := by decide +kernel
theorem dX12_goesAlong_116 : decode cX12_goesAlong 116 = .ok (.aload_n 0, 1) := by decide +kernel
theorem dX12_goesAlong_117 : decode cX12_goesAlong 117 = .ok (.iload_n 2, 1) := by decide +kernel
theorem dX12_goesAlong_118 : decode cX12_goesAlong 118 = .ok (.invokevirtual 309, 3) := by decide +kernel
theorem dX12_goesAlong_121 : decode cX12_goesAlong 121 = .ok (.lastore, 1) := by decide +kernel
theorem dX12_goesAlong_122 : decode cX12_goesAlong 122 = .ok (.aload_n 0, 1) := by decide +kernel
theorem dX12_goesAlong_123 : decode cX12_goesAlong 123 = .ok (.aload_n 0, 1) := by decide +kernel
theorem dX12_goesAlong_124 : decode cX12_goesAlong 124 = .ok (.getfield 491, 3) := by decide +kernel
theorem dX12_goesAlong_127 : decode cX12_goesAlong 127 = .ok (.ifCond .eq 14, 3) := by decide +kernel
theorem dX12_goesAlong_130 : decode cX12_goesAlong 130 = .ok (.aload_n 0, 1) := by decide +kernel
theorem dX12_goesAlong_131 : decode cX12_goesAlong 131 = .ok (.getfield 292, 3) := by decide +kernel
theorem dX12_goesAlong_134 : decode cX12_goesAlong 134 = .ok (.ifCond .ne 7, 3) := by decide +kernel
theorem dX12_goesAlong_137 : decode cX12_goesAlong 137 = .ok (.iconst 1, 1) := by decide +kernel
theorem dX12_goesAlong_138 : decode cX12_goesAlong 138 = .ok (.goto 4, 3) := by decide +kernel
theorem dX12_goesAlong_141 : decode cX12_goesAlong 141 = .ok (.iconst 0, 1) := by decide +kernel
theorem dX12_goesAlong_142 : decode cX12_goesAlong 142 = .ok (.putfield 491, 3) := by decide +kernel
theorem dX12_goesAlong_145 : decode cX12_goesAlong 145 = .ok (.iinc 4 1, 3) := by decide +kernel
theorem dX12_goesAlong_148 : decode cX12_goesAlong 148 = .ok (.goto (-64), 3) := by decide +kernel
theorem dX12_goesAlong_151 : decode cX12_goesAlong 151 = .ok (.aload_n 0, 1) := by decide +kernel
theorem dX12_goesAlong_152 : decode cX12_goesAlong 152 = .ok (.iconst 1, 1) := by decide +kernel
theorem dX12_goesAlong_153 : decode cX12_goesAlong 153 = .ok (.putfield 494, 3) := by decide +kernel
theorem dX12_goesAlong_156 : decode cX12_goesAlong 156 = .ok (.aload_n 0, 1) := by decide +kernel
theorem dX12_goesAlong_157 : decode cX12_goesAlong 157 = .ok (.bipush 29, 2) := by decide +kernel
theorem dX12_goesAlong_159 : decode cX12_goesAlong 159 = .ok (.invokevirtual 306, 3) := by decide +kernel
theorem dX12_goesAlong_162 : decode cX12_goesAlong 162 = .ok (.ifCond .eq 30, 3) := by decide +kernel
theorem dX12_goesAlong_165 : decode cX12_goesAlong 165 = .ok (.aload_n 0, 1) := by decide +kernel
theorem dX12_goesAlong_166 : decode cX12_goesAlong 166 = .ok (.aload_n 0, 1) := by decide +kernel
theorem dX12_goesAlong_167 : decode cX12_goesAlong 167 = .ok (.getfield 24, 3) := by decide +kernel
theorem dX12_goesAlong_170 : decode cX12_goesAlong 170 = .ok (.sipush 2916, 3) := by decide +kernel
theorem dX12_goesAlong_173 : decode cX12_goesAlong 173 = .ok (.aload_n 0, 1) := by decide +kernel
theorem dX12_goesAlong_174 : decode cX12_goesAlong 174 = .ok (.getfield 282, 3) := by decide +kernel
theorem dX12_goesAlong_177 : decode cX12_goesAlong 177 = .ok (.iadd, 1) := by decide +kernel
theorem dX12_goesAlong_178 : decode cX12_goesAlong 178 = .ok (.iaload, 1) := by decide +kernel
theorem dX12_goesAlong_179 : decode cX12_goesAlong 179 = .ok (.putfield 494, 3) := by decide +kernel
theorem dX12_goesAlong_182 : decode cX12_goesAlong 182 = .ok (.aload_n 0, 1) := by decide +kernel
theorem dX12_goesAlong_183 : decode cX12_goesAlong 183 = .ok (.dup, 1) := by decide +kernel
theorem dX12_goesAlong_184 : decode cX12_goesAlong 184 = .ok (.getfield 282, 3) := by decide +kernel
theorem dX12_goesAlong_187 : decode cX12_goesAlong 187 = .ok (.iconst 1, 1) := by decide +kernel
theorem dX12_goesAlong_188 : decode cX12_goesAlong 188 = .ok (.iadd, 1) := by decide +kernel
theorem dX12_goesAlong_189 : decode cX12_goesAlong 189 = .ok (.putfield 282, 3) := by decide +kernel
theorem dX12_goesAlong_192 : decode cX12_goesAlong 192 = .ok (.aload_n 0, 1) := by decide +kernel
theorem dX12_goesAlong_193 : decode cX12_goesAlong 193 = .ok (.iconst 0, 1) := by decide +kernel
theorem dX12_goesAlong_194 : decode cX12_goesAlong 194 = .ok (.putfield 292, 3) := by decide +kernel
theorem dX12_goesAlong_197 : decode cX12_goesAlong 197 = .ok (.aload_n 0, 1) := by decide +kernel
theorem dX12_goesAlong_198 : decode cX12_goesAlong 198 = .ok (.aload_n 0, 1) := by decide +kernel
theorem dX12_goesAlong_199 : decode cX12_goesAlong 199 = .ok (.iconst 5, 1) := by decide +kernel
theorem dX12_goesAlong_200 : decode cX12_goesAlong 200 = .ok (.invokevirtual 306, 3) := by decide +kernel
theorem dX12_goesAlong_203 : decode cX12_goesAlong 203 = .ok (.ifCond .eq 11, 3) := by decide +kernel
theorem dX12_goesAlong_206 : decode cX12_goesAlong 206 = .ok (.aload_n 0, 1) := by decide +kernel
theorem dX12_goesAlong_207 : decode cX12_goesAlong 207 = .ok (.iload_n 2, 1) := by decide +kernel
theorem dX12_goesAlong_208 : decode cX12_goesAlong 208 = .ok (.invokevirtual 340, 3) := by decide +kernel
theorem dX12_goesAlong_211 : decode cX12_goesAlong 211 = .ok (.ifCond .eq 7, 3) := by decide +kernel
theorem dX12_goesAlong_214 : decode cX12_goesAlong 214 = .ok (.iconst 1, 1) := by decide +kernel
theorem dX12_goesAlong_215 : decode cX12_goesAlong 215 = .ok (.goto 4, 3) := by decide +kernel
theorem dX12_goesAlong_218 : decode cX12_goesAlong 218 = .ok (.iconst 0, 1) := by decide +kernel
theorem dX12_goesAlong_219 : decode cX12_goesAlong 219 = .ok (.putfield 497, 3) := by decide +kernel
theorem dX12_goesAlong_222 : decode cX12_goesAlong 222 = .ok (.aload_n 0, 1) := by decide +kernel
theorem dX12_goesAlong_223 : decode cX12_goesAlong 223 = .ok (.aload_n 0, 1) := by decide +kernel
theorem dX12_goesAlong_224 : decode cX12_goesAlong 224 = .ok (.getfield 497, 3) := by decide +kernel
theorem dX12_goesAlong_227 : decode cX12_goesAlong 227 = .ok (.ifCond .eq 14, 3) := by decide +kernel
theorem dX12_goesAlong_230 : decode cX12_goesAlong 230 = .ok (.aload_n 0, 1) := by decide +kernel
theorem dX12_goesAlong_231 : decode cX12_goesAlong 231 = .ok (.getfield 292, 3) := by decide +kernel
theorem dX12_goesAlong_234 : decode cX12_goesAlong 234 = .ok (.ifCond .ne 7, 3) := by decide +kernel
theorem dX12_goesAlong_237 : decode cX12_goesAlong 237 = .ok (.iconst 1, 1) := by decide +kernel
theorem dX12_goesAlong_238 : decode cX12_goesAlong 238 = .ok (.goto 4, 3) := by decide +kernel
theorem dX12_goesAlong_241 : decode cX12_goesAlong 241 = .ok (.iconst 0, 1) := by decide +kernel
theorem dX12_goesAlong_242 : decode cX12_goesAlong 242 = .ok (.putfield 497, 3) := by decide +kernel
theorem dX12_goesAlong_245 : decode cX12_goesAlong 245 = .ok (.aload_n 0, 1) := by decide +kernel
theorem dX12_goesAlong_246 : decode cX12_goesAlong 246 = .ok (.dup, 1) := by decide +kernel
theorem dX12_goesAlong_247 : decode cX12_goesAlong 247 = .ok (.getfield 282, 3) := by decide +kernel
theorem dX12_goesAlong_250 : decode cX12_goesAlong 250 = .ok (.iconst 1, 1) := by decide +kernel
theorem dX12_goesAlong_251 : decode cX12_goesAlong 251 = .ok (.iadd, 1) := by decide +kernel
theorem dX12_goesAlong_252 : decode cX12_goesAlong 252 = .ok (.putfield 282, 3) := by decide +kernel
theorem dX12_goesAlong_255 : decode cX12_goesAlong 255 = .ok (.return_, 1) := by decide +kernel
theorem dX12_small_0 : decode cX12_small 0 = .ok (.lload_n 0, 1) := by decide +kernel
theorem dX12_small_1 : decode cX12_small 1 = .ok (.lconst 0, 1) := by decide +kernel
theorem dX12_small_2 : decode cX12_small 2 = .ok (.lcmp, 1) := by decide +kernel
theorem dX12_small_3 : decode cX12_small 3 = .ok (.ifCond .lt 11, 3) := by decide +kernel
theorem dX12_small_6 : decode cX12_small 6 = .ok (.lload_n 0, 1) := by decide +kernel
theorem dX12_small_7 : decode cX12_small 7 = .ok (.ldc2_w 500, 3) := by decide +kernel
theorem dX12_small_10 : decode cX12_small 10 = .ok (.lcmp, 1) := by decide +kernel
theorem dX12_small_11 : decode cX12_small 11 = .ok (.ifCond .le 7, 3) := by decide +kernel
theorem dX12_small_14 : decode cX12_small 14 = .ok (.iconst (-1), 1) := by decide +kernel
theorem dX12_small_15 : decode cX12_small 15 = .ok (.goto 5, 3) := by decide +kernel
theorem dX12_small_18 : decode cX12_small 18 = .ok (.lload_n 0, 1) := by decide +kernel
theorem dX12_small_19 : decode cX12_small 19 = .ok (.l2i, 1) := by decide +kernel
theorem dX12_small_20 : decode cX12_small 20 = .ok (.ireturn, 1) := by decide +kernel
theorem dX12_obeys_0 : decode cX12_obeys 0 = .ok (.aload_n 0, 1) := by decide +kernel
theorem dX12_obeys_1 : decode cX12_obeys 1 = .ok (.getfield 108, 3) := by decide +kernel
theorem dX12_obeys_4 : decode cX12_obeys 4 = .ok (.iconst 0, 1) := by decide +kernel
theorem dX12_obeys_5 : decode cX12_obeys 5 = .ok (.laload, 1) := by decide +kernel
theorem dX12_obeys_6 : decode cX12_obeys 6 = .ok (.invokestatic 502, 3) := by decide +kernel
theorem dX12_obeys_9 : decode cX12_obeys 9 = .ok (.istore_n 1, 1) := by decide +kernel
theorem dX12_obeys_10 : decode cX12_obeys 10 = .ok (.aload_n 0, 1) := by decide +kernel
theorem dX12_obeys_11 : decode cX12_obeys 11 = .ok (.getfield 488, 3) := by decide +kernel
theorem dX12_obeys_14 : decode cX12_obeys 14 = .ok (.tableswitch 56 25 28 #[30, 56, 45, 51], 30) := by decide +kernel
theorem dX12_obeys_44 : decode cX12_obeys 44 = .ok (.aload_n 0, 1) := by decide +kernel
theorem dX12_obeys_45 : decode cX12_obeys 45 = .ok (.iload_n 1, 1) := by decide +kernel
theorem dX12_obeys_46 : decode cX12_obeys 46 = .ok (.aload_n 0, 1) := by decide +kernel
theorem dX12_obeys_47 : decode cX12_obeys 47 = .ok (.getfield 108, 3) := by decide +kernel
theorem dX12_obeys_50 : decode cX12_obeys 50 = .ok (.iconst 1, 1) := by decide +kernel
theorem dX12_obeys_51 : decode cX12_obeys 51 = .ok (.laload, 1) := by decide +kernel
theorem dX12_obeys_52 : decode cX12_obeys 52 = .ok (.invokestatic 502, 3) := by decide +kernel
theorem dX12_obeys_55 : decode cX12_obeys 55 = .ok (.invokevirtual 372, 3) := by decide +kernel
theorem dX12_obeys_58 : decode cX12_obeys 58 = .ok (.ireturn, 1) := by decide +kernel
theorem dX12_obeys_59 : decode cX12_obeys 59 = .ok (.aload_n 0, 1) := by decide +kernel
theorem dX12_obeys_60 : decode cX12_obeys 60 = .ok (.iload_n 1, 1) := by decide +kernel
theorem dX12_obeys_61 : decode cX12_obeys 61 = .ok (.invokevirtual 375, 3) := by decide +kernel
theorem dX12_obeys_64 : decode cX12_obeys 64 = .ok (.ireturn, 1) := by decide +kernel
theorem dX12_obeys_65 : decode cX12_obeys 65 = .ok (.aload_n 0, 1) := by decide +kernel
theorem dX12_obeys_66 : decode cX12_obeys 66 = .ok (.invokevirtual 378, 3) := by decide +kernel
theorem dX12_obeys_69 : decode cX12_obeys 69 = .ok (.ireturn, 1) := by decide +kernel
theorem dX12_obeys_70 : decode cX12_obeys 70 = .ok (.aload_n 0, 1) := by decide +kernel
theorem dX12_obeys_71 : decode cX12_obeys 71 = .ok (.iload_n 1, 1) := by decide +kernel
theorem dX12_obeys_72 : decode cX12_obeys 72 = .ok (.aload_n 0, 1) := by decide +kernel
theorem dX12_obeys_73 : decode cX12_obeys 73 = .ok (.getfield 108, 3) := by decide +kernel
theorem dX12_obeys_76 : decode cX12_obeys 76 = .ok (.iconst 1, 1) := by decide +kernel
theorem dX12_obeys_77 : decode cX12_obeys 77 = .ok (.laload, 1) := by decide +kernel
theorem dX12_obeys_78 : decode cX12_obeys 78 = .ok (.invokestatic 502, 3) := by decide +kernel
theorem dX12_obeys_81 : decode cX12_obeys 81 = .ok (.invokevirtual 366, 3) := by decide +kernel
theorem dX12_obeys_84 : decode cX12_obeys 84 = .ok (.istore_n 2, 1) := by decide +kernel
theorem dX12_obeys_85 : decode cX12_obeys 85 = .ok (.aload_n 0, 1) := by decide +kernel
theorem dX12_obeys_86 : decode cX12_obeys 86 = .ok (.iload_n 2, 1) := by decide +kernel
theorem dX12_obeys_87 : decode cX12_obeys 87 = .ok (.ifCond .ge 10, 3) := by decide +kernel
theorem dX12_obeys_90 : decode cX12_obeys 90 = .ok (.aload_n 0, 1) := by decide +kernel
theorem dX12_obeys_91 : decode cX12_obeys 91 = .ok (.getfield 321, 3) := by decide +kernel
theorem dX12_obeys_94 : decode cX12_obeys 94 = .ok (.goto 4, 3) := by decide +kernel
theorem dX12_obeys_97 : decode cX12_obeys 97 = .ok (.iload_n 2, 1) := by decide +kernel
theorem dX12_obeys_98 : decode cX12_obeys 98 = .ok (.putfield 321, 3) := by decide +kernel
theorem dX12_obeys_101 : decode cX12_obeys 101 = .ok (.iload_n 2, 1) := by decide +kernel
theorem dX12_obeys_102 : decode cX12_obeys 102 = .ok (.ireturn, 1) := by decide +kernel
theorem dX12_runs_0 : decode cX12_runs 0 = .ok (.aload_n 0, 1) := by decide +kernel
theorem dX12_runs_1 : decode cX12_runs 1 = .ok (.iload_n 1, 1) := by decide +kernel
theorem dX12_runs_2 : decode cX12_runs 2 = .ok (.iconst 0, 1) := by decide +kernel
theorem dX12_runs_3 : decode cX12_runs 3 = .ok (.invokevirtual 506, 3) := by decide +kernel
theorem dX12_runs_6 : decode cX12_runs 6 = .ok (.aload_n 0, 1) := by decide +kernel
theorem dX12_runs_7 : decode cX12_runs 7 = .ok (.getfield 494, 3) := by decide +kernel
theorem dX12_runs_10 : decode cX12_runs 10 = .ok (.istore_n 2, 1) := by decide +kernel
theorem dX12_runs_11 : decode cX12_runs 11 = .ok (.aload_n 0, 1) := by decide +kernel
theorem dX12_runs_12 : decode cX12_runs 12 = .ok (.getfield 282, 3) := by decide +kernel
theorem dX12_runs_15 : decode cX12_runs 15 = .ok (.istore_n 3, 1) := by decide +kernel
theorem dX12_runs_16 : decode cX12_runs 16 = .ok (.iconst 0, 1) := by decide +kernel
theorem dX12_runs_17 : decode cX12_runs 17 = .ok (.istore 4, 2) := by decide +kernel
theorem dX12_runs_19 : decode cX12_runs 19 = .ok (.iload 4, 2) := by decide +kernel
theorem dX12_runs_21 : decode cX12_runs 21 = .ok (.iload_n 2, 1) := by decide +kernel
theorem dX12_runs_22 : decode cX12_runs 22 = .ok (.if_icmp .ge 51, 3) := by decide +kernel
theorem dX12_runs_25 : decode cX12_runs 25 = .ok (.aload_n 0, 1) := by decide +kernel
theorem dX12_runs_26 : decode cX12_runs 26 = .ok (.iload_n 1, 1) := by decide +kernel
theorem dX12_runs_27 : decode cX12_runs 27 = .ok (.iconst 1, 1) := by decide +kernel
theorem dX12_runs_28 : decode cX12_runs 28 = .ok (.invokevirtual 506, 3) := by decide +kernel
theorem dX12_runs_31 : decode cX12_runs 31 = .ok (.aload_n 0, 1) := by decide +kernel
theorem dX12_runs_32 : decode cX12_runs 32 = .ok (.getfield 497, 3) := by decide +kernel
theorem dX12_runs_35 : decode cX12_runs 35 = .ok (.ifCond .ne 6, 3) := by decide +kernel
theorem dX12_runs_38 : decode cX12_runs 38 = .ok (.goto 29, 3) := by decide +kernel
theorem dX12_runs_41 : decode cX12_runs 41 = .ok (.aload_n 0, 1) := by decide +kernel
theorem dX12_runs_42 : decode cX12_runs 42 = .ok (.getfield 491, 3) := by decide +kernel
theorem dX12_runs_45 : decode cX12_runs 45 = .ok (.ifCond .eq 10, 3) := by decide +kernel
theorem dX12_runs_48 : decode cX12_runs 48 = .ok (.aload_n 0, 1) := by decide +kernel
theorem dX12_runs_49 : decode cX12_runs 49 = .ok (.invokevirtual 510, 3) := by decide +kernel
theorem dX12_runs_52 : decode cX12_runs 52 = .ok (.ifCond .ge 5, 3) := by decide +kernel
theorem dX12_runs_55 : decode cX12_runs 55 = .ok (.iconst 0, 1) := by decide +kernel
theorem dX12_runs_56 : decode cX12_runs 56 = .ok (.ireturn, 1) := by decide +kernel
theorem dX12_runs_57 : decode cX12_runs 57 = .ok (.aload_n 0, 1) := by decide +kernel
theorem dX12_runs_58 : decode cX12_runs 58 = .ok (.dup, 1) := by decide +kernel
theorem dX12_runs_59 : decode cX12_runs 59 = .ok (.getfield 318, 3) := by decide +kernel
theorem dX12_runs_62 : decode cX12_runs 62 = .ok (.iconst 1, 1) := by decide +kernel
theorem dX12_runs_63 : decode cX12_runs 63 = .ok (.iadd, 1) := by decide +kernel
theorem dX12_runs_64 : decode cX12_runs 64 = .ok (.putfield 318, 3) := by decide +kernel
theorem dX12_runs_67 : decode cX12_runs 67 = .ok (.iinc 4 1, 3) := by decide +kernel
theorem dX12_runs_70 : decode cX12_runs 70 = .ok (.goto (-51), 3) := by decide +kernel
theorem dX12_runs_73 : decode cX12_runs 73 = .ok (.aload_n 0, 1) := by decide +kernel
theorem dX12_runs_74 : decode cX12_runs 74 = .ok (.iload_n 3, 1) := by decide +kernel
theorem dX12_runs_75 : decode cX12_runs 75 = .ok (.putfield 482, 3) := by decide +kernel
theorem dX12_runs_78 : decode cX12_runs 78 = .ok (.iconst 1, 1) := by decide +kernel
theorem dX12_runs_79 : decode cX12_runs 79 = .ok (.ireturn, 1) := by decide +kernel
theorem dX12_draws_0 : decode cX12_draws 0 = .ok (.aload_n 0, 1) := by decide +kernel
theorem dX12_draws_1 : decode cX12_draws 1 = .ok (.ldc2_w 513, 3) := by decide +kernel
theorem dX12_draws_4 : decode cX12_draws 4 = .ok (.aload_n 0, 1) := by decide +kernel
theorem dX12_draws_5 : decode cX12_draws 5 = .ok (.getfield 515, 3) := by decide +kernel
theorem dX12_draws_8 : decode cX12_draws 8 = .ok (.i2l, 1) := by decide +kernel
theorem dX12_draws_9 : decode cX12_draws 9 = .ok (.lmul, 1) := by decide +kernel
theorem dX12_draws_10 : decode cX12_draws 10 = .ok (.ldc2_w 518, 3) := by decide +kernel
theorem dX12_draws_13 : decode cX12_draws 13 = .ok (.ladd, 1) := by decide +kernel
theorem dX12_draws_14 : decode cX12_draws 14 = .ok (.ldc2_w 520, 3) := by decide +kernel
theorem dX12_draws_17 : decode cX12_draws 17 = .ok (.lrem, 1) := by decide +kernel
theorem dX12_draws_18 : decode cX12_draws 18 = .ok (.l2i, 1) := by decide +kernel
theorem dX12_draws_19 : decode cX12_draws 19 = .ok (.putfield 515, 3) := by decide +kernel
theorem dX12_draws_22 : decode cX12_draws 22 = .ok (.aload_n 0, 1) := by decide +kernel
theorem dX12_draws_23 : decode cX12_draws 23 = .ok (.getfield 515, 3) := by decide +kernel
theorem dX12_draws_26 : decode cX12_draws 26 = .ok (.iload_n 1, 1) := by decide +kernel
theorem dX12_draws_27 : decode cX12_draws 27 = .ok (.irem, 1) := by decide +kernel
theorem dX12_draws_28 : decode cX12_draws 28 = .ok (.ireturn, 1) := by decide +kernel
theorem dX12_happens_0 : decode cX12_happens 0 = .ok (.iload_n 3, 1) := by decide +kernel
theorem dX12_happens_1 : decode cX12_happens 1 = .ok (.ifCond .ne 28, 3) := by decide +kernel
theorem dX12_happens_4 : decode cX12_happens 4 = .ok (.aload_n 0, 1) := by decide +kernel
theorem dX12_happens_5 : decode cX12_happens 5 = .ok (.iload_n 2, 1) := by decide +kernel
theorem dX12_happens_6 : decode cX12_happens 6 = .ok (.iload_n 1, 1) := by decide +kernel
theorem dX12_happens_7 : decode cX12_happens 7 = .ok (.invokevirtual 354, 3) := by decide +kernel
theorem dX12_happens_10 : decode cX12_happens 10 = .ok (.istore 4, 2) := by decide +kernel
theorem dX12_happens_12 : decode cX12_happens 12 = .ok (.iload 4, 2) := by decide +kernel
theorem dX12_happens_14 : decode cX12_happens 14 = .ok (.ifCond .eq 12, 3) := by decide +kernel
theorem dX12_happens_17 : decode cX12_happens 17 = .ok (.aload_n 0, 1) := by decide +kernel
theorem dX12_happens_18 : decode cX12_happens 18 = .ok (.getfield 24, 3) := by decide +kernel
theorem dX12_happens_21 : decode cX12_happens 21 = .ok (.iconst 0, 1) := by decide +kernel
theorem dX12_happens_22 : decode cX12_happens 22 = .ok (.iload_n 1, 1) := by decide +kernel
theorem dX12_happens_23 : decode cX12_happens 23 = .ok (.iadd, 1) := by decide +kernel
theorem dX12_happens_24 : decode cX12_happens 24 = .ok (.iload_n 2, 1) := by decide +kernel
theorem dX12_happens_25 : decode cX12_happens 25 = .ok (.iastore, 1) := by decide +kernel
theorem dX12_happens_26 : decode cX12_happens 26 = .ok (.iload 4, 2) := by decide +kernel
theorem dX12_happens_28 : decode cX12_happens 28 = .ok (.ireturn, 1) := by decide +kernel
theorem dX12_happens_29 : decode cX12_happens 29 = .ok (.iload_n 3, 1) := by decide +kernel
theorem dX12_happens_30 : decode cX12_happens 30 = .ok (.iconst 1, 1) := by decide +kernel
theorem dX12_happens_31 : decode cX12_happens 31 = .ok (.if_icmp .ne 48, 3) := by decide +kernel
theorem dX12_happens_34 : decode cX12_happens 34 = .ok (.aload_n 0, 1) := by decide +kernel
theorem dX12_happens_35 : decode cX12_happens 35 = .ok (.iload_n 2, 1) := by decide +kernel
theorem dX12_happens_36 : decode cX12_happens 36 = .ok (.invokevirtual 151, 3) := by decide +kernel
theorem dX12_happens_39 : decode cX12_happens 39 = .ok (.istore 4, 2) := by decide +kernel
theorem dX12_happens_41 : decode cX12_happens 41 = .ok (.iload 4, 2) := by decide +kernel
theorem dX12_happens_43 : decode cX12_happens 43 = .ok (.iconst (-1), 1) := by decide +kernel
theorem dX12_happens_44 : decode cX12_happens 44 = .ok (.if_icmp .eq 17, 3) := by decide +kernel
theorem dX12_happens_47 : decode cX12_happens 47 = .ok (.aload_n 0, 1) := by decide +kernel
theorem dX12_happens_48 : decode cX12_happens 48 = .ok (.iload_n 1, 1) := by decide +kernel
theorem dX12_happens_49 : decode cX12_happens 49 = .ok (.iload 4, 2) := by decide +kernel
theorem dX12_happens_51 : decode cX12_happens 51 = .ok (.invokevirtual 360, 3) := by decide +kernel
theorem dX12_happens_54 : decode cX12_happens 54 = .ok (.ifCond .eq 7, 3) := by decide +kernel
theorem dX12_happens_57 : decode cX12_happens 57 = .ok (.iconst 1, 1) := by decide +kernel
theorem dX12_happens_58 : decode cX12_happens 58 = .ok (.goto 4, 3) := by decide +kernel
theorem dX12_happens_61 : decode cX12_happens 61 = .ok (.iconst 0, 1) := by decide +kernel
theorem dX12_happens_62 : decode cX12_happens 62 = .ok (.istore 5, 2) := by decide +kernel
theorem dX12_happens_64 : decode cX12_happens 64 = .ok (.iload 5, 2) := by decide +kernel
theorem dX12_happens_66 : decode cX12_happens 66 = .ok (.ifCond .eq 10, 3) := by decide +kernel
theorem dX12_happens_69 : decode cX12_happens 69 = .ok (.aload_n 0, 1) := by decide +kernel
theorem dX12_happens_70 : decode cX12_happens 70 = .ok (.iload_n 1, 1) := by decide +kernel
theorem dX12_happens_71 : decode cX12_happens 71 = .ok (.iload 4, 2) := by decide +kernel
theorem dX12_happens_73 : decode cX12_happens 73 = .ok (.invokevirtual 363, 3) := by decide +kernel
theorem dX12_happens_76 : decode cX12_happens 76 = .ok (.iload 5, 2) := by decide +kernel
theorem dX12_happens_78 : decode cX12_happens 78 = .ok (.ireturn, 1) := by decide +kernel
theorem dX12_happens_79 : decode cX12_happens 79 = .ok (.aload_n 0, 1) := by decide +kernel
theorem dX12_happens_80 : decode cX12_happens 80 = .ok (.iload_n 1, 1) := by decide +kernel
theorem dX12_happens_81 : decode cX12_happens 81 = .ok (.invokevirtual 351, 3) := by decide +kernel
theorem dX12_happens_84 : decode cX12_happens 84 = .ok (.istore 4, 2) := by decide +kernel
theorem dX12_happens_86 : decode cX12_happens 86 = .ok (.aload_n 0, 1) := by decide +kernel
theorem dX12_happens_87 : decode cX12_happens 87 = .ok (.getfield 24, 3) := by decide +kernel
theorem dX12_happens_90 : decode cX12_happens 90 = .ok (.iconst 0, 1) := by decide +kernel
theorem dX12_happens_91 : decode cX12_happens 91 = .ok (.iload_n 1, 1) := by decide +kernel
theorem dX12_happens_92 : decode cX12_happens 92 = .ok (.iadd, 1) := by decide +kernel
theorem dX12_happens_93 : decode cX12_happens 93 = .ok (.iconst (-1), 1) := by decide +kernel
theorem dX12_happens_94 : decode cX12_happens 94 = .ok (.iastore, 1) := by decide +kernel
theorem dX12_happens_95 : decode cX12_happens 95 = .ok (.iload 4, 2) := by decide +kernel
theorem dX12_happens_97 : decode cX12_happens 97 = .ok (.ireturn, 1) := by decide +kernel
theorem dX12_days_0 : decode cX12_days 0 = .ok (.iload_n 1, 1) := by decide +kernel
theorem dX12_days_1 : decode cX12_days 1 = .ok (.iconst 0, 1) := by decide +kernel
theorem dX12_days_2 : decode cX12_days 2 = .ok (.ldc 192, 2) := by decide +kernel
theorem dX12_days_4 : decode cX12_days 4 = .ok (.invokestatic 117, 3) := by decide +kernel
theorem dX12_days_7 : decode cX12_days 7 = .ok (.ifCond .eq 13, 3) := by decide +kernel
theorem dX12_days_10 : decode cX12_days 10 = .ok (.iload_n 2, 1) := by decide +kernel
theorem dX12_days_11 : decode cX12_days 11 = .ok (.iconst 1, 1) := by decide +kernel
theorem dX12_days_12 : decode cX12_days 12 = .ok (.bipush 60, 2) := by decide +kernel
theorem dX12_days_14 : decode cX12_days 14 = .ok (.invokestatic 117, 3) := by decide +kernel
theorem dX12_days_17 : decode cX12_days 17 = .ok (.ifCond .ne 9, 3) := by decide +kernel
theorem dX12_days_20 : decode cX12_days 20 = .ok (.aload_n 0, 1) := by decide +kernel
theorem dX12_days_21 : decode cX12_days 21 = .ok (.iconst (-1), 1) := by decide +kernel
theorem dX12_days_22 : decode cX12_days 22 = .ok (.invokevirtual 121, 3) := by decide +kernel
theorem dX12_days_25 : decode cX12_days 25 = .ok (.ireturn, 1) := by decide +kernel
theorem dX12_days_26 : decode cX12_days 26 = .ok (.aload_n 0, 1) := by decide +kernel
theorem dX12_days_27 : decode cX12_days 27 = .ok (.getfield 24, 3) := by decide +kernel
theorem dX12_days_30 : decode cX12_days 30 = .ok (.bipush 103, 2) := by decide +kernel
theorem dX12_days_32 : decode cX12_days 32 = .ok (.iaload, 1) := by decide +kernel
theorem dX12_days_33 : decode cX12_days 33 = .ok (.ifCond .eq 13, 3) := by decide +kernel
theorem dX12_days_36 : decode cX12_days 36 = .ok (.aload_n 0, 1) := by decide +kernel
theorem dX12_days_37 : decode cX12_days 37 = .ok (.getfield 24, 3) := by decide +kernel
theorem dX12_days_40 : decode cX12_days 40 = .ok (.bipush 104, 2) := by decide +kernel
theorem dX12_days_42 : decode cX12_days 42 = .ok (.iaload, 1) := by decide +kernel
theorem dX12_days_43 : decode cX12_days 43 = .ok (.ifCond .ne 10, 3) := by decide +kernel
theorem dX12_days_46 : decode cX12_days 46 = .ok (.aload_n 0, 1) := by decide +kernel
theorem dX12_days_47 : decode cX12_days 47 = .ok (.bipush (-3), 2) := by decide +kernel
theorem dX12_days_49 : decode cX12_days 49 = .ok (.invokevirtual 121, 3) := by decide +kernel
theorem dX12_days_52 : decode cX12_days 52 = .ok (.ireturn, 1) := by decide +kernel
theorem dX12_days_53 : decode cX12_days 53 = .ok (.aload_n 0, 1) := by decide +kernel
theorem dX12_days_54 : decode cX12_days 54 = .ok (.iload_n 1, 1) := by decide +kernel
theorem dX12_days_55 : decode cX12_days 55 = .ok (.putfield 515, 3) := by decide +kernel
theorem dX12_days_58 : decode cX12_days 58 = .ok (.aload_n 0, 1) := by decide +kernel
theorem dX12_days_59 : decode cX12_days 59 = .ok (.aload_n 0, 1) := by decide +kernel
theorem dX12_days_60 : decode cX12_days 60 = .ok (.getfield 24, 3) := by decide +kernel
theorem dX12_days_63 : decode cX12_days 63 = .ok (.bipush 103, 2) := by decide +kernel
theorem dX12_days_65 : decode cX12_days 65 = .ok (.iaload, 1) := by decide +kernel
theorem dX12_days_66 : decode cX12_days 66 = .ok (.putfield 114, 3) := by decide +kernel
theorem dX12_days_69 : decode cX12_days 69 = .ok (.aload_n 0, 1) := by decide +kernel
theorem dX12_days_70 : decode cX12_days 70 = .ok (.iconst 0, 1) := by decide +kernel
theorem dX12_days_71 : decode cX12_days 71 = .ok (.invokevirtual 426, 3) := by decide +kernel
theorem dX12_days_74 : decode cX12_days 74 = .ok (.iconst 0, 1) := by decide +kernel
theorem dX12_days_75 : decode cX12_days 75 = .ok (.istore_n 3, 1) := by decide +kernel
theorem dX12_days_76 : decode cX12_days 76 = .ok (.iconst 0, 1) := by decide +kernel
theorem dX12_days_77 : decode cX12_days 77 = .ok (.istore 4, 2) := by decide +kernel
theorem dX12_days_79 : decode cX12_days 79 = .ok (.iload 4, 2) := by decide +kernel
theorem dX12_days_81 : decode cX12_days 81 = .ok (.iload_n 2, 1) := by decide +kernel
theorem dX12_days_82 : decode cX12_days 82 = .ok (.if_icmp .ge 80, 3) := by decide +kernel
theorem dX12_days_85 : decode cX12_days 85 = .ok (.aload_n 0, 1) := by decide +kernel
theorem dX12_days_86 : decode cX12_days 86 = .ok (.getfield 24, 3) := by decide +kernel
theorem dX12_days_89 : decode cX12_days 89 = .ok (.bipush 6, 2) := by decide +kernel
theorem dX12_days_91 : decode cX12_days 91 = .ok (.iaload, 1) := by decide +kernel
theorem dX12_days_92 : decode cX12_days 92 = .ok (.sipush 999, 3) := by decide +kernel
theorem dX12_days_95 : decode cX12_days 95 = .ok (.if_icmp .ge 67, 3) := by decide +kernel
theorem dX12_days_98 : decode cX12_days 98 = .ok (.aload_n 0, 1) := by decide +kernel
theorem dX12_days_99 : decode cX12_days 99 = .ok (.aload_n 0, 1) := by decide +kernel
theorem dX12_days_100 : decode cX12_days 100 = .ok (.getfield 114, 3) := by decide +kernel
theorem dX12_days_103 : decode cX12_days 103 = .ok (.invokevirtual 522, 3) := by decide +kernel
theorem dX12_days_106 : decode cX12_days 106 = .ok (.istore 5, 2) := by decide +kernel
theorem dX12_days_108 : decode cX12_days 108 = .ok (.aload_n 0, 1) := by decide +kernel
theorem dX12_days_109 : decode cX12_days 109 = .ok (.aload_n 0, 1) := by decide +kernel
theorem dX12_days_110 : decode cX12_days 110 = .ok (.getfield 24, 3) := by decide +kernel
theorem dX12_days_113 : decode cX12_days 113 = .ok (.bipush 104, 2) := by decide +kernel
theorem dX12_days_115 : decode cX12_days 115 = .ok (.iaload, 1) := by decide +kernel
theorem dX12_days_116 : decode cX12_days 116 = .ok (.invokevirtual 522, 3) := by decide +kernel
theorem dX12_days_119 : decode cX12_days 119 = .ok (.istore 6, 2) := by decide +kernel
theorem dX12_days_121 : decode cX12_days 121 = .ok (.iload_n 3, 1) := by decide +kernel
theorem dX12_days_122 : decode cX12_days 122 = .ok (.aload_n 0, 1) := by decide +kernel
theorem dX12_days_123 : decode cX12_days 123 = .ok (.iload 5, 2) := by decide +kernel
theorem dX12_days_125 : decode cX12_days 125 = .ok (.iload 6, 2) := by decide +kernel
theorem dX12_days_127 : decode cX12_days 127 = .ok (.aload_n 0, 1) := by decide +kernel
theorem dX12_days_128 : decode cX12_days 128 = .ok (.iconst 3, 1) := by decide +kernel
theorem dX12_days_129 : decode cX12_days 129 = .ok (.invokevirtual 522, 3) := by decide +kernel
theorem dX12_days_132 : decode cX12_days 132 = .ok (.invokevirtual 525, 3) := by decide +kernel
theorem dX12_days_135 : decode cX12_days 135 = .ok (.ifCond .eq 7, 3) := by decide +kernel
theorem dX12_days_138 : decode cX12_days 138 = .ok (.iconst 1, 1) := by decide +kernel
theorem dX12_days_139 : decode cX12_days 139 = .ok (.goto 4, 3) := by decide +kernel
theorem dX12_days_142 : decode cX12_days 142 = .ok (.iconst 0, 1) := by decide +kernel
theorem dX12_days_143 : decode cX12_days 143 = .ok (.iadd, 1) := by decide +kernel
theorem dX12_days_144 : decode cX12_days 144 = .ok (.istore_n 3, 1) := by decide +kernel
theorem dX12_days_145 : decode cX12_days 145 = .ok (.aload_n 0, 1) := by decide +kernel
theorem dX12_days_146 : decode cX12_days 146 = .ok (.getfield 24, 3) := by decide +kernel
theorem dX12_days_149 : decode cX12_days 149 = .ok (.bipush 6, 2) := by decide +kernel
theorem dX12_days_151 : decode cX12_days 151 = .ok (.dup2, 1) := by decide +kernel
theorem dX12_days_152 : decode cX12_days 152 = .ok (.iaload, 1) := by decide +kernel
theorem dX12_days_153 : decode cX12_days 153 = .ok (.iconst 1, 1) := by decide +kernel
theorem dX12_days_154 : decode cX12_days 154 = .ok (.iadd, 1) := by decide +kernel
theorem dX12_days_155 : decode cX12_days 155 = .ok (.iastore, 1) := by decide +kernel
theorem dX12_days_156 : decode cX12_days 156 = .ok (.iinc 4 1, 3) := by decide +kernel
theorem dX12_days_159 : decode cX12_days 159 = .ok (.goto (-80), 3) := by decide +kernel
theorem dX12_days_162 : decode cX12_days 162 = .ok (.iconst 0, 1) := by decide +kernel
theorem dX12_days_163 : decode cX12_days 163 = .ok (.istore 4, 2) := by decide +kernel
theorem dX12_days_165 : decode cX12_days 165 = .ok (.iload 4, 2) := by decide +kernel
theorem dX12_days_167 : decode cX12_days 167 = .ok (.bipush 7, 2) := by decide +kernel
theorem dX12_days_169 : decode cX12_days 169 = .ok (.if_icmp .ge 23, 3) := by decide +kernel
theorem dX12_days_172 : decode cX12_days 172 = .ok (.aload_n 0, 1) := by decide +kernel
theorem dX12_days_173 : decode cX12_days 173 = .ok (.getfield 111, 3) := by decide +kernel
theorem dX12_days_176 : decode cX12_days 176 = .ok (.iload 4, 2) := by decide +kernel
theorem dX12_days_178 : decode cX12_days 178 = .ok (.aload_n 0, 1) := by decide +kernel
theorem dX12_days_179 : decode cX12_days 179 = .ok (.getfield 24, 3) := by decide +kernel
theorem dX12_days_182 : decode cX12_days 182 = .ok (.iload 4, 2) := by decide +kernel
theorem dX12_days_184 : decode cX12_days 184 = .ok (.iaload, 1) := by decide +kernel
theorem dX12_days_185 : decode cX12_days 185 = .ok (.iastore, 1) := by decide +kernel
theorem dX12_days_186 : decode cX12_days 186 = .ok (.iinc 4 1, 3) := by decide +kernel
theorem dX12_days_189 : decode cX12_days 189 = .ok (.goto (-24), 3) := by decide +kernel
theorem dX12_days_192 : decode cX12_days 192 = .ok (.aload_n 0, 1) := by decide +kernel
theorem dX12_days_193 : decode cX12_days 193 = .ok (.iconst 0, 1) := by decide +kernel
theorem dX12_days_194 : decode cX12_days 194 = .ok (.invokevirtual 429, 3) := by decide +kernel
theorem dX12_days_197 : decode cX12_days 197 = .ok (.aload_n 0, 1) := by decide +kernel
theorem dX12_days_198 : decode cX12_days 198 = .ok (.iload_n 3, 1) := by decide +kernel
theorem dX12_days_199 : decode cX12_days 199 = .ok (.invokevirtual 14, 3) := by decide +kernel
theorem dX12_days_202 : decode cX12_days 202 = .ok (.ireturn, 1) := by decide +kernel
theorem dX12_drawn_0 : decode cX12_drawn 0 = .ok (.iload_n 1, 1) := by decide +kernel
theorem dX12_drawn_1 : decode cX12_drawn 1 = .ok (.iconst 0, 1) := by decide +kernel
theorem dX12_drawn_2 : decode cX12_drawn 2 = .ok (.aload_n 0, 1) := by decide +kernel
theorem dX12_drawn_3 : decode cX12_drawn 3 = .ok (.getfield 114, 3) := by decide +kernel
theorem dX12_drawn_6 : decode cX12_drawn 6 = .ok (.iconst 1, 1) := by decide +kernel
theorem dX12_drawn_7 : decode cX12_drawn 7 = .ok (.isub, 1) := by decide +kernel
theorem dX12_drawn_8 : decode cX12_drawn 8 = .ok (.invokestatic 117, 3) := by decide +kernel
theorem dX12_drawn_11 : decode cX12_drawn 11 = .ok (.ifCond .eq 14, 3) := by decide +kernel
theorem dX12_drawn_14 : decode cX12_drawn 14 = .ok (.aload_n 0, 1) := by decide +kernel
theorem dX12_drawn_15 : decode cX12_drawn 15 = .ok (.getfield 111, 3) := by decide +kernel
theorem dX12_drawn_18 : decode cX12_drawn 18 = .ok (.iconst 0, 1) := by decide +kernel
theorem dX12_drawn_19 : decode cX12_drawn 19 = .ok (.iload_n 1, 1) := by decide +kernel
theorem dX12_drawn_20 : decode cX12_drawn 20 = .ok (.iadd, 1) := by decide +kernel
theorem dX12_drawn_21 : decode cX12_drawn 21 = .ok (.iaload, 1) := by decide +kernel
theorem dX12_drawn_22 : decode cX12_drawn 22 = .ok (.goto 4, 3) := by decide +kernel
theorem dX12_drawn_25 : decode cX12_drawn 25 = .ok (.iconst (-1), 1) := by decide +kernel
theorem dX12_drawn_26 : decode cX12_drawn 26 = .ok (.ireturn, 1) := by decide +kernel
theorem dX12_count_0 : decode cX12_count 0 = .ok (.iload_n 1, 1) := by decide +kernel
theorem dX12_count_1 : decode cX12_count 1 = .ok (.tableswitch 184 0 16 #[83, 91, 99, 104, 112, 120, 128, 133, 138, 138, 138, 148, 155, 163, 171, 171, 171], 83) := by decide +kernel
theorem dX12_count_84 : decode cX12_count 84 = .ok (.aload_n 0, 1) := by decide +kernel
theorem dX12_count_85 : decode cX12_count 85 = .ok (.getfield 24, 3) := by decide +kernel
theorem dX12_count_88 : decode cX12_count 88 = .ok (.bipush 103, 2) := by decide +kernel
theorem dX12_count_90 : decode cX12_count 90 = .ok (.iaload, 1) := by decide +kernel
theorem dX12_count_91 : decode cX12_count 91 = .ok (.ireturn, 1) := by decide +kernel
theorem dX12_count_92 : decode cX12_count 92 = .ok (.aload_n 0, 1) := by decide +kernel
theorem dX12_count_93 : decode cX12_count 93 = .ok (.getfield 24, 3) := by decide +kernel
theorem dX12_count_96 : decode cX12_count 96 = .ok (.bipush 104, 2) := by decide +kernel
theorem dX12_count_98 : decode cX12_count 98 = .ok (.iaload, 1) := by decide +kernel
theorem dX12_count_99 : decode cX12_count 99 = .ok (.ireturn, 1) := by decide +kernel
theorem dX12_count_100 : decode cX12_count 100 = .ok (.aload_n 0, 1) := by decide +kernel
theorem dX12_count_101 : decode cX12_count 101 = .ok (.invokevirtual 327, 3) := by decide +kernel
theorem dX12_count_104 : decode cX12_count 104 = .ok (.ireturn, 1) := by decide +kernel
theorem dX12_count_105 : decode cX12_count 105 = .ok (.aload_n 0, 1) := by decide +kernel
theorem dX12_count_106 : decode cX12_count 106 = .ok (.getfield 24, 3) := by decide +kernel
theorem dX12_count_109 : decode cX12_count 109 = .ok (.bipush 105, 2) := by decide +kernel
theorem dX12_count_111 : decode cX12_count 111 = .ok (.iaload, 1) := by decide +kernel
theorem dX12_count_112 : decode cX12_count 112 = .ok (.ireturn, 1) := by decide +kernel
theorem dX12_count_113 : decode cX12_count 113 = .ok (.aload_n 0, 1) := by decide +kernel
theorem dX12_count_114 : decode cX12_count 114 = .ok (.getfield 24, 3) := by decide +kernel
theorem dX12_count_117 : decode cX12_count 117 = .ok (.bipush 106, 2) := by decide +kernel
theorem dX12_count_119 : decode cX12_count 119 = .ok (.iaload, 1) := by decide +kernel
theorem dX12_count_120 : decode cX12_count 120 = .ok (.ireturn, 1) := by decide +kernel
theorem dX12_count_121 : decode cX12_count 121 = .ok (.aload_n 0, 1) := by decide +kernel
theorem dX12_count_122 : decode cX12_count 122 = .ok (.getfield 24, 3) := by decide +kernel
theorem dX12_count_125 : decode cX12_count 125 = .ok (.bipush 107, 2) := by decide +kernel
theorem dX12_count_127 : decode cX12_count 127 = .ok (.iaload, 1) := by decide +kernel
theorem dX12_count_128 : decode cX12_count 128 = .ok (.ireturn, 1) := by decide +kernel
theorem dX12_count_129 : decode cX12_count 129 = .ok (.aload_n 0, 1) := by decide +kernel
theorem dX12_count_130 : decode cX12_count 130 = .ok (.getfield 11, 3) := by decide +kernel
theorem dX12_count_133 : decode cX12_count 133 = .ok (.ireturn, 1) := by decide +kernel
theorem dX12_count_134 : decode cX12_count 134 = .ok (.aload_n 0, 1) := by decide +kernel
theorem dX12_count_135 : decode cX12_count 135 = .ok (.getfield 174, 3) := by decide +kernel
theorem dX12_count_138 : decode cX12_count 138 = .ok (.ireturn, 1) := by decide +kernel
theorem dX12_count_139 : decode cX12_count 139 = .ok (.aload_n 0, 1) := by decide +kernel
theorem dX12_count_140 : decode cX12_count 140 = .ok (.getfield 7, 3) := by decide +kernel
theorem dX12_count_143 : decode cX12_count 143 = .ok (.iload_n 1, 1) := by decide +kernel
theorem dX12_count_144 : decode cX12_count 144 = .ok (.bipush 7, 2) := by decide +kernel
theorem dX12_count_146 : decode cX12_count 146 = .ok (.isub, 1) := by decide +kernel
theorem dX12_count_147 : decode cX12_count 147 = .ok (.iaload, 1) := by decide +kernel
theorem dX12_count_148 : decode cX12_count 148 = .ok (.ireturn, 1) := by decide +kernel
theorem dX12_count_149 : decode cX12_count 149 = .ok (.aload_n 0, 1) := by decide +kernel
theorem dX12_count_150 : decode cX12_count 150 = .ok (.getfield 7, 3) := by decide +kernel
theorem dX12_count_153 : decode cX12_count 153 = .ok (.iconst 5, 1) := by decide +kernel
theorem dX12_count_154 : decode cX12_count 154 = .ok (.iaload, 1) := by decide +kernel
theorem dX12_count_155 : decode cX12_count 155 = .ok (.ireturn, 1) := by decide +kernel
theorem dX12_count_156 : decode cX12_count 156 = .ok (.aload_n 0, 1) := by decide +kernel
theorem dX12_count_157 : decode cX12_count 157 = .ok (.getfield 7, 3) := by decide +kernel
theorem dX12_count_160 : decode cX12_count 160 = .ok (.bipush 6, 2) := by decide +kernel
theorem dX12_count_162 : decode cX12_count 162 = .ok (.iaload, 1) := by decide +kernel
theorem dX12_count_163 : decode cX12_count 163 = .ok (.ireturn, 1) := by decide +kernel
theorem dX12_count_164 : decode cX12_count 164 = .ok (.aload_n 0, 1) := by decide +kernel
theorem dX12_count_165 : decode cX12_count 165 = .ok (.getfield 24, 3) := by decide +kernel
theorem dX12_count_168 : decode cX12_count 168 = .ok (.bipush 108, 2) := by decide +kernel
theorem dX12_count_170 : decode cX12_count 170 = .ok (.iaload, 1) := by decide +kernel
theorem dX12_count_171 : decode cX12_count 171 = .ok (.ireturn, 1) := by decide +kernel
theorem dX12_count_172 : decode cX12_count 172 = .ok (.aload_n 0, 1) := by decide +kernel
theorem dX12_count_173 : decode cX12_count 173 = .ok (.getfield 24, 3) := by decide +kernel
theorem dX12_count_176 : decode cX12_count 176 = .ok (.iload_n 1, 1) := by decide +kernel
theorem dX12_count_177 : decode cX12_count 177 = .ok (.bipush 14, 2) := by decide +kernel
theorem dX12_count_179 : decode cX12_count 179 = .ok (.isub, 1) := by decide +kernel
theorem dX12_count_180 : decode cX12_count 180 = .ok (.invokestatic 171, 3) := by decide +kernel
theorem dX12_count_183 : decode cX12_count 183 = .ok (.iaload, 1) := by decide +kernel
theorem dX12_count_184 : decode cX12_count 184 = .ok (.ireturn, 1) := by decide +kernel
theorem dX12_count_185 : decode cX12_count 185 = .ok (.iconst (-1), 1) := by decide +kernel
theorem dX12_count_186 : decode cX12_count 186 = .ok (.ireturn, 1) := by decide +kernel
theorem dX12_status_0 : decode cX12_status 0 = .ok (.aload_n 0, 1) := by decide +kernel
theorem dX12_status_1 : decode cX12_status 1 = .ok (.getfield 3, 3) := by decide +kernel
theorem dX12_status_4 : decode cX12_status 4 = .ok (.ireturn, 1) := by decide +kernel
