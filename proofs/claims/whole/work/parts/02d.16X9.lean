theorem dX9_init_0 : decode cX9_init 0 = .ok (.aload_n 0, 1) := by decide +kernel
theorem dX9_init_1 : decode cX9_init 1 = .ok (.invokespecial 3, 3) := by decide +kernel
theorem dX9_init_4 : decode cX9_init 4 = .ok (.aload_n 0, 1) := by decide +kernel
theorem dX9_init_5 : decode cX9_init 5 = .ok (.bipush 60, 2) := by decide +kernel
theorem dX9_init_7 : decode cX9_init 7 = .ok (.newarray .int, 2) := by decide +kernel
theorem dX9_init_9 : decode cX9_init 9 = .ok (.putfield 11, 3) := by decide +kernel
theorem dX9_init_12 : decode cX9_init 12 = .ok (.aload_n 0, 1) := by decide +kernel
theorem dX9_init_13 : decode cX9_init 13 = .ok (.sipush 436, 3) := by decide +kernel
theorem dX9_init_16 : decode cX9_init 16 = .ok (.newarray .int, 2) := by decide +kernel
theorem dX9_init_18 : decode cX9_init 18 = .ok (.putfield 15, 3) := by decide +kernel
theorem dX9_init_21 : decode cX9_init 21 = .ok (.return_, 1) := by decide +kernel
theorem dX9_init__0 : decode cX9_init_ 0 = .ok (.aload_n 0, 1) := by decide +kernel
theorem dX9_init__1 : decode cX9_init_ 1 = .ok (.invokespecial 3, 3) := by decide +kernel
theorem dX9_init__4 : decode cX9_init_ 4 = .ok (.aload_n 0, 1) := by decide +kernel
theorem dX9_init__5 : decode cX9_init_ 5 = .ok (.aload_n 1, 1) := by decide +kernel
theorem dX9_init__6 : decode cX9_init_ 6 = .ok (.getfield 11, 3) := by decide +kernel
theorem dX9_init__9 : decode cX9_init_ 9 = .ok (.aload_n 1, 1) := by decide +kernel
theorem dX9_init__10 : decode cX9_init_ 10 = .ok (.getfield 18, 3) := by decide +kernel
theorem dX9_init__13 : decode cX9_init_ 13 = .ok (.iconst 5, 1) := by decide +kernel
theorem dX9_init__14 : decode cX9_init_ 14 = .ok (.imul, 1) := by decide +kernel
theorem dX9_init__15 : decode cX9_init_ 15 = .ok (.invokestatic 22, 3) := by decide +kernel
theorem dX9_init__18 : decode cX9_init_ 18 = .ok (.putfield 11, 3) := by decide +kernel
theorem dX9_init__21 : decode cX9_init_ 21 = .ok (.aload_n 0, 1) := by decide +kernel
theorem dX9_init__22 : decode cX9_init_ 22 = .ok (.aload_n 1, 1) := by decide +kernel
theorem dX9_init__23 : decode cX9_init_ 23 = .ok (.getfield 15, 3) := by decide +kernel
theorem dX9_init__26 : decode cX9_init_ 26 = .ok (.aload_n 1, 1) := by decide +kernel
theorem dX9_init__27 : decode cX9_init_ 27 = .ok (.getfield 28, 3) := by decide +kernel
theorem dX9_init__30 : decode cX9_init_ 30 = .ok (.invokestatic 22, 3) := by decide +kernel
theorem dX9_init__33 : decode cX9_init_ 33 = .ok (.putfield 15, 3) := by decide +kernel
theorem dX9_init__36 : decode cX9_init_ 36 = .ok (.aload_n 0, 1) := by decide +kernel
theorem dX9_init__37 : decode cX9_init_ 37 = .ok (.aload_n 1, 1) := by decide +kernel
theorem dX9_init__38 : decode cX9_init_ 38 = .ok (.getfield 18, 3) := by decide +kernel
theorem dX9_init__41 : decode cX9_init_ 41 = .ok (.putfield 18, 3) := by decide +kernel
theorem dX9_init__44 : decode cX9_init_ 44 = .ok (.aload_n 0, 1) := by decide +kernel
theorem dX9_init__45 : decode cX9_init_ 45 = .ok (.aload_n 1, 1) := by decide +kernel
theorem dX9_init__46 : decode cX9_init_ 46 = .ok (.getfield 28, 3) := by decide +kernel
theorem dX9_init__49 : decode cX9_init_ 49 = .ok (.putfield 28, 3) := by decide +kernel
theorem dX9_init__52 : decode cX9_init_ 52 = .ok (.aload_n 0, 1) := by decide +kernel
theorem dX9_init__53 : decode cX9_init_ 53 = .ok (.aload_n 1, 1) := by decide +kernel
theorem dX9_init__54 : decode cX9_init_ 54 = .ok (.getfield 31, 3) := by decide +kernel
theorem dX9_init__57 : decode cX9_init_ 57 = .ok (.putfield 31, 3) := by decide +kernel
theorem dX9_init__60 : decode cX9_init_ 60 = .ok (.return_, 1) := by decide +kernel
theorem dX9_clear_0 : decode cX9_clear 0 = .ok (.aload_n 0, 1) := by decide +kernel
theorem dX9_clear_1 : decode cX9_clear 1 = .ok (.iconst 0, 1) := by decide +kernel
theorem dX9_clear_2 : decode cX9_clear 2 = .ok (.putfield 18, 3) := by decide +kernel
theorem dX9_clear_5 : decode cX9_clear 5 = .ok (.aload_n 0, 1) := by decide +kernel
theorem dX9_clear_6 : decode cX9_clear 6 = .ok (.iconst 0, 1) := by decide +kernel
theorem dX9_clear_7 : decode cX9_clear 7 = .ok (.putfield 28, 3) := by decide +kernel
theorem dX9_clear_10 : decode cX9_clear 10 = .ok (.aload_n 0, 1) := by decide +kernel
theorem dX9_clear_11 : decode cX9_clear 11 = .ok (.iconst 0, 1) := by decide +kernel
theorem dX9_clear_12 : decode cX9_clear 12 = .ok (.putfield 31, 3) := by decide +kernel
theorem dX9_clear_15 : decode cX9_clear 15 = .ok (.return_, 1) := by decide +kernel
theorem dX9_open_0 : decode cX9_open 0 = .ok (.aload_n 0, 1) := by decide +kernel
theorem dX9_open_1 : decode cX9_open 1 = .ok (.getfield 18, 3) := by decide +kernel
theorem dX9_open_4 : decode cX9_open 4 = .ok (.bipush 12, 2) := by decide +kernel
theorem dX9_open_6 : decode cX9_open 6 = .ok (.if_icmp .lt 4, 3) := by decide +kernel
theorem dX9_open_9 : decode cX9_open 9 = .ok (.return_, 1) := by decide +kernel
theorem dX9_open_10 : decode cX9_open 10 = .ok (.aload_n 0, 1) := by decide +kernel
theorem dX9_open_11 : decode cX9_open 11 = .ok (.dup, 1) := by decide +kernel
theorem dX9_open_12 : decode cX9_open 12 = .ok (.getfield 18, 3) := by decide +kernel
theorem dX9_open_15 : decode cX9_open 15 = .ok (.iconst 1, 1) := by decide +kernel
theorem dX9_open_16 : decode cX9_open 16 = .ok (.iadd, 1) := by decide +kernel
theorem dX9_open_17 : decode cX9_open 17 = .ok (.putfield 18, 3) := by decide +kernel
theorem dX9_open_20 : decode cX9_open 20 = .ok (.aload_n 0, 1) := by decide +kernel
theorem dX9_open_21 : decode cX9_open 21 = .ok (.iconst 0, 1) := by decide +kernel
theorem dX9_open_22 : decode cX9_open 22 = .ok (.iload_n 1, 1) := by decide +kernel
theorem dX9_open_23 : decode cX9_open 23 = .ok (.invokevirtual 35, 3) := by decide +kernel
theorem dX9_open_26 : decode cX9_open 26 = .ok (.aload_n 0, 1) := by decide +kernel
theorem dX9_open_27 : decode cX9_open 27 = .ok (.iconst 1, 1) := by decide +kernel
theorem dX9_open_28 : decode cX9_open 28 = .ok (.iconst 1, 1) := by decide +kernel
theorem dX9_open_29 : decode cX9_open 29 = .ok (.invokevirtual 35, 3) := by decide +kernel
theorem dX9_open_32 : decode cX9_open 32 = .ok (.aload_n 0, 1) := by decide +kernel
theorem dX9_open_33 : decode cX9_open 33 = .ok (.iconst 2, 1) := by decide +kernel
theorem dX9_open_34 : decode cX9_open 34 = .ok (.iconst (-1), 1) := by decide +kernel
theorem dX9_open_35 : decode cX9_open 35 = .ok (.invokevirtual 35, 3) := by decide +kernel
theorem dX9_open_38 : decode cX9_open 38 = .ok (.aload_n 0, 1) := by decide +kernel
theorem dX9_open_39 : decode cX9_open 39 = .ok (.iconst 3, 1) := by decide +kernel
theorem dX9_open_40 : decode cX9_open 40 = .ok (.iconst (-1), 1) := by decide +kernel
theorem dX9_open_41 : decode cX9_open 41 = .ok (.invokevirtual 35, 3) := by decide +kernel
theorem dX9_open_44 : decode cX9_open 44 = .ok (.aload_n 0, 1) := by decide +kernel
theorem dX9_open_45 : decode cX9_open 45 = .ok (.iconst 4, 1) := by decide +kernel
theorem dX9_open_46 : decode cX9_open 46 = .ok (.iconst (-1), 1) := by decide +kernel
theorem dX9_open_47 : decode cX9_open 47 = .ok (.invokevirtual 35, 3) := by decide +kernel
theorem dX9_open_50 : decode cX9_open 50 = .ok (.return_, 1) := by decide +kernel
theorem dX9_mark_0 : decode cX9_mark 0 = .ok (.aload_n 0, 1) := by decide +kernel
theorem dX9_mark_1 : decode cX9_mark 1 = .ok (.getfield 18, 3) := by decide +kernel
theorem dX9_mark_4 : decode cX9_mark 4 = .ok (.ifCond .le 19, 3) := by decide +kernel
theorem dX9_mark_7 : decode cX9_mark 7 = .ok (.aload_n 0, 1) := by decide +kernel
theorem dX9_mark_8 : decode cX9_mark 8 = .ok (.getfield 11, 3) := by decide +kernel
theorem dX9_mark_11 : decode cX9_mark 11 = .ok (.aload_n 0, 1) := by decide +kernel
theorem dX9_mark_12 : decode cX9_mark 12 = .ok (.getfield 18, 3) := by decide +kernel
theorem dX9_mark_15 : decode cX9_mark 15 = .ok (.iconst 1, 1) := by decide +kernel
theorem dX9_mark_16 : decode cX9_mark 16 = .ok (.isub, 1) := by decide +kernel
theorem dX9_mark_17 : decode cX9_mark 17 = .ok (.iconst 5, 1) := by decide +kernel
theorem dX9_mark_18 : decode cX9_mark 18 = .ok (.imul, 1) := by decide +kernel
theorem dX9_mark_19 : decode cX9_mark 19 = .ok (.iload_n 1, 1) := by decide +kernel
theorem dX9_mark_20 : decode cX9_mark 20 = .ok (.iadd, 1) := by decide +kernel
theorem dX9_mark_21 : decode cX9_mark 21 = .ok (.iload_n 2, 1) := by decide +kernel
theorem dX9_mark_22 : decode cX9_mark 22 = .ok (.iastore, 1) := by decide +kernel
theorem dX9_mark_23 : decode cX9_mark 23 = .ok (.return_, 1) := by decide +kernel
theorem dX9_head_0 : decode cX9_head 0 = .ok (.aload_n 0, 1) := by decide +kernel
theorem dX9_head_1 : decode cX9_head 1 = .ok (.getfield 11, 3) := by decide +kernel
theorem dX9_head_4 : decode cX9_head 4 = .ok (.iload_n 1, 1) := by decide +kernel
theorem dX9_head_5 : decode cX9_head 5 = .ok (.iconst 5, 1) := by decide +kernel
theorem dX9_head_6 : decode cX9_head 6 = .ok (.imul, 1) := by decide +kernel
theorem dX9_head_7 : decode cX9_head 7 = .ok (.iload_n 2, 1) := by decide +kernel
theorem dX9_head_8 : decode cX9_head 8 = .ok (.iadd, 1) := by decide +kernel
theorem dX9_head_9 : decode cX9_head 9 = .ok (.iaload, 1) := by decide +kernel
theorem dX9_head_10 : decode cX9_head 10 = .ok (.ireturn, 1) := by decide +kernel
theorem dX9_emit_0 : decode cX9_emit 0 = .ok (.aload_n 0, 1) := by decide +kernel
theorem dX9_emit_1 : decode cX9_emit 1 = .ok (.getfield 28, 3) := by decide +kernel
theorem dX9_emit_4 : decode cX9_emit 4 = .ok (.aload_n 0, 1) := by decide +kernel
theorem dX9_emit_5 : decode cX9_emit 5 = .ok (.getfield 15, 3) := by decide +kernel
theorem dX9_emit_8 : decode cX9_emit 8 = .ok (.arraylength, 1) := by decide +kernel
theorem dX9_emit_9 : decode cX9_emit 9 = .ok (.if_icmp .lt 5, 3) := by decide +kernel
theorem dX9_emit_12 : decode cX9_emit 12 = .ok (.iconst (-1), 1) := by decide +kernel
theorem dX9_emit_13 : decode cX9_emit 13 = .ok (.ireturn, 1) := by decide +kernel
theorem dX9_emit_14 : decode cX9_emit 14 = .ok (.aload_n 0, 1) := by decide +kernel
theorem dX9_emit_15 : decode cX9_emit 15 = .ok (.getfield 15, 3) := by decide +kernel
theorem dX9_emit_18 : decode cX9_emit 18 = .ok (.aload_n 0, 1) := by decide +kernel
theorem dX9_emit_19 : decode cX9_emit 19 = .ok (.getfield 28, 3) := by decide +kernel
theorem dX9_emit_22 : decode cX9_emit 22 = .ok (.iload_n 1, 1) := by decide +kernel
theorem dX9_emit_23 : decode cX9_emit 23 = .ok (.iload_n 2, 1) := by decide +kernel
theorem dX9_emit_24 : decode cX9_emit 24 = .ok (.iconst 4, 1) := by decide +kernel
theorem dX9_emit_25 : decode cX9_emit 25 = .ok (.ishl, 1) := by decide +kernel
theorem dX9_emit_26 : decode cX9_emit 26 = .ok (.ior, 1) := by decide +kernel
theorem dX9_emit_27 : decode cX9_emit 27 = .ok (.iastore, 1) := by decide +kernel
theorem dX9_emit_28 : decode cX9_emit 28 = .ok (.aload_n 0, 1) := by decide +kernel
theorem dX9_emit_29 : decode cX9_emit 29 = .ok (.dup, 1) := by decide +kernel
theorem dX9_emit_30 : decode cX9_emit 30 = .ok (.getfield 28, 3) := by decide +kernel
theorem dX9_emit_33 : decode cX9_emit 33 = .ok (.iconst 1, 1) := by decide +kernel
theorem dX9_emit_34 : decode cX9_emit 34 = .ok (.iadd, 1) := by decide +kernel
theorem dX9_emit_35 : decode cX9_emit 35 = .ok (.putfield 28, 3) := by decide +kernel
theorem dX9_emit_38 : decode cX9_emit 38 = .ok (.aload_n 0, 1) := by decide +kernel
theorem dX9_emit_39 : decode cX9_emit 39 = .ok (.getfield 28, 3) := by decide +kernel
theorem dX9_emit_42 : decode cX9_emit 42 = .ok (.iconst 1, 1) := by decide +kernel
theorem dX9_emit_43 : decode cX9_emit 43 = .ok (.isub, 1) := by decide +kernel
theorem dX9_emit_44 : decode cX9_emit 44 = .ok (.ireturn, 1) := by decide +kernel
theorem dX9_aimHere_0 : decode cX9_aimHere 0 = .ok (.iload_n 1, 1) := by decide +kernel
theorem dX9_aimHere_1 : decode cX9_aimHere 1 = .ok (.ifCond .lt 26, 3) := by decide +kernel
theorem dX9_aimHere_4 : decode cX9_aimHere 4 = .ok (.iload_n 1, 1) := by decide +kernel
theorem dX9_aimHere_5 : decode cX9_aimHere 5 = .ok (.aload_n 0, 1) := by decide +kernel
theorem dX9_aimHere_6 : decode cX9_aimHere 6 = .ok (.getfield 28, 3) := by decide +kernel
theorem dX9_aimHere_9 : decode cX9_aimHere 9 = .ok (.if_icmp .ge 18, 3) := by decide +kernel
theorem dX9_aimHere_12 : decode cX9_aimHere 12 = .ok (.aload_n 0, 1) := by decide +kernel
theorem dX9_aimHere_13 : decode cX9_aimHere 13 = .ok (.getfield 15, 3) := by decide +kernel
theorem dX9_aimHere_16 : decode cX9_aimHere 16 = .ok (.iload_n 1, 1) := by decide +kernel
theorem dX9_aimHere_17 : decode cX9_aimHere 17 = .ok (.dup2, 1) := by decide +kernel
theorem dX9_aimHere_18 : decode cX9_aimHere 18 = .ok (.iaload, 1) := by decide +kernel
theorem dX9_aimHere_19 : decode cX9_aimHere 19 = .ok (.aload_n 0, 1) := by decide +kernel
theorem dX9_aimHere_20 : decode cX9_aimHere 20 = .ok (.getfield 28, 3) := by decide +kernel
theorem dX9_aimHere_23 : decode cX9_aimHere 23 = .ok (.iconst 4, 1) := by decide +kernel
theorem dX9_aimHere_24 : decode cX9_aimHere 24 = .ok (.ishl, 1) := by decide +kernel
theorem dX9_aimHere_25 : decode cX9_aimHere 25 = .ok (.ior, 1) := by decide +kernel
theorem dX9_aimHere_26 : decode cX9_aimHere 26 = .ok (.iastore, 1) := by decide +kernel
theorem dX9_aimHere_27 : decode cX9_aimHere 27 = .ok (.return_, 1) := by decide +kernel
