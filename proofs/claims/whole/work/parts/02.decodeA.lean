theorem dX0_isA_0 : decode cX0_isA 0 = .ok (.iload_n 0, 1) := by decide +kernel
theorem dX0_isA_1 : decode cX0_isA 1 = .ok (.istore_n 2, 1) := by decide +kernel
theorem dX0_isA_2 : decode cX0_isA 2 = .ok (.iconst 0, 1) := by decide +kernel
theorem dX0_isA_3 : decode cX0_isA 3 = .ok (.istore_n 3, 1) := by decide +kernel
theorem dX0_isA_4 : decode cX0_isA 4 = .ok (.iload_n 3, 1) := by decide +kernel
theorem dX0_isA_5 : decode cX0_isA 5 = .ok (.getstatic 7, 3) := by decide +kernel
theorem dX0_isA_8 : decode cX0_isA 8 = .ok (.arraylength, 1) := by decide +kernel
theorem dX0_isA_9 : decode cX0_isA 9 = .ok (.if_icmp .ge 34, 3) := by decide +kernel
theorem dX0_isA_12 : decode cX0_isA 12 = .ok (.iload_n 2, 1) := by decide +kernel
theorem dX0_isA_13 : decode cX0_isA 13 = .ok (.ifCond .lt 30, 3) := by decide +kernel
theorem dX0_isA_16 : decode cX0_isA 16 = .ok (.iload_n 2, 1) := by decide +kernel
theorem dX0_isA_17 : decode cX0_isA 17 = .ok (.getstatic 7, 3) := by decide +kernel
theorem dX0_isA_20 : decode cX0_isA 20 = .ok (.arraylength, 1) := by decide +kernel
theorem dX0_isA_21 : decode cX0_isA 21 = .ok (.if_icmp .ge 22, 3) := by decide +kernel
theorem dX0_isA_24 : decode cX0_isA 24 = .ok (.iload_n 2, 1) := by decide +kernel
theorem dX0_isA_25 : decode cX0_isA 25 = .ok (.iload_n 1, 1) := by decide +kernel
theorem dX0_isA_26 : decode cX0_isA 26 = .ok (.if_icmp .ne 5, 3) := by decide +kernel
theorem dX0_isA_29 : decode cX0_isA 29 = .ok (.iconst 1, 1) := by decide +kernel
theorem dX0_isA_30 : decode cX0_isA 30 = .ok (.ireturn, 1) := by decide +kernel
theorem dX0_isA_31 : decode cX0_isA 31 = .ok (.getstatic 7, 3) := by decide +kernel
theorem dX0_isA_34 : decode cX0_isA 34 = .ok (.iload_n 2, 1) := by decide +kernel
theorem dX0_isA_35 : decode cX0_isA 35 = .ok (.iaload, 1) := by decide +kernel
theorem dX0_isA_36 : decode cX0_isA 36 = .ok (.istore_n 2, 1) := by decide +kernel
theorem dX0_isA_37 : decode cX0_isA 37 = .ok (.iinc 3 1, 3) := by decide +kernel
theorem dX0_isA_40 : decode cX0_isA 40 = .ok (.goto (-36), 3) := by decide +kernel
theorem dX0_isA_43 : decode cX0_isA 43 = .ok (.iconst 0, 1) := by decide +kernel
theorem dX0_isA_44 : decode cX0_isA 44 = .ok (.ireturn, 1) := by decide +kernel
theorem dX0_warms_0 : decode cX0_warms 0 = .ok (.iload_n 0, 1) := by decide +kernel
theorem dX0_warms_1 : decode cX0_warms 1 = .ok (.iconst 5, 1) := by decide +kernel
theorem dX0_warms_2 : decode cX0_warms 2 = .ok (.if_icmp .ne 9, 3) := by decide +kernel
theorem dX0_warms_5 : decode cX0_warms 5 = .ok (.iload_n 2, 1) := by decide +kernel
theorem dX0_warms_6 : decode cX0_warms 6 = .ok (.iconst 2, 1) := by decide +kernel
theorem dX0_warms_7 : decode cX0_warms 7 = .ok (.idiv, 1) := by decide +kernel
theorem dX0_warms_8 : decode cX0_warms 8 = .ok (.iconst 1, 1) := by decide +kernel
theorem dX0_warms_9 : decode cX0_warms 9 = .ok (.iadd, 1) := by decide +kernel
theorem dX0_warms_10 : decode cX0_warms 10 = .ok (.ireturn, 1) := by decide +kernel
theorem dX0_warms_11 : decode cX0_warms 11 = .ok (.iload_n 3, 1) := by decide +kernel
theorem dX0_warms_12 : decode cX0_warms 12 = .ok (.ifCond .eq 17, 3) := by decide +kernel
theorem dX0_warms_15 : decode cX0_warms 15 = .ok (.iload_n 0, 1) := by decide +kernel
theorem dX0_warms_16 : decode cX0_warms 16 = .ok (.iconst 1, 1) := by decide +kernel
theorem dX0_warms_17 : decode cX0_warms 17 = .ok (.invokestatic 13, 3) := by decide +kernel
theorem dX0_warms_20 : decode cX0_warms 20 = .ok (.ifCond .eq 9, 3) := by decide +kernel
theorem dX0_warms_23 : decode cX0_warms 23 = .ok (.iconst 2, 1) := by decide +kernel
theorem dX0_warms_24 : decode cX0_warms 24 = .ok (.iload_n 2, 1) := by decide +kernel
theorem dX0_warms_25 : decode cX0_warms 25 = .ok (.imul, 1) := by decide +kernel
theorem dX0_warms_26 : decode cX0_warms 26 = .ok (.goto 4, 3) := by decide +kernel
theorem dX0_warms_29 : decode cX0_warms 29 = .ok (.iload_n 2, 1) := by decide +kernel
theorem dX0_warms_30 : decode cX0_warms 30 = .ok (.istore 4, 2) := by decide +kernel
theorem dX0_warms_32 : decode cX0_warms 32 = .ok (.iload_n 0, 1) := by decide +kernel
theorem dX0_warms_33 : decode cX0_warms 33 = .ok (.iconst 3, 1) := by decide +kernel
theorem dX0_warms_34 : decode cX0_warms 34 = .ok (.if_icmp .ne 10, 3) := by decide +kernel
theorem dX0_warms_37 : decode cX0_warms 37 = .ok (.iload 4, 2) := by decide +kernel
theorem dX0_warms_39 : decode cX0_warms 39 = .ok (.iload_n 1, 1) := by decide +kernel
theorem dX0_warms_40 : decode cX0_warms 40 = .ok (.iadd, 1) := by decide +kernel
theorem dX0_warms_41 : decode cX0_warms 41 = .ok (.goto 5, 3) := by decide +kernel
theorem dX0_warms_44 : decode cX0_warms 44 = .ok (.iload 4, 2) := by decide +kernel
theorem dX0_warms_46 : decode cX0_warms 46 = .ok (.ireturn, 1) := by decide +kernel
theorem dX0_cools_0 : decode cX0_cools 0 = .ok (.iload_n 0, 1) := by decide +kernel
theorem dX0_cools_1 : decode cX0_cools 1 = .ok (.iconst 3, 1) := by decide +kernel
theorem dX0_cools_2 : decode cX0_cools 2 = .ok (.if_icmp .ne 14, 3) := by decide +kernel
theorem dX0_cools_5 : decode cX0_cools 5 = .ok (.iload_n 3, 1) := by decide +kernel
theorem dX0_cools_6 : decode cX0_cools 6 = .ok (.sipush 200, 3) := by decide +kernel
theorem dX0_cools_9 : decode cX0_cools 9 = .ok (.if_icmp .le 7, 3) := by decide +kernel
theorem dX0_cools_12 : decode cX0_cools 12 = .ok (.iload_n 2, 1) := by decide +kernel
theorem dX0_cools_13 : decode cX0_cools 13 = .ok (.iconst 2, 1) := by decide +kernel
theorem dX0_cools_14 : decode cX0_cools 14 = .ok (.idiv, 1) := by decide +kernel
theorem dX0_cools_15 : decode cX0_cools 15 = .ok (.ireturn, 1) := by decide +kernel
theorem dX0_cools_16 : decode cX0_cools 16 = .ok (.iload_n 0, 1) := by decide +kernel
theorem dX0_cools_17 : decode cX0_cools 17 = .ok (.iconst 5, 1) := by decide +kernel
theorem dX0_cools_18 : decode cX0_cools 18 = .ok (.if_icmp .ne 15, 3) := by decide +kernel
theorem dX0_cools_21 : decode cX0_cools 21 = .ok (.iload_n 3, 1) := by decide +kernel
theorem dX0_cools_22 : decode cX0_cools 22 = .ok (.bipush 10, 2) := by decide +kernel
theorem dX0_cools_24 : decode cX0_cools 24 = .ok (.iload_n 1, 1) := by decide +kernel
theorem dX0_cools_25 : decode cX0_cools 25 = .ok (.imul, 1) := by decide +kernel
theorem dX0_cools_26 : decode cX0_cools 26 = .ok (.if_icmp .ge 7, 3) := by decide +kernel
theorem dX0_cools_29 : decode cX0_cools 29 = .ok (.iconst 0, 1) := by decide +kernel
theorem dX0_cools_30 : decode cX0_cools 30 = .ok (.goto 4, 3) := by decide +kernel
theorem dX0_cools_33 : decode cX0_cools 33 = .ok (.iload_n 2, 1) := by decide +kernel
theorem dX0_cools_34 : decode cX0_cools 34 = .ok (.ireturn, 1) := by decide +kernel
theorem dX0_redFrom_0 : decode cX0_redFrom 0 = .ok (.bipush 60, 2) := by decide +kernel
theorem dX0_redFrom_2 : decode cX0_redFrom 2 = .ok (.iconst 4, 1) := by decide +kernel
theorem dX0_redFrom_3 : decode cX0_redFrom 3 = .ok (.iload_n 0, 1) := by decide +kernel
theorem dX0_redFrom_4 : decode cX0_redFrom 4 = .ok (.iconst 4, 1) := by decide +kernel
theorem dX0_redFrom_5 : decode cX0_redFrom 5 = .ok (.if_icmp .ne 9, 3) := by decide +kernel
theorem dX0_redFrom_8 : decode cX0_redFrom 8 = .ok (.iload_n 2, 1) := by decide +kernel
theorem dX0_redFrom_9 : decode cX0_redFrom 9 = .ok (.iconst 2, 1) := by decide +kernel
theorem dX0_redFrom_10 : decode cX0_redFrom 10 = .ok (.idiv, 1) := by decide +kernel
theorem dX0_redFrom_11 : decode cX0_redFrom 11 = .ok (.goto 4, 3) := by decide +kernel
theorem dX0_redFrom_14 : decode cX0_redFrom 14 = .ok (.iload_n 2, 1) := by decide +kernel
theorem dX0_redFrom_15 : decode cX0_redFrom 15 = .ok (.imul, 1) := by decide +kernel
theorem dX0_redFrom_16 : decode cX0_redFrom 16 = .ok (.isub, 1) := by decide +kernel
theorem dX0_redFrom_17 : decode cX0_redFrom 17 = .ok (.istore_n 3, 1) := by decide +kernel
theorem dX0_redFrom_18 : decode cX0_redFrom 18 = .ok (.iload_n 0, 1) := by decide +kernel
theorem dX0_redFrom_19 : decode cX0_redFrom 19 = .ok (.iconst 2, 1) := by decide +kernel
theorem dX0_redFrom_20 : decode cX0_redFrom 20 = .ok (.invokestatic 13, 3) := by decide +kernel
theorem dX0_redFrom_23 : decode cX0_redFrom 23 = .ok (.ifCond .eq 10, 3) := by decide +kernel
theorem dX0_redFrom_26 : decode cX0_redFrom 26 = .ok (.iload_n 3, 1) := by decide +kernel
theorem dX0_redFrom_27 : decode cX0_redFrom 27 = .ok (.bipush 10, 2) := by decide +kernel
theorem dX0_redFrom_29 : decode cX0_redFrom 29 = .ok (.iload_n 1, 1) := by decide +kernel
theorem dX0_redFrom_30 : decode cX0_redFrom 30 = .ok (.imul, 1) := by decide +kernel
theorem dX0_redFrom_31 : decode cX0_redFrom 31 = .ok (.iadd, 1) := by decide +kernel
theorem dX0_redFrom_32 : decode cX0_redFrom 32 = .ok (.istore_n 3, 1) := by decide +kernel
theorem dX0_redFrom_33 : decode cX0_redFrom 33 = .ok (.iconst 1, 1) := by decide +kernel
theorem dX0_redFrom_34 : decode cX0_redFrom 34 = .ok (.iload_n 0, 1) := by decide +kernel
theorem dX0_redFrom_35 : decode cX0_redFrom 35 = .ok (.iconst 4, 1) := by decide +kernel
theorem dX0_redFrom_36 : decode cX0_redFrom 36 = .ok (.if_icmp .ne 10, 3) := by decide +kernel
theorem dX0_redFrom_39 : decode cX0_redFrom 39 = .ok (.iload_n 3, 1) := by decide +kernel
theorem dX0_redFrom_40 : decode cX0_redFrom 40 = .ok (.bipush 20, 2) := by decide +kernel
theorem dX0_redFrom_42 : decode cX0_redFrom 42 = .ok (.iadd, 1) := by decide +kernel
theorem dX0_redFrom_43 : decode cX0_redFrom 43 = .ok (.goto 4, 3) := by decide +kernel
theorem dX0_redFrom_46 : decode cX0_redFrom 46 = .ok (.iload_n 3, 1) := by decide +kernel
theorem dX0_redFrom_47 : decode cX0_redFrom 47 = .ok (.invokestatic 17, 3) := by decide +kernel
theorem dX0_redFrom_50 : decode cX0_redFrom 50 = .ok (.ireturn, 1) := by decide +kernel
theorem dX1_init_0 : decode cX1_init 0 = .ok (.aload_n 0, 1) := by decide +kernel
theorem dX1_init_1 : decode cX1_init 1 = .ok (.invokespecial 1, 3) := by decide +kernel
theorem dX1_init_4 : decode cX1_init 4 = .ok (.aload_n 0, 1) := by decide +kernel
theorem dX1_init_5 : decode cX1_init 5 = .ok (.bipush 6, 2) := by decide +kernel
theorem dX1_init_7 : decode cX1_init 7 = .ok (.newarray .int, 2) := by decide +kernel
theorem dX1_init_9 : decode cX1_init 9 = .ok (.putfield 9, 3) := by decide +kernel
theorem dX1_init_12 : decode cX1_init 12 = .ok (.return_, 1) := by decide +kernel
theorem dX1_tell_0 : decode cX1_tell 0 = .ok (.aload_n 0, 1) := by decide +kernel
theorem dX1_tell_1 : decode cX1_tell 1 = .ok (.getfield 9, 3) := by decide +kernel
theorem dX1_tell_4 : decode cX1_tell 4 = .ok (.iconst 0, 1) := by decide +kernel
theorem dX1_tell_5 : decode cX1_tell 5 = .ok (.iload_n 1, 1) := by decide +kernel
theorem dX1_tell_6 : decode cX1_tell 6 = .ok (.iastore, 1) := by decide +kernel
theorem dX1_tell_7 : decode cX1_tell 7 = .ok (.aload_n 0, 1) := by decide +kernel
theorem dX1_tell_8 : decode cX1_tell 8 = .ok (.getfield 9, 3) := by decide +kernel
theorem dX1_tell_11 : decode cX1_tell 11 = .ok (.iconst 2, 1) := by decide +kernel
theorem dX1_tell_12 : decode cX1_tell 12 = .ok (.iload_n 2, 1) := by decide +kernel
theorem dX1_tell_13 : decode cX1_tell 13 = .ok (.iastore, 1) := by decide +kernel
theorem dX1_tell_14 : decode cX1_tell 14 = .ok (.aload_n 0, 1) := by decide +kernel
theorem dX1_tell_15 : decode cX1_tell 15 = .ok (.getfield 9, 3) := by decide +kernel
theorem dX1_tell_18 : decode cX1_tell 18 = .ok (.iconst 3, 1) := by decide +kernel
theorem dX1_tell_19 : decode cX1_tell 19 = .ok (.iload_n 3, 1) := by decide +kernel
theorem dX1_tell_20 : decode cX1_tell 20 = .ok (.iastore, 1) := by decide +kernel
theorem dX1_tell_21 : decode cX1_tell 21 = .ok (.aload_n 0, 1) := by decide +kernel
theorem dX1_tell_22 : decode cX1_tell 22 = .ok (.getfield 9, 3) := by decide +kernel
theorem dX1_tell_25 : decode cX1_tell 25 = .ok (.iconst 4, 1) := by decide +kernel
theorem dX1_tell_26 : decode cX1_tell 26 = .ok (.iload 4, 2) := by decide +kernel
theorem dX1_tell_28 : decode cX1_tell 28 = .ok (.iastore, 1) := by decide +kernel
theorem dX1_tell_29 : decode cX1_tell 29 = .ok (.return_, 1) := by decide +kernel
theorem dX1_tellLooks_0 : decode cX1_tellLooks 0 = .ok (.aload_n 0, 1) := by decide +kernel
theorem dX1_tellLooks_1 : decode cX1_tellLooks 1 = .ok (.getfield 9, 3) := by decide +kernel
theorem dX1_tellLooks_4 : decode cX1_tellLooks 4 = .ok (.iconst 1, 1) := by decide +kernel
theorem dX1_tellLooks_5 : decode cX1_tellLooks 5 = .ok (.iload_n 1, 1) := by decide +kernel
theorem dX1_tellLooks_6 : decode cX1_tellLooks 6 = .ok (.iastore, 1) := by decide +kernel
theorem dX1_tellLooks_7 : decode cX1_tellLooks 7 = .ok (.aload_n 0, 1) := by decide +kernel
theorem dX1_tellLooks_8 : decode cX1_tellLooks 8 = .ok (.getfield 9, 3) := by decide +kernel
theorem dX1_tellLooks_11 : decode cX1_tellLooks 11 = .ok (.iconst 5, 1) := by decide +kernel
theorem dX1_tellLooks_12 : decode cX1_tellLooks 12 = .ok (.iload_n 2, 1) := by decide +kernel
theorem dX1_tellLooks_13 : decode cX1_tellLooks 13 = .ok (.iastore, 1) := by decide +kernel
theorem dX1_tellLooks_14 : decode cX1_tellLooks 14 = .ok (.return_, 1) := by decide +kernel
theorem dX2_init_0 : decode cX2_init 0 = .ok (.aload_n 0, 1) := by decide +kernel
theorem dX2_init_1 : decode cX2_init 1 = .ok (.invokespecial 3, 3) := by decide +kernel
theorem dX2_init_4 : decode cX2_init 4 = .ok (.aload_n 0, 1) := by decide +kernel
theorem dX2_init_5 : decode cX2_init 5 = .ok (.sipush 160, 3) := by decide +kernel
theorem dX2_init_8 : decode cX2_init 8 = .ok (.newarray .int, 2) := by decide +kernel
theorem dX2_init_10 : decode cX2_init 10 = .ok (.putfield 9, 3) := by decide +kernel
theorem dX2_init_13 : decode cX2_init 13 = .ok (.aload_n 0, 1) := by decide +kernel
theorem dX2_init_14 : decode cX2_init 14 = .ok (.iconst 0, 1) := by decide +kernel
theorem dX2_init_15 : decode cX2_init 15 = .ok (.putfield 15, 3) := by decide +kernel
theorem dX2_init_18 : decode cX2_init 18 = .ok (.aload_n 0, 1) := by decide +kernel
theorem dX2_init_19 : decode cX2_init 19 = .ok (.bipush (-24), 2) := by decide +kernel
theorem dX2_init_21 : decode cX2_init 21 = .ok (.putfield 21, 3) := by decide +kernel
theorem dX2_init_24 : decode cX2_init 24 = .ok (.aload_n 0, 1) := by decide +kernel
theorem dX2_init_25 : decode cX2_init 25 = .ok (.iconst 0, 1) := by decide +kernel
theorem dX2_init_26 : decode cX2_init 26 = .ok (.putfield 24, 3) := by decide +kernel
theorem dX2_init_29 : decode cX2_init 29 = .ok (.aload_n 0, 1) := by decide +kernel
theorem dX2_init_30 : decode cX2_init 30 = .ok (.iconst 0, 1) := by decide +kernel
theorem dX2_init_31 : decode cX2_init 31 = .ok (.putfield 27, 3) := by decide +kernel
theorem dX2_init_34 : decode cX2_init 34 = .ok (.aload_n 0, 1) := by decide +kernel
theorem dX2_init_35 : decode cX2_init 35 = .ok (.iconst 0, 1) := by decide +kernel
theorem dX2_init_36 : decode cX2_init 36 = .ok (.putfield 30, 3) := by decide +kernel
theorem dX2_init_39 : decode cX2_init 39 = .ok (.aload_n 0, 1) := by decide +kernel
theorem dX2_init_40 : decode cX2_init 40 = .ok (.iconst (-1), 1) := by decide +kernel
theorem dX2_init_41 : decode cX2_init 41 = .ok (.putfield 33, 3) := by decide +kernel
theorem dX2_init_44 : decode cX2_init 44 = .ok (.aload_n 0, 1) := by decide +kernel
theorem dX2_init_45 : decode cX2_init 45 = .ok (.aload_n 1, 1) := by decide +kernel
theorem dX2_init_46 : decode cX2_init 46 = .ok (.putfield 36, 3) := by decide +kernel
theorem dX2_init_49 : decode cX2_init 49 = .ok (.return_, 1) := by decide +kernel
theorem dX2_taped_0 : decode cX2_taped 0 = .ok (.aload_n 0, 1) := by decide +kernel
theorem dX2_taped_1 : decode cX2_taped 1 = .ok (.getfield 15, 3) := by decide +kernel
theorem dX2_taped_4 : decode cX2_taped 4 = .ok (.ireturn, 1) := by decide +kernel
theorem dX2_tape_0 : decode cX2_tape 0 = .ok (.aload_n 0, 1) := by decide +kernel
theorem dX2_tape_1 : decode cX2_tape 1 = .ok (.getfield 15, 3) := by decide +kernel
theorem dX2_tape_4 : decode cX2_tape 4 = .ok (.ifCond .lt 33, 3) := by decide +kernel
theorem dX2_tape_7 : decode cX2_tape 7 = .ok (.aload_n 0, 1) := by decide +kernel
theorem dX2_tape_8 : decode cX2_tape 8 = .ok (.getfield 15, 3) := by decide +kernel
theorem dX2_tape_11 : decode cX2_tape 11 = .ok (.sipush 160, 3) := by decide +kernel
theorem dX2_tape_14 : decode cX2_tape 14 = .ok (.if_icmp .ge 23, 3) := by decide +kernel
theorem dX2_tape_17 : decode cX2_tape 17 = .ok (.aload_n 0, 1) := by decide +kernel
theorem dX2_tape_18 : decode cX2_tape 18 = .ok (.getfield 9, 3) := by decide +kernel
theorem dX2_tape_21 : decode cX2_tape 21 = .ok (.aload_n 0, 1) := by decide +kernel
theorem dX2_tape_22 : decode cX2_tape 22 = .ok (.getfield 15, 3) := by decide +kernel
theorem dX2_tape_25 : decode cX2_tape 25 = .ok (.iload_n 1, 1) := by decide +kernel
theorem dX2_tape_26 : decode cX2_tape 26 = .ok (.iastore, 1) := by decide +kernel
theorem dX2_tape_27 : decode cX2_tape 27 = .ok (.aload_n 0, 1) := by decide +kernel
theorem dX2_tape_28 : decode cX2_tape 28 = .ok (.dup, 1) := by decide +kernel
theorem dX2_tape_29 : decode cX2_tape 29 = .ok (.getfield 15, 3) := by decide +kernel
theorem dX2_tape_32 : decode cX2_tape 32 = .ok (.iconst 1, 1) := by decide +kernel
theorem dX2_tape_33 : decode cX2_tape 33 = .ok (.iadd, 1) := by decide +kernel
theorem dX2_tape_34 : decode cX2_tape 34 = .ok (.putfield 15, 3) := by decide +kernel
theorem dX2_tape_37 : decode cX2_tape 37 = .ok (.return_, 1) := by decide +kernel
theorem dX2_readTape_0 : decode cX2_readTape 0 = .ok (.aload_n 0, 1) := by decide +kernel
theorem dX2_readTape_1 : decode cX2_readTape 1 = .ok (.iconst 0, 1) := by decide +kernel
theorem dX2_readTape_2 : decode cX2_readTape 2 = .ok (.putfield 30, 3) := by decide +kernel
theorem dX2_readTape_5 : decode cX2_readTape 5 = .ok (.aload_n 0, 1) := by decide +kernel
theorem dX2_readTape_6 : decode cX2_readTape 6 = .ok (.iconst (-1), 1) := by decide +kernel
theorem dX2_readTape_7 : decode cX2_readTape 7 = .ok (.putfield 33, 3) := by decide +kernel
theorem dX2_readTape_10 : decode cX2_readTape 10 = .ok (.aload_n 0, 1) := by decide +kernel
theorem dX2_readTape_11 : decode cX2_readTape 11 = .ok (.getfield 36, 3) := by decide +kernel
theorem dX2_readTape_14 : decode cX2_readTape 14 = .ok (.invokevirtual 40, 3) := by decide +kernel
theorem dX2_readTape_17 : decode cX2_readTape 17 = .ok (.aload_n 0, 1) := by decide +kernel
theorem dX2_readTape_18 : decode cX2_readTape 18 = .ok (.invokevirtual 45, 3) := by decide +kernel
theorem dX2_readTape_21 : decode cX2_readTape 21 = .ok (.iconst 0, 1) := by decide +kernel
theorem dX2_readTape_22 : decode cX2_readTape 22 = .ok (.istore_n 1, 1) := by decide +kernel
theorem dX2_readTape_23 : decode cX2_readTape 23 = .ok (.iload_n 1, 1) := by decide +kernel
theorem dX2_readTape_24 : decode cX2_readTape 24 = .ok (.iconst 3, 1) := by decide +kernel
theorem dX2_readTape_25 : decode cX2_readTape 25 = .ok (.if_icmp .ge 36, 3) := by decide +kernel
theorem dX2_readTape_28 : decode cX2_readTape 28 = .ok (.aload_n 0, 1) := by decide +kernel
theorem dX2_readTape_29 : decode cX2_readTape 29 = .ok (.iload_n 1, 1) := by decide +kernel
theorem dX2_readTape_30 : decode cX2_readTape 30 = .ok (.invokestatic 48, 3) := by decide +kernel
theorem dX2_readTape_33 : decode cX2_readTape 33 = .ok (.invokevirtual 52, 3) := by decide +kernel
theorem dX2_readTape_36 : decode cX2_readTape 36 = .ok (.aload_n 0, 1) := by decide +kernel
theorem dX2_readTape_37 : decode cX2_readTape 37 = .ok (.iconst 0, 1) := by decide +kernel
theorem dX2_readTape_38 : decode cX2_readTape 38 = .ok (.invokevirtual 56, 3) := by decide +kernel
theorem dX2_readTape_41 : decode cX2_readTape 41 = .ok (.aload_n 0, 1) := by decide +kernel
theorem dX2_readTape_42 : decode cX2_readTape 42 = .ok (.bipush (-22), 2) := by decide +kernel
theorem dX2_readTape_44 : decode cX2_readTape 44 = .ok (.invokevirtual 52, 3) := by decide +kernel
theorem dX2_readTape_47 : decode cX2_readTape 47 = .ok (.aload_n 0, 1) := by decide +kernel
theorem dX2_readTape_48 : decode cX2_readTape 48 = .ok (.getfield 36, 3) := by decide +kernel
theorem dX2_readTape_51 : decode cX2_readTape 51 = .ok (.iload_n 1, 1) := by decide +kernel
theorem dX2_readTape_52 : decode cX2_readTape 52 = .ok (.invokevirtual 59, 3) := by decide +kernel
theorem dX2_readTape_55 : decode cX2_readTape 55 = .ok (.iinc 1 1, 3) := by decide +kernel
theorem dX2_readTape_58 : decode cX2_readTape 58 = .ok (.goto (-35), 3) := by decide +kernel
theorem dX2_readTape_61 : decode cX2_readTape 61 = .ok (.aload_n 0, 1) := by decide +kernel
theorem dX2_readTape_62 : decode cX2_readTape 62 = .ok (.getfield 21, 3) := by decide +kernel
theorem dX2_readTape_65 : decode cX2_readTape 65 = .ok (.bipush (-23), 2) := by decide +kernel
theorem dX2_readTape_67 : decode cX2_readTape 67 = .ok (.if_icmp .eq 7, 3) := by decide +kernel
theorem dX2_readTape_70 : decode cX2_readTape 70 = .ok (.aload_n 0, 1) := by decide +kernel
theorem dX2_readTape_71 : decode cX2_readTape 71 = .ok (.invokevirtual 62, 3) := by decide +kernel
theorem dX2_readTape_74 : decode cX2_readTape 74 = .ok (.aload_n 0, 1) := by decide +kernel
theorem dX2_readTape_75 : decode cX2_readTape 75 = .ok (.getfield 33, 3) := by decide +kernel
theorem dX2_readTape_78 : decode cX2_readTape 78 = .ok (.iconst (-1), 1) := by decide +kernel
theorem dX2_readTape_79 : decode cX2_readTape 79 = .ok (.if_icmp .ne 10, 3) := by decide +kernel
theorem dX2_readTape_82 : decode cX2_readTape 82 = .ok (.aload_n 0, 1) := by decide +kernel
theorem dX2_readTape_83 : decode cX2_readTape 83 = .ok (.getfield 36, 3) := by decide +kernel
theorem dX2_readTape_86 : decode cX2_readTape 86 = .ok (.invokevirtual 65, 3) := by decide +kernel
theorem dX2_readTape_89 : decode cX2_readTape 89 = .ok (.aload_n 0, 1) := by decide +kernel
theorem dX2_readTape_90 : decode cX2_readTape 90 = .ok (.iconst 0, 1) := by decide +kernel
theorem dX2_readTape_91 : decode cX2_readTape 91 = .ok (.putfield 15, 3) := by decide +kernel
theorem dX2_readTape_94 : decode cX2_readTape 94 = .ok (.aload_n 0, 1) := by decide +kernel
theorem dX2_readTape_95 : decode cX2_readTape 95 = .ok (.getfield 33, 3) := by decide +kernel
theorem dX2_readTape_98 : decode cX2_readTape 98 = .ok (.ireturn, 1) := by decide +kernel
theorem dX2_readOr_0 : decode cX2_readOr 0 = .ok (.aload_n 0, 1) := by decide +kernel
theorem dX2_readOr_1 : decode cX2_readOr 1 = .ok (.iload_n 1, 1) := by decide +kernel
theorem dX2_readOr_2 : decode cX2_readOr 2 = .ok (.invokevirtual 68, 3) := by decide +kernel
theorem dX2_readOr_5 : decode cX2_readOr 5 = .ok (.iconst 0, 1) := by decide +kernel
theorem dX2_readOr_6 : decode cX2_readOr 6 = .ok (.istore_n 2, 1) := by decide +kernel
theorem dX2_readOr_7 : decode cX2_readOr 7 = .ok (.iload_n 2, 1) := by decide +kernel
theorem dX2_readOr_8 : decode cX2_readOr 8 = .ok (.sipush 160, 3) := by decide +kernel
theorem dX2_readOr_11 : decode cX2_readOr 11 = .ok (.if_icmp .ge 36, 3) := by decide +kernel
theorem dX2_readOr_14 : decode cX2_readOr 14 = .ok (.aload_n 0, 1) := by decide +kernel
theorem dX2_readOr_15 : decode cX2_readOr 15 = .ok (.getfield 21, 3) := by decide +kernel
theorem dX2_readOr_18 : decode cX2_readOr 18 = .ok (.bipush (-7), 2) := by decide +kernel
theorem dX2_readOr_20 : decode cX2_readOr 20 = .ok (.if_icmp .ne 27, 3) := by decide +kernel
theorem dX2_readOr_23 : decode cX2_readOr 23 = .ok (.aload_n 0, 1) := by decide +kernel
theorem dX2_readOr_24 : decode cX2_readOr 24 = .ok (.invokevirtual 45, 3) := by decide +kernel
theorem dX2_readOr_27 : decode cX2_readOr 27 = .ok (.aload_n 0, 1) := by decide +kernel
theorem dX2_readOr_28 : decode cX2_readOr 28 = .ok (.iload_n 1, 1) := by decide +kernel
theorem dX2_readOr_29 : decode cX2_readOr 29 = .ok (.invokevirtual 68, 3) := by decide +kernel
theorem dX2_readOr_32 : decode cX2_readOr 32 = .ok (.aload_n 0, 1) := by decide +kernel
theorem dX2_readOr_33 : decode cX2_readOr 33 = .ok (.getfield 36, 3) := by decide +kernel
theorem dX2_readOr_36 : decode cX2_readOr 36 = .ok (.bipush (-7), 2) := by decide +kernel
theorem dX2_readOr_38 : decode cX2_readOr 38 = .ok (.invokevirtual 71, 3) := by decide +kernel
theorem dX2_readOr_41 : decode cX2_readOr 41 = .ok (.iinc 2 1, 3) := by decide +kernel
theorem dX2_readOr_44 : decode cX2_readOr 44 = .ok (.goto (-37), 3) := by decide +kernel
theorem dX2_readOr_47 : decode cX2_readOr 47 = .ok (.return_, 1) := by decide +kernel
theorem dX2_readAnd_0 : decode cX2_readAnd 0 = .ok (.aload_n 0, 1) := by decide +kernel
theorem dX2_readAnd_1 : decode cX2_readAnd 1 = .ok (.iload_n 1, 1) := by decide +kernel
theorem dX2_readAnd_2 : decode cX2_readAnd 2 = .ok (.invokevirtual 74, 3) := by decide +kernel
theorem dX2_readAnd_5 : decode cX2_readAnd 5 = .ok (.iconst 0, 1) := by decide +kernel
theorem dX2_readAnd_6 : decode cX2_readAnd 6 = .ok (.istore_n 2, 1) := by decide +kernel
theorem dX2_readAnd_7 : decode cX2_readAnd 7 = .ok (.iload_n 2, 1) := by decide +kernel
theorem dX2_readAnd_8 : decode cX2_readAnd 8 = .ok (.sipush 160, 3) := by decide +kernel
theorem dX2_readAnd_11 : decode cX2_readAnd 11 = .ok (.if_icmp .ge 36, 3) := by decide +kernel
theorem dX2_readAnd_14 : decode cX2_readAnd 14 = .ok (.aload_n 0, 1) := by decide +kernel
theorem dX2_readAnd_15 : decode cX2_readAnd 15 = .ok (.getfield 21, 3) := by decide +kernel
theorem dX2_readAnd_18 : decode cX2_readAnd 18 = .ok (.bipush (-8), 2) := by decide +kernel
theorem dX2_readAnd_20 : decode cX2_readAnd 20 = .ok (.if_icmp .ne 27, 3) := by decide +kernel
theorem dX2_readAnd_23 : decode cX2_readAnd 23 = .ok (.aload_n 0, 1) := by decide +kernel
theorem dX2_readAnd_24 : decode cX2_readAnd 24 = .ok (.invokevirtual 45, 3) := by decide +kernel
theorem dX2_readAnd_27 : decode cX2_readAnd 27 = .ok (.aload_n 0, 1) := by decide +kernel
theorem dX2_readAnd_28 : decode cX2_readAnd 28 = .ok (.iload_n 1, 1) := by decide +kernel
theorem dX2_readAnd_29 : decode cX2_readAnd 29 = .ok (.invokevirtual 74, 3) := by decide +kernel
theorem dX2_readAnd_32 : decode cX2_readAnd 32 = .ok (.aload_n 0, 1) := by decide +kernel
theorem dX2_readAnd_33 : decode cX2_readAnd 33 = .ok (.getfield 36, 3) := by decide +kernel
theorem dX2_readAnd_36 : decode cX2_readAnd 36 = .ok (.bipush (-8), 2) := by decide +kernel
theorem dX2_readAnd_38 : decode cX2_readAnd 38 = .ok (.invokevirtual 71, 3) := by decide +kernel
theorem dX2_readAnd_41 : decode cX2_readAnd 41 = .ok (.iinc 2 1, 3) := by decide +kernel
theorem dX2_readAnd_44 : decode cX2_readAnd 44 = .ok (.goto (-37), 3) := by decide +kernel
theorem dX2_readAnd_47 : decode cX2_readAnd 47 = .ok (.return_, 1) := by decide +kernel
theorem dX2_readNot_0 : decode cX2_readNot 0 = .ok (.aload_n 0, 1) := by decide +kernel
theorem dX2_readNot_1 : decode cX2_readNot 1 = .ok (.getfield 21, 3) := by decide +kernel
theorem dX2_readNot_4 : decode cX2_readNot 4 = .ok (.bipush (-9), 2) := by decide +kernel
theorem dX2_readNot_6 : decode cX2_readNot 6 = .ok (.if_icmp .eq 11, 3) := by decide +kernel
theorem dX2_readNot_9 : decode cX2_readNot 9 = .ok (.aload_n 0, 1) := by decide +kernel
theorem dX2_readNot_10 : decode cX2_readNot 10 = .ok (.iload_n 1, 1) := by decide +kernel
theorem dX2_readNot_11 : decode cX2_readNot 11 = .ok (.invokevirtual 77, 3) := by decide +kernel
theorem dX2_readNot_14 : decode cX2_readNot 14 = .ok (.goto 35, 3) := by decide +kernel
theorem dX2_readNot_17 : decode cX2_readNot 17 = .ok (.iload_n 1, 1) := by decide +kernel
theorem dX2_readNot_18 : decode cX2_readNot 18 = .ok (.iconst 5, 1) := by decide +kernel
theorem dX2_readNot_19 : decode cX2_readNot 19 = .ok (.if_icmp .lt 10, 3) := by decide +kernel
theorem dX2_readNot_22 : decode cX2_readNot 22 = .ok (.aload_n 0, 1) := by decide +kernel
theorem dX2_readNot_23 : decode cX2_readNot 23 = .ok (.invokevirtual 62, 3) := by decide +kernel
theorem dX2_readNot_26 : decode cX2_readNot 26 = .ok (.goto 23, 3) := by decide +kernel
theorem dX2_readNot_29 : decode cX2_readNot 29 = .ok (.aload_n 0, 1) := by decide +kernel
theorem dX2_readNot_30 : decode cX2_readNot 30 = .ok (.invokevirtual 45, 3) := by decide +kernel
theorem dX2_readNot_33 : decode cX2_readNot 33 = .ok (.aload_n 0, 1) := by decide +kernel
theorem dX2_readNot_34 : decode cX2_readNot 34 = .ok (.iload_n 1, 1) := by decide +kernel
theorem dX2_readNot_35 : decode cX2_readNot 35 = .ok (.iconst 1, 1) := by decide +kernel
theorem dX2_readNot_36 : decode cX2_readNot 36 = .ok (.iadd, 1) := by decide +kernel
theorem dX2_readNot_37 : decode cX2_readNot 37 = .ok (.invokevirtual 74, 3) := by decide +kernel
theorem dX2_readNot_40 : decode cX2_readNot 40 = .ok (.aload_n 0, 1) := by decide +kernel
theorem dX2_readNot_41 : decode cX2_readNot 41 = .ok (.getfield 36, 3) := by decide +kernel
theorem dX2_readNot_44 : decode cX2_readNot 44 = .ok (.bipush (-9), 2) := by decide +kernel
theorem dX2_readNot_46 : decode cX2_readNot 46 = .ok (.invokevirtual 71, 3) := by decide +kernel
theorem dX2_readNot_49 : decode cX2_readNot 49 = .ok (.return_, 1) := by decide +kernel
theorem dX2_readCompared_0 : decode cX2_readCompared 0 = .ok (.aload_n 0, 1) := by decide +kernel
theorem dX2_readCompared_1 : decode cX2_readCompared 1 = .ok (.iload_n 1, 1) := by decide +kernel
theorem dX2_readCompared_2 : decode cX2_readCompared 2 = .ok (.invokevirtual 80, 3) := by decide +kernel
theorem dX2_readCompared_5 : decode cX2_readCompared 5 = .ok (.aload_n 0, 1) := by decide +kernel
theorem dX2_readCompared_6 : decode cX2_readCompared 6 = .ok (.getfield 21, 3) := by decide +kernel
theorem dX2_readCompared_9 : decode cX2_readCompared 9 = .ok (.bipush (-13), 2) := by decide +kernel
theorem dX2_readCompared_11 : decode cX2_readCompared 11 = .ok (.if_icmp .eq 12, 3) := by decide +kernel
theorem dX2_readCompared_14 : decode cX2_readCompared 14 = .ok (.aload_n 0, 1) := by decide +kernel
theorem dX2_readCompared_15 : decode cX2_readCompared 15 = .ok (.getfield 21, 3) := by decide +kernel
theorem dX2_readCompared_18 : decode cX2_readCompared 18 = .ok (.bipush (-14), 2) := by decide +kernel
theorem dX2_readCompared_20 : decode cX2_readCompared 20 = .ok (.if_icmp .ne 25, 3) := by decide +kernel
theorem dX2_readCompared_23 : decode cX2_readCompared 23 = .ok (.aload_n 0, 1) := by decide +kernel
theorem dX2_readCompared_24 : decode cX2_readCompared 24 = .ok (.getfield 21, 3) := by decide +kernel
theorem dX2_readCompared_27 : decode cX2_readCompared 27 = .ok (.istore_n 2, 1) := by decide +kernel
theorem dX2_readCompared_28 : decode cX2_readCompared 28 = .ok (.aload_n 0, 1) := by decide +kernel
theorem dX2_readCompared_29 : decode cX2_readCompared 29 = .ok (.invokevirtual 45, 3) := by decide +kernel
theorem dX2_readCompared_32 : decode cX2_readCompared 32 = .ok (.aload_n 0, 1) := by decide +kernel
theorem dX2_readCompared_33 : decode cX2_readCompared 33 = .ok (.iload_n 1, 1) := by decide +kernel
theorem dX2_readCompared_34 : decode cX2_readCompared 34 = .ok (.invokevirtual 80, 3) := by decide +kernel
theorem dX2_readCompared_37 : decode cX2_readCompared 37 = .ok (.aload_n 0, 1) := by decide +kernel
theorem dX2_readCompared_38 : decode cX2_readCompared 38 = .ok (.getfield 36, 3) := by decide +kernel
theorem dX2_readCompared_41 : decode cX2_readCompared 41 = .ok (.iload_n 2, 1) := by decide +kernel
theorem dX2_readCompared_42 : decode cX2_readCompared 42 = .ok (.invokevirtual 71, 3) := by decide +kernel
theorem dX2_readCompared_45 : decode cX2_readCompared 45 = .ok (.return_, 1) := by decide +kernel
theorem dX2_readSum_0 : decode cX2_readSum 0 = .ok (.aload_n 0, 1) := by decide +kernel
theorem dX2_readSum_1 : decode cX2_readSum 1 = .ok (.iload_n 1, 1) := by decide +kernel
theorem dX2_readSum_2 : decode cX2_readSum 2 = .ok (.invokevirtual 83, 3) := by decide +kernel
theorem dX2_readSum_5 : decode cX2_readSum 5 = .ok (.iconst 0, 1) := by decide +kernel
theorem dX2_readSum_6 : decode cX2_readSum 6 = .ok (.istore_n 2, 1) := by decide +kernel
theorem dX2_readSum_7 : decode cX2_readSum 7 = .ok (.iload_n 2, 1) := by decide +kernel
theorem dX2_readSum_8 : decode cX2_readSum 8 = .ok (.sipush 160, 3) := by decide +kernel
theorem dX2_readSum_11 : decode cX2_readSum 11 = .ok (.if_icmp .ge 49, 3) := by decide +kernel
theorem dX2_readSum_14 : decode cX2_readSum 14 = .ok (.aload_n 0, 1) := by decide +kernel
theorem dX2_readSum_15 : decode cX2_readSum 15 = .ok (.getfield 21, 3) := by decide +kernel
theorem dX2_readSum_18 : decode cX2_readSum 18 = .ok (.bipush (-15), 2) := by decide +kernel
theorem dX2_readSum_20 : decode cX2_readSum 20 = .ok (.if_icmp .eq 12, 3) := by decide +kernel
theorem dX2_readSum_23 : decode cX2_readSum 23 = .ok (.aload_n 0, 1) := by decide +kernel
theorem dX2_readSum_24 : decode cX2_readSum 24 = .ok (.getfield 21, 3) := by decide +kernel
theorem dX2_readSum_27 : decode cX2_readSum 27 = .ok (.bipush (-16), 2) := by decide +kernel
theorem dX2_readSum_29 : decode cX2_readSum 29 = .ok (.if_icmp .ne 31, 3) := by decide +kernel
theorem dX2_readSum_32 : decode cX2_readSum 32 = .ok (.aload_n 0, 1) := by decide +kernel
theorem dX2_readSum_33 : decode cX2_readSum 33 = .ok (.getfield 21, 3) := by decide +kernel
theorem dX2_readSum_36 : decode cX2_readSum 36 = .ok (.istore_n 3, 1) := by decide +kernel
theorem dX2_readSum_37 : decode cX2_readSum 37 = .ok (.aload_n 0, 1) := by decide +kernel
theorem dX2_readSum_38 : decode cX2_readSum 38 = .ok (.invokevirtual 45, 3) := by decide +kernel
theorem dX2_readSum_41 : decode cX2_readSum 41 = .ok (.aload_n 0, 1) := by decide +kernel
theorem dX2_readSum_42 : decode cX2_readSum 42 = .ok (.iload_n 1, 1) := by decide +kernel
theorem dX2_readSum_43 : decode cX2_readSum 43 = .ok (.invokevirtual 83, 3) := by decide +kernel
theorem dX2_readSum_46 : decode cX2_readSum 46 = .ok (.aload_n 0, 1) := by decide +kernel
theorem dX2_readSum_47 : decode cX2_readSum 47 = .ok (.getfield 36, 3) := by decide +kernel
theorem dX2_readSum_50 : decode cX2_readSum 50 = .ok (.iload_n 3, 1) := by decide +kernel
theorem dX2_readSum_51 : decode cX2_readSum 51 = .ok (.invokevirtual 71, 3) := by decide +kernel
theorem dX2_readSum_54 : decode cX2_readSum 54 = .ok (.iinc 2 1, 3) := by decide +kernel
theorem dX2_readSum_57 : decode cX2_readSum 57 = .ok (.goto (-50), 3) := by decide +kernel
theorem dX2_readSum_60 : decode cX2_readSum 60 = .ok (.return_, 1) := by decide +kernel
theorem dX2_readTerm_0 : decode cX2_readTerm 0 = .ok (.aload_n 0, 1) := by decide +kernel
theorem dX2_readTerm_1 : decode cX2_readTerm 1 = .ok (.iload_n 1, 1) := by decide +kernel
theorem dX2_readTerm_2 : decode cX2_readTerm 2 = .ok (.invokevirtual 86, 3) := by decide +kernel
theorem dX2_readTerm_5 : decode cX2_readTerm 5 = .ok (.iconst 0, 1) := by decide +kernel
theorem dX2_readTerm_6 : decode cX2_readTerm 6 = .ok (.istore_n 2, 1) := by decide +kernel
theorem dX2_readTerm_7 : decode cX2_readTerm 7 = .ok (.iload_n 2, 1) := by decide +kernel
theorem dX2_readTerm_8 : decode cX2_readTerm 8 = .ok (.sipush 160, 3) := by decide +kernel
theorem dX2_readTerm_11 : decode cX2_readTerm 11 = .ok (.if_icmp .ge 36, 3) := by decide +kernel
theorem dX2_readTerm_14 : decode cX2_readTerm 14 = .ok (.aload_n 0, 1) := by decide +kernel
theorem dX2_readTerm_15 : decode cX2_readTerm 15 = .ok (.getfield 21, 3) := by decide +kernel
theorem dX2_readTerm_18 : decode cX2_readTerm 18 = .ok (.bipush (-17), 2) := by decide +kernel
theorem dX2_readTerm_20 : decode cX2_readTerm 20 = .ok (.if_icmp .ne 27, 3) := by decide +kernel
theorem dX2_readTerm_23 : decode cX2_readTerm 23 = .ok (.aload_n 0, 1) := by decide +kernel
theorem dX2_readTerm_24 : decode cX2_readTerm 24 = .ok (.invokevirtual 45, 3) := by decide +kernel
theorem dX2_readTerm_27 : decode cX2_readTerm 27 = .ok (.aload_n 0, 1) := by decide +kernel
theorem dX2_readTerm_28 : decode cX2_readTerm 28 = .ok (.iload_n 1, 1) := by decide +kernel
theorem dX2_readTerm_29 : decode cX2_readTerm 29 = .ok (.invokevirtual 86, 3) := by decide +kernel
theorem dX2_readTerm_32 : decode cX2_readTerm 32 = .ok (.aload_n 0, 1) := by decide +kernel
theorem dX2_readTerm_33 : decode cX2_readTerm 33 = .ok (.getfield 36, 3) := by decide +kernel
theorem dX2_readTerm_36 : decode cX2_readTerm 36 = .ok (.bipush (-17), 2) := by decide +kernel
theorem dX2_readTerm_38 : decode cX2_readTerm 38 = .ok (.invokevirtual 71, 3) := by decide +kernel
theorem dX2_readTerm_41 : decode cX2_readTerm 41 = .ok (.iinc 2 1, 3) := by decide +kernel
theorem dX2_readTerm_44 : decode cX2_readTerm 44 = .ok (.goto (-37), 3) := by decide +kernel
theorem dX2_readTerm_47 : decode cX2_readTerm 47 = .ok (.return_, 1) := by decide +kernel
theorem dX2_readOne_0 : decode cX2_readOne 0 = .ok (.aload_n 0, 1) := by decide +kernel
theorem dX2_readOne_1 : decode cX2_readOne 1 = .ok (.getfield 21, 3) := by decide +kernel
theorem dX2_readOne_4 : decode cX2_readOne 4 = .ok (.bipush (-19), 2) := by decide +kernel
theorem dX2_readOne_6 : decode cX2_readOne 6 = .ok (.if_icmp .ne 21, 3) := by decide +kernel
theorem dX2_readOne_9 : decode cX2_readOne 9 = .ok (.aload_n 0, 1) := by decide +kernel
theorem dX2_readOne_10 : decode cX2_readOne 10 = .ok (.getfield 36, 3) := by decide +kernel
theorem dX2_readOne_13 : decode cX2_readOne 13 = .ok (.aload_n 0, 1) := by decide +kernel
theorem dX2_readOne_14 : decode cX2_readOne 14 = .ok (.getfield 24, 3) := by decide +kernel
theorem dX2_readOne_17 : decode cX2_readOne 17 = .ok (.invokevirtual 71, 3) := by decide +kernel
theorem dX2_readOne_20 : decode cX2_readOne 20 = .ok (.aload_n 0, 1) := by decide +kernel
theorem dX2_readOne_21 : decode cX2_readOne 21 = .ok (.invokevirtual 45, 3) := by decide +kernel
theorem dX2_readOne_24 : decode cX2_readOne 24 = .ok (.goto 106, 3) := by decide +kernel
theorem dX2_readOne_27 : decode cX2_readOne 27 = .ok (.aload_n 0, 1) := by decide +kernel
theorem dX2_readOne_28 : decode cX2_readOne 28 = .ok (.getfield 21, 3) := by decide +kernel
theorem dX2_readOne_31 : decode cX2_readOne 31 = .ok (.invokestatic 89, 3) := by decide +kernel
theorem dX2_readOne_34 : decode cX2_readOne 34 = .ok (.ifCond .eq 21, 3) := by decide +kernel
theorem dX2_readOne_37 : decode cX2_readOne 37 = .ok (.aload_n 0, 1) := by decide +kernel
theorem dX2_readOne_38 : decode cX2_readOne 38 = .ok (.getfield 36, 3) := by decide +kernel
theorem dX2_readOne_41 : decode cX2_readOne 41 = .ok (.aload_n 0, 1) := by decide +kernel
theorem dX2_readOne_42 : decode cX2_readOne 42 = .ok (.getfield 21, 3) := by decide +kernel
theorem dX2_readOne_45 : decode cX2_readOne 45 = .ok (.invokevirtual 71, 3) := by decide +kernel
theorem dX2_readOne_48 : decode cX2_readOne 48 = .ok (.aload_n 0, 1) := by decide +kernel
theorem dX2_readOne_49 : decode cX2_readOne 49 = .ok (.invokevirtual 45, 3) := by decide +kernel
theorem dX2_readOne_52 : decode cX2_readOne 52 = .ok (.goto 78, 3) := by decide +kernel
theorem dX2_readOne_55 : decode cX2_readOne 55 = .ok (.aload_n 0, 1) := by decide +kernel
theorem dX2_readOne_56 : decode cX2_readOne 56 = .ok (.getfield 21, 3) := by decide +kernel
theorem dX2_readOne_59 : decode cX2_readOne 59 = .ok (.bipush (-16), 2) := by decide +kernel
theorem dX2_readOne_61 : decode cX2_readOne 61 = .ok (.if_icmp .ne 31, 3) := by decide +kernel
theorem dX2_readOne_64 : decode cX2_readOne 64 = .ok (.iload_n 1, 1) := by decide +kernel
theorem dX2_readOne_65 : decode cX2_readOne 65 = .ok (.iconst 5, 1) := by decide +kernel
theorem dX2_readOne_66 : decode cX2_readOne 66 = .ok (.if_icmp .ge 26, 3) := by decide +kernel
theorem dX2_readOne_69 : decode cX2_readOne 69 = .ok (.aload_n 0, 1) := by decide +kernel
theorem dX2_readOne_70 : decode cX2_readOne 70 = .ok (.invokevirtual 45, 3) := by decide +kernel
theorem dX2_readOne_73 : decode cX2_readOne 73 = .ok (.aload_n 0, 1) := by decide +kernel
theorem dX2_readOne_74 : decode cX2_readOne 74 = .ok (.iload_n 1, 1) := by decide +kernel
theorem dX2_readOne_75 : decode cX2_readOne 75 = .ok (.iconst 1, 1) := by decide +kernel
theorem dX2_readOne_76 : decode cX2_readOne 76 = .ok (.iadd, 1) := by decide +kernel
theorem dX2_readOne_77 : decode cX2_readOne 77 = .ok (.invokevirtual 86, 3) := by decide +kernel
theorem dX2_readOne_80 : decode cX2_readOne 80 = .ok (.aload_n 0, 1) := by decide +kernel
theorem dX2_readOne_81 : decode cX2_readOne 81 = .ok (.getfield 36, 3) := by decide +kernel
theorem dX2_readOne_84 : decode cX2_readOne 84 = .ok (.bipush (-18), 2) := by decide +kernel
theorem dX2_readOne_86 : decode cX2_readOne 86 = .ok (.invokevirtual 71, 3) := by decide +kernel
theorem dX2_readOne_89 : decode cX2_readOne 89 = .ok (.goto 41, 3) := by decide +kernel
theorem dX2_readOne_92 : decode cX2_readOne 92 = .ok (.aload_n 0, 1) := by decide +kernel
theorem dX2_readOne_93 : decode cX2_readOne 93 = .ok (.getfield 21, 3) := by decide +kernel
theorem dX2_readOne_96 : decode cX2_readOne 96 = .ok (.bipush (-20), 2) := by decide +kernel
theorem dX2_readOne_98 : decode cX2_readOne 98 = .ok (.if_icmp .ne 28, 3) := by decide +kernel
theorem dX2_readOne_101 : decode cX2_readOne 101 = .ok (.iload_n 1, 1) := by decide +kernel
theorem dX2_readOne_102 : decode cX2_readOne 102 = .ok (.iconst 5, 1) := by decide +kernel
theorem dX2_readOne_103 : decode cX2_readOne 103 = .ok (.if_icmp .ge 23, 3) := by decide +kernel
theorem dX2_readOne_106 : decode cX2_readOne 106 = .ok (.aload_n 0, 1) := by decide +kernel
theorem dX2_readOne_107 : decode cX2_readOne 107 = .ok (.invokevirtual 45, 3) := by decide +kernel
theorem dX2_readOne_110 : decode cX2_readOne 110 = .ok (.aload_n 0, 1) := by decide +kernel
theorem dX2_readOne_111 : decode cX2_readOne 111 = .ok (.iload_n 1, 1) := by decide +kernel
theorem dX2_readOne_112 : decode cX2_readOne 112 = .ok (.iconst 1, 1) := by decide +kernel
theorem dX2_readOne_113 : decode cX2_readOne 113 = .ok (.iadd, 1) := by decide +kernel
theorem dX2_readOne_114 : decode cX2_readOne 114 = .ok (.invokevirtual 56, 3) := by decide +kernel
theorem dX2_readOne_117 : decode cX2_readOne 117 = .ok (.aload_n 0, 1) := by decide +kernel
theorem dX2_readOne_118 : decode cX2_readOne 118 = .ok (.bipush (-21), 2) := by decide +kernel
theorem dX2_readOne_120 : decode cX2_readOne 120 = .ok (.invokevirtual 52, 3) := by decide +kernel
theorem dX2_readOne_123 : decode cX2_readOne 123 = .ok (.goto 7, 3) := by decide +kernel
theorem dX2_readOne_126 : decode cX2_readOne 126 = .ok (.aload_n 0, 1) := by decide +kernel
theorem dX2_readOne_127 : decode cX2_readOne 127 = .ok (.invokevirtual 62, 3) := by decide +kernel
theorem dX2_readOne_130 : decode cX2_readOne 130 = .ok (.return_, 1) := by decide +kernel
theorem dX2_expect_0 : decode cX2_expect 0 = .ok (.aload_n 0, 1) := by decide +kernel
theorem dX2_expect_1 : decode cX2_expect 1 = .ok (.getfield 21, 3) := by decide +kernel
theorem dX2_expect_4 : decode cX2_expect 4 = .ok (.iload_n 1, 1) := by decide +kernel
theorem dX2_expect_5 : decode cX2_expect 5 = .ok (.if_icmp .ne 10, 3) := by decide +kernel
theorem dX2_expect_8 : decode cX2_expect 8 = .ok (.aload_n 0, 1) := by decide +kernel
theorem dX2_expect_9 : decode cX2_expect 9 = .ok (.invokevirtual 45, 3) := by decide +kernel
theorem dX2_expect_12 : decode cX2_expect 12 = .ok (.goto 7, 3) := by decide +kernel
theorem dX2_expect_15 : decode cX2_expect 15 = .ok (.aload_n 0, 1) := by decide +kernel
theorem dX2_expect_16 : decode cX2_expect 16 = .ok (.invokevirtual 62, 3) := by decide +kernel
theorem dX2_expect_19 : decode cX2_expect 19 = .ok (.return_, 1) := by decide +kernel
theorem dX2_fail_0 : decode cX2_fail 0 = .ok (.aload_n 0, 1) := by decide +kernel
theorem dX2_fail_1 : decode cX2_fail 1 = .ok (.getfield 33, 3) := by decide +kernel
theorem dX2_fail_4 : decode cX2_fail 4 = .ok (.iconst (-1), 1) := by decide +kernel
theorem dX2_fail_5 : decode cX2_fail 5 = .ok (.if_icmp .ne 11, 3) := by decide +kernel
theorem dX2_fail_8 : decode cX2_fail 8 = .ok (.aload_n 0, 1) := by decide +kernel
theorem dX2_fail_9 : decode cX2_fail 9 = .ok (.aload_n 0, 1) := by decide +kernel
theorem dX2_fail_10 : decode cX2_fail 10 = .ok (.getfield 27, 3) := by decide +kernel
theorem dX2_fail_13 : decode cX2_fail 13 = .ok (.putfield 33, 3) := by decide +kernel
theorem dX2_fail_16 : decode cX2_fail 16 = .ok (.aload_n 0, 1) := by decide +kernel
theorem dX2_fail_17 : decode cX2_fail 17 = .ok (.bipush (-24), 2) := by decide +kernel
theorem dX2_fail_19 : decode cX2_fail 19 = .ok (.putfield 21, 3) := by decide +kernel
theorem dX2_fail_22 : decode cX2_fail 22 = .ok (.return_, 1) := by decide +kernel
theorem dX2_step_0 : decode cX2_step 0 = .ok (.aload_n 0, 1) := by decide +kernel
theorem dX2_step_1 : decode cX2_step 1 = .ok (.aload_n 0, 1) := by decide +kernel
theorem dX2_step_2 : decode cX2_step 2 = .ok (.getfield 30, 3) := by decide +kernel
theorem dX2_step_5 : decode cX2_step 5 = .ok (.putfield 27, 3) := by decide +kernel
theorem dX2_step_8 : decode cX2_step 8 = .ok (.aload_n 0, 1) := by decide +kernel
theorem dX2_step_9 : decode cX2_step 9 = .ok (.getfield 27, 3) := by decide +kernel
theorem dX2_step_12 : decode cX2_step 12 = .ok (.aload_n 0, 1) := by decide +kernel
theorem dX2_step_13 : decode cX2_step 13 = .ok (.getfield 15, 3) := by decide +kernel
theorem dX2_step_16 : decode cX2_step 16 = .ok (.if_icmp .ge 30, 3) := by decide +kernel
theorem dX2_step_19 : decode cX2_step 19 = .ok (.aload_n 0, 1) := by decide +kernel
theorem dX2_step_20 : decode cX2_step 20 = .ok (.aload_n 0, 1) := by decide +kernel
theorem dX2_step_21 : decode cX2_step 21 = .ok (.getfield 27, 3) := by decide +kernel
theorem dX2_step_24 : decode cX2_step 24 = .ok (.invokevirtual 93, 3) := by decide +kernel
theorem dX2_step_27 : decode cX2_step 27 = .ok (.invokestatic 96, 3) := by decide +kernel
theorem dX2_step_30 : decode cX2_step 30 = .ok (.ifCond .eq 16, 3) := by decide +kernel
theorem dX2_step_33 : decode cX2_step 33 = .ok (.aload_n 0, 1) := by decide +kernel
theorem dX2_step_34 : decode cX2_step 34 = .ok (.dup, 1) := by decide +kernel
theorem dX2_step_35 : decode cX2_step 35 = .ok (.getfield 27, 3) := by decide +kernel
theorem dX2_step_38 : decode cX2_step 38 = .ok (.iconst 1, 1) := by decide +kernel
theorem dX2_step_39 : decode cX2_step 39 = .ok (.iadd, 1) := by decide +kernel
theorem dX2_step_40 : decode cX2_step 40 = .ok (.putfield 27, 3) := by decide +kernel
theorem dX2_step_43 : decode cX2_step 43 = .ok (.goto (-35), 3) := by decide +kernel
theorem dX2_step_46 : decode cX2_step 46 = .ok (.aload_n 0, 1) := by decide +kernel
theorem dX2_step_47 : decode cX2_step 47 = .ok (.aload_n 0, 1) := by decide +kernel
theorem dX2_step_48 : decode cX2_step 48 = .ok (.getfield 27, 3) := by decide +kernel
theorem dX2_step_51 : decode cX2_step 51 = .ok (.putfield 30, 3) := by decide +kernel
theorem dX2_step_54 : decode cX2_step 54 = .ok (.aload_n 0, 1) := by decide +kernel
theorem dX2_step_55 : decode cX2_step 55 = .ok (.getfield 27, 3) := by decide +kernel
theorem dX2_step_58 : decode cX2_step 58 = .ok (.aload_n 0, 1) := by decide +kernel
theorem dX2_step_59 : decode cX2_step 59 = .ok (.getfield 15, 3) := by decide +kernel
theorem dX2_step_62 : decode cX2_step 62 = .ok (.if_icmp .lt 12, 3) := by decide +kernel
theorem dX2_step_65 : decode cX2_step 65 = .ok (.aload_n 0, 1) := by decide +kernel
theorem dX2_step_66 : decode cX2_step 66 = .ok (.bipush (-23), 2) := by decide +kernel
theorem dX2_step_68 : decode cX2_step 68 = .ok (.putfield 21, 3) := by decide +kernel
theorem dX2_step_71 : decode cX2_step 71 = .ok (.goto 70, 3) := by decide +kernel
theorem dX2_step_74 : decode cX2_step 74 = .ok (.aload_n 0, 1) := by decide +kernel
theorem dX2_step_75 : decode cX2_step 75 = .ok (.aload_n 0, 1) := by decide +kernel
theorem dX2_step_76 : decode cX2_step 76 = .ok (.getfield 27, 3) := by decide +kernel
theorem dX2_step_79 : decode cX2_step 79 = .ok (.invokevirtual 93, 3) := by decide +kernel
theorem dX2_step_82 : decode cX2_step 82 = .ok (.invokestatic 99, 3) := by decide +kernel
theorem dX2_step_85 : decode cX2_step 85 = .ok (.ifCond .eq 10, 3) := by decide +kernel
theorem dX2_step_88 : decode cX2_step 88 = .ok (.aload_n 0, 1) := by decide +kernel
theorem dX2_step_89 : decode cX2_step 89 = .ok (.invokevirtual 102, 3) := by decide +kernel
theorem dX2_step_92 : decode cX2_step 92 = .ok (.goto 49, 3) := by decide +kernel
theorem dX2_step_95 : decode cX2_step 95 = .ok (.aload_n 0, 1) := by decide +kernel
theorem dX2_step_96 : decode cX2_step 96 = .ok (.aload_n 0, 1) := by decide +kernel
theorem dX2_step_97 : decode cX2_step 97 = .ok (.getfield 27, 3) := by decide +kernel
theorem dX2_step_100 : decode cX2_step 100 = .ok (.invokevirtual 93, 3) := by decide +kernel
theorem dX2_step_103 : decode cX2_step 103 = .ok (.invokestatic 105, 3) := by decide +kernel
theorem dX2_step_106 : decode cX2_step 106 = .ok (.ifCond .eq 10, 3) := by decide +kernel
theorem dX2_step_109 : decode cX2_step 109 = .ok (.aload_n 0, 1) := by decide +kernel
theorem dX2_step_110 : decode cX2_step 110 = .ok (.invokevirtual 108, 3) := by decide +kernel
theorem dX2_step_113 : decode cX2_step 113 = .ok (.goto 28, 3) := by decide +kernel
theorem dX2_step_116 : decode cX2_step 116 = .ok (.aload_n 0, 1) := by decide +kernel
theorem dX2_step_117 : decode cX2_step 117 = .ok (.aload_n 0, 1) := by decide +kernel
theorem dX2_step_118 : decode cX2_step 118 = .ok (.aload_n 0, 1) := by decide +kernel
theorem dX2_step_119 : decode cX2_step 119 = .ok (.getfield 27, 3) := by decide +kernel
theorem dX2_step_122 : decode cX2_step 122 = .ok (.invokevirtual 93, 3) := by decide +kernel
theorem dX2_step_125 : decode cX2_step 125 = .ok (.invokestatic 111, 3) := by decide +kernel
theorem dX2_step_128 : decode cX2_step 128 = .ok (.putfield 21, 3) := by decide +kernel
theorem dX2_step_131 : decode cX2_step 131 = .ok (.aload_n 0, 1) := by decide +kernel
theorem dX2_step_132 : decode cX2_step 132 = .ok (.aload_n 0, 1) := by decide +kernel
theorem dX2_step_133 : decode cX2_step 133 = .ok (.getfield 27, 3) := by decide +kernel
theorem dX2_step_136 : decode cX2_step 136 = .ok (.iconst 1, 1) := by decide +kernel
theorem dX2_step_137 : decode cX2_step 137 = .ok (.iadd, 1) := by decide +kernel
theorem dX2_step_138 : decode cX2_step 138 = .ok (.putfield 30, 3) := by decide +kernel
theorem dX2_step_141 : decode cX2_step 141 = .ok (.return_, 1) := by decide +kernel
theorem dX2_byteAt_0 : decode cX2_byteAt 0 = .ok (.iload_n 1, 1) := by decide +kernel
theorem dX2_byteAt_1 : decode cX2_byteAt 1 = .ok (.ifCond .lt 27, 3) := by decide +kernel
theorem dX2_byteAt_4 : decode cX2_byteAt 4 = .ok (.iload_n 1, 1) := by decide +kernel
theorem dX2_byteAt_5 : decode cX2_byteAt 5 = .ok (.aload_n 0, 1) := by decide +kernel
theorem dX2_byteAt_6 : decode cX2_byteAt 6 = .ok (.getfield 15, 3) := by decide +kernel
theorem dX2_byteAt_9 : decode cX2_byteAt 9 = .ok (.if_icmp .ge 19, 3) := by decide +kernel
theorem dX2_byteAt_12 : decode cX2_byteAt 12 = .ok (.iload_n 1, 1) := by decide +kernel
theorem dX2_byteAt_13 : decode cX2_byteAt 13 = .ok (.sipush 160, 3) := by decide +kernel
theorem dX2_byteAt_16 : decode cX2_byteAt 16 = .ok (.if_icmp .ge 12, 3) := by decide +kernel
theorem dX2_byteAt_19 : decode cX2_byteAt 19 = .ok (.aload_n 0, 1) := by decide +kernel
theorem dX2_byteAt_20 : decode cX2_byteAt 20 = .ok (.getfield 9, 3) := by decide +kernel
theorem dX2_byteAt_23 : decode cX2_byteAt 23 = .ok (.iload_n 1, 1) := by decide +kernel
theorem dX2_byteAt_24 : decode cX2_byteAt 24 = .ok (.iaload, 1) := by decide +kernel
theorem dX2_byteAt_25 : decode cX2_byteAt 25 = .ok (.goto 4, 3) := by decide +kernel
theorem dX2_byteAt_28 : decode cX2_byteAt 28 = .ok (.iconst (-1), 1) := by decide +kernel
theorem dX2_byteAt_29 : decode cX2_byteAt 29 = .ok (.ireturn, 1) := by decide +kernel
theorem dX2_stepWord_0 : decode cX2_stepWord 0 = .ok (.aload_n 0, 1) := by decide +kernel
theorem dX2_stepWord_1 : decode cX2_stepWord 1 = .ok (.getfield 30, 3) := by decide +kernel
theorem dX2_stepWord_4 : decode cX2_stepWord 4 = .ok (.aload_n 0, 1) := by decide +kernel
theorem dX2_stepWord_5 : decode cX2_stepWord 5 = .ok (.getfield 15, 3) := by decide +kernel
theorem dX2_stepWord_8 : decode cX2_stepWord 8 = .ok (.if_icmp .ge 30, 3) := by decide +kernel
theorem dX2_stepWord_11 : decode cX2_stepWord 11 = .ok (.aload_n 0, 1) := by decide +kernel
theorem dX2_stepWord_12 : decode cX2_stepWord 12 = .ok (.aload_n 0, 1) := by decide +kernel
theorem dX2_stepWord_13 : decode cX2_stepWord 13 = .ok (.getfield 30, 3) := by decide +kernel
theorem dX2_stepWord_16 : decode cX2_stepWord 16 = .ok (.invokevirtual 93, 3) := by decide +kernel
theorem dX2_stepWord_19 : decode cX2_stepWord 19 = .ok (.invokestatic 99, 3) := by decide +kernel
theorem dX2_stepWord_22 : decode cX2_stepWord 22 = .ok (.ifCond .eq 16, 3) := by decide +kernel
theorem dX2_stepWord_25 : decode cX2_stepWord 25 = .ok (.aload_n 0, 1) := by decide +kernel
theorem dX2_stepWord_26 : decode cX2_stepWord 26 = .ok (.dup, 1) := by decide +kernel
theorem dX2_stepWord_27 : decode cX2_stepWord 27 = .ok (.getfield 30, 3) := by decide +kernel
theorem dX2_stepWord_30 : decode cX2_stepWord 30 = .ok (.iconst 1, 1) := by decide +kernel
theorem dX2_stepWord_31 : decode cX2_stepWord 31 = .ok (.iadd, 1) := by decide +kernel
theorem dX2_stepWord_32 : decode cX2_stepWord 32 = .ok (.putfield 30, 3) := by decide +kernel
theorem dX2_stepWord_35 : decode cX2_stepWord 35 = .ok (.goto (-35), 3) := by decide +kernel
theorem dX2_stepWord_38 : decode cX2_stepWord 38 = .ok (.aload_n 0, 1) := by decide +kernel
theorem dX2_stepWord_39 : decode cX2_stepWord 39 = .ok (.bipush (-24), 2) := by decide +kernel
theorem dX2_stepWord_41 : decode cX2_stepWord 41 = .ok (.putfield 21, 3) := by decide +kernel
theorem dX2_stepWord_44 : decode cX2_stepWord 44 = .ok (.iconst (-1), 1) := by decide +kernel
theorem dX2_stepWord_45 : decode cX2_stepWord 45 = .ok (.istore_n 1, 1) := by decide +kernel
theorem dX2_stepWord_46 : decode cX2_stepWord 46 = .ok (.iload_n 1, 1) := by decide +kernel
theorem dX2_stepWord_47 : decode cX2_stepWord 47 = .ok (.bipush (-12), 2) := by decide +kernel
theorem dX2_stepWord_49 : decode cX2_stepWord 49 = .ok (.if_icmp .lt 25, 3) := by decide +kernel
theorem dX2_stepWord_52 : decode cX2_stepWord 52 = .ok (.aload_n 0, 1) := by decide +kernel
theorem dX2_stepWord_53 : decode cX2_stepWord 53 = .ok (.iload_n 1, 1) := by decide +kernel
theorem dX2_stepWord_54 : decode cX2_stepWord 54 = .ok (.invokestatic 114, 3) := by decide +kernel
theorem dX2_stepWord_57 : decode cX2_stepWord 57 = .ok (.invokevirtual 118, 3) := by decide +kernel
theorem dX2_stepWord_60 : decode cX2_stepWord 60 = .ok (.ifCond .eq 8, 3) := by decide +kernel
theorem dX2_stepWord_63 : decode cX2_stepWord 63 = .ok (.aload_n 0, 1) := by decide +kernel
theorem dX2_stepWord_64 : decode cX2_stepWord 64 = .ok (.iload_n 1, 1) := by decide +kernel
theorem dX2_stepWord_65 : decode cX2_stepWord 65 = .ok (.putfield 21, 3) := by decide +kernel
theorem dX2_stepWord_68 : decode cX2_stepWord 68 = .ok (.iinc 1 (-1), 3) := by decide +kernel
theorem dX2_stepWord_71 : decode cX2_stepWord 71 = .ok (.goto (-25), 3) := by decide +kernel
theorem dX2_stepWord_74 : decode cX2_stepWord 74 = .ok (.return_, 1) := by decide +kernel
theorem dX2_isSpelled_0 : decode cX2_isSpelled 0 = .ok (.aload_n 0, 1) := by decide +kernel
theorem dX2_isSpelled_1 : decode cX2_isSpelled 1 = .ok (.getfield 30, 3) := by decide +kernel
theorem dX2_isSpelled_4 : decode cX2_isSpelled 4 = .ok (.aload_n 0, 1) := by decide +kernel
theorem dX2_isSpelled_5 : decode cX2_isSpelled 5 = .ok (.getfield 27, 3) := by decide +kernel
theorem dX2_isSpelled_8 : decode cX2_isSpelled 8 = .ok (.isub, 1) := by decide +kernel
theorem dX2_isSpelled_9 : decode cX2_isSpelled 9 = .ok (.aload_n 1, 1) := by decide +kernel
theorem dX2_isSpelled_10 : decode cX2_isSpelled 10 = .ok (.invokevirtual 122, 3) := by decide +kernel
theorem dX2_isSpelled_13 : decode cX2_isSpelled 13 = .ok (.if_icmp .eq 5, 3) := by decide +kernel
theorem dX2_isSpelled_16 : decode cX2_isSpelled 16 = .ok (.iconst 0, 1) := by decide +kernel
theorem dX2_isSpelled_17 : decode cX2_isSpelled 17 = .ok (.ireturn, 1) := by decide +kernel
theorem dX2_isSpelled_18 : decode cX2_isSpelled 18 = .ok (.iconst 0, 1) := by decide +kernel
theorem dX2_isSpelled_19 : decode cX2_isSpelled 19 = .ok (.istore_n 2, 1) := by decide +kernel
theorem dX2_isSpelled_20 : decode cX2_isSpelled 20 = .ok (.iload_n 2, 1) := by decide +kernel
theorem dX2_isSpelled_21 : decode cX2_isSpelled 21 = .ok (.aload_n 1, 1) := by decide +kernel
theorem dX2_isSpelled_22 : decode cX2_isSpelled 22 = .ok (.invokevirtual 122, 3) := by decide +kernel
theorem dX2_isSpelled_25 : decode cX2_isSpelled 25 = .ok (.if_icmp .ge 29, 3) := by decide +kernel
theorem dX2_isSpelled_28 : decode cX2_isSpelled 28 = .ok (.aload_n 0, 1) := by decide +kernel
theorem dX2_isSpelled_29 : decode cX2_isSpelled 29 = .ok (.aload_n 0, 1) := by decide +kernel
theorem dX2_isSpelled_30 : decode cX2_isSpelled 30 = .ok (.getfield 27, 3) := by decide +kernel
theorem dX2_isSpelled_33 : decode cX2_isSpelled 33 = .ok (.iload_n 2, 1) := by decide +kernel
theorem dX2_isSpelled_34 : decode cX2_isSpelled 34 = .ok (.iadd, 1) := by decide +kernel
theorem dX2_isSpelled_35 : decode cX2_isSpelled 35 = .ok (.invokevirtual 93, 3) := by decide +kernel
theorem dX2_isSpelled_38 : decode cX2_isSpelled 38 = .ok (.aload_n 1, 1) := by decide +kernel
theorem dX2_isSpelled_39 : decode cX2_isSpelled 39 = .ok (.iload_n 2, 1) := by decide +kernel
theorem dX2_isSpelled_40 : decode cX2_isSpelled 40 = .ok (.invokevirtual 128, 3) := by decide +kernel
theorem dX2_isSpelled_43 : decode cX2_isSpelled 43 = .ok (.if_icmp .eq 5, 3) := by decide +kernel
theorem dX2_isSpelled_46 : decode cX2_isSpelled 46 = .ok (.iconst 0, 1) := by decide +kernel
theorem dX2_isSpelled_47 : decode cX2_isSpelled 47 = .ok (.ireturn, 1) := by decide +kernel
theorem dX2_isSpelled_48 : decode cX2_isSpelled 48 = .ok (.iinc 2 1, 3) := by decide +kernel
theorem dX2_isSpelled_51 : decode cX2_isSpelled 51 = .ok (.goto (-31), 3) := by decide +kernel
theorem dX2_isSpelled_54 : decode cX2_isSpelled 54 = .ok (.iconst 1, 1) := by decide +kernel
theorem dX2_isSpelled_55 : decode cX2_isSpelled 55 = .ok (.ireturn, 1) := by decide +kernel
theorem dX2_stepNumber_0 : decode cX2_stepNumber 0 = .ok (.aload_n 0, 1) := by decide +kernel
theorem dX2_stepNumber_1 : decode cX2_stepNumber 1 = .ok (.iconst 0, 1) := by decide +kernel
theorem dX2_stepNumber_2 : decode cX2_stepNumber 2 = .ok (.putfield 24, 3) := by decide +kernel
theorem dX2_stepNumber_5 : decode cX2_stepNumber 5 = .ok (.aload_n 0, 1) := by decide +kernel
theorem dX2_stepNumber_6 : decode cX2_stepNumber 6 = .ok (.getfield 30, 3) := by decide +kernel
theorem dX2_stepNumber_9 : decode cX2_stepNumber 9 = .ok (.aload_n 0, 1) := by decide +kernel
theorem dX2_stepNumber_10 : decode cX2_stepNumber 10 = .ok (.getfield 15, 3) := by decide +kernel
theorem dX2_stepNumber_13 : decode cX2_stepNumber 13 = .ok (.if_icmp .ge 53, 3) := by decide +kernel
theorem dX2_stepNumber_16 : decode cX2_stepNumber 16 = .ok (.aload_n 0, 1) := by decide +kernel
theorem dX2_stepNumber_17 : decode cX2_stepNumber 17 = .ok (.aload_n 0, 1) := by decide +kernel
theorem dX2_stepNumber_18 : decode cX2_stepNumber 18 = .ok (.getfield 30, 3) := by decide +kernel
theorem dX2_stepNumber_21 : decode cX2_stepNumber 21 = .ok (.invokevirtual 93, 3) := by decide +kernel
theorem dX2_stepNumber_24 : decode cX2_stepNumber 24 = .ok (.invokestatic 105, 3) := by decide +kernel
theorem dX2_stepNumber_27 : decode cX2_stepNumber 27 = .ok (.ifCond .eq 39, 3) := by decide +kernel
theorem dX2_stepNumber_30 : decode cX2_stepNumber 30 = .ok (.aload_n 0, 1) := by decide +kernel
theorem dX2_stepNumber_31 : decode cX2_stepNumber 31 = .ok (.bipush 10, 2) := by decide +kernel
theorem dX2_stepNumber_33 : decode cX2_stepNumber 33 = .ok (.aload_n 0, 1) := by decide +kernel
theorem dX2_stepNumber_34 : decode cX2_stepNumber 34 = .ok (.getfield 24, 3) := by decide +kernel
theorem dX2_stepNumber_37 : decode cX2_stepNumber 37 = .ok (.imul, 1) := by decide +kernel
theorem dX2_stepNumber_38 : decode cX2_stepNumber 38 = .ok (.aload_n 0, 1) := by decide +kernel
theorem dX2_stepNumber_39 : decode cX2_stepNumber 39 = .ok (.aload_n 0, 1) := by decide +kernel
theorem dX2_stepNumber_40 : decode cX2_stepNumber 40 = .ok (.getfield 30, 3) := by decide +kernel
theorem dX2_stepNumber_43 : decode cX2_stepNumber 43 = .ok (.invokevirtual 93, 3) := by decide +kernel
theorem dX2_stepNumber_46 : decode cX2_stepNumber 46 = .ok (.iadd, 1) := by decide +kernel
theorem dX2_stepNumber_47 : decode cX2_stepNumber 47 = .ok (.bipush 48, 2) := by decide +kernel
theorem dX2_stepNumber_49 : decode cX2_stepNumber 49 = .ok (.isub, 1) := by decide +kernel
theorem dX2_stepNumber_50 : decode cX2_stepNumber 50 = .ok (.putfield 24, 3) := by decide +kernel
theorem dX2_stepNumber_53 : decode cX2_stepNumber 53 = .ok (.aload_n 0, 1) := by decide +kernel
theorem dX2_stepNumber_54 : decode cX2_stepNumber 54 = .ok (.dup, 1) := by decide +kernel
theorem dX2_stepNumber_55 : decode cX2_stepNumber 55 = .ok (.getfield 30, 3) := by decide +kernel
theorem dX2_stepNumber_58 : decode cX2_stepNumber 58 = .ok (.iconst 1, 1) := by decide +kernel
theorem dX2_stepNumber_59 : decode cX2_stepNumber 59 = .ok (.iadd, 1) := by decide +kernel
theorem dX2_stepNumber_60 : decode cX2_stepNumber 60 = .ok (.putfield 30, 3) := by decide +kernel
theorem dX2_stepNumber_63 : decode cX2_stepNumber 63 = .ok (.goto (-58), 3) := by decide +kernel
theorem dX2_stepNumber_66 : decode cX2_stepNumber 66 = .ok (.aload_n 0, 1) := by decide +kernel
theorem dX2_stepNumber_67 : decode cX2_stepNumber 67 = .ok (.aload_n 0, 1) := by decide +kernel
theorem dX2_stepNumber_68 : decode cX2_stepNumber 68 = .ok (.getfield 30, 3) := by decide +kernel
theorem dX2_stepNumber_71 : decode cX2_stepNumber 71 = .ok (.aload_n 0, 1) := by decide +kernel
theorem dX2_stepNumber_72 : decode cX2_stepNumber 72 = .ok (.getfield 27, 3) := by decide +kernel
theorem dX2_stepNumber_75 : decode cX2_stepNumber 75 = .ok (.isub, 1) := by decide +kernel
theorem dX2_stepNumber_76 : decode cX2_stepNumber 76 = .ok (.iconst 4, 1) := by decide +kernel
theorem dX2_stepNumber_77 : decode cX2_stepNumber 77 = .ok (.if_icmp .le 8, 3) := by decide +kernel
theorem dX2_stepNumber_80 : decode cX2_stepNumber 80 = .ok (.bipush (-24), 2) := by decide +kernel
theorem dX2_stepNumber_82 : decode cX2_stepNumber 82 = .ok (.goto 5, 3) := by decide +kernel
theorem dX2_stepNumber_85 : decode cX2_stepNumber 85 = .ok (.bipush (-19), 2) := by decide +kernel
theorem dX2_stepNumber_87 : decode cX2_stepNumber 87 = .ok (.putfield 21, 3) := by decide +kernel
theorem dX2_stepNumber_90 : decode cX2_stepNumber 90 = .ok (.return_, 1) := by decide +kernel
theorem dX3_init_0 : decode cX3_init 0 = .ok (.aload_n 0, 1) := by decide +kernel
theorem dX3_init_1 : decode cX3_init 1 = .ok (.invokespecial 3, 3) := by decide +kernel
theorem dX3_init_4 : decode cX3_init 4 = .ok (.aload_n 0, 1) := by decide +kernel
theorem dX3_init_5 : decode cX3_init 5 = .ok (.iconst 5, 1) := by decide +kernel
theorem dX3_init_6 : decode cX3_init 6 = .ok (.newarray .int, 2) := by decide +kernel
theorem dX3_init_8 : decode cX3_init 8 = .ok (.putfield 9, 3) := by decide +kernel
theorem dX3_init_11 : decode cX3_init 11 = .ok (.aload_n 0, 1) := by decide +kernel
theorem dX3_init_12 : decode cX3_init 12 = .ok (.iconst 5, 1) := by decide +kernel
theorem dX3_init_13 : decode cX3_init 13 = .ok (.newarray .int, 2) := by decide +kernel
theorem dX3_init_15 : decode cX3_init 15 = .ok (.putfield 15, 3) := by decide +kernel
theorem dX3_init_18 : decode cX3_init 18 = .ok (.aload_n 0, 1) := by decide +kernel
theorem dX3_init_19 : decode cX3_init 19 = .ok (.iconst 5, 1) := by decide +kernel
theorem dX3_init_20 : decode cX3_init 20 = .ok (.newarray .int, 2) := by decide +kernel
theorem dX3_init_22 : decode cX3_init 22 = .ok (.putfield 18, 3) := by decide +kernel
theorem dX3_init_25 : decode cX3_init 25 = .ok (.aload_n 0, 1) := by decide +kernel
theorem dX3_init_26 : decode cX3_init 26 = .ok (.iconst 5, 1) := by decide +kernel
theorem dX3_init_27 : decode cX3_init 27 = .ok (.newarray .int, 2) := by decide +kernel
theorem dX3_init_29 : decode cX3_init 29 = .ok (.putfield 21, 3) := by decide +kernel
theorem dX3_init_32 : decode cX3_init 32 = .ok (.aload_n 0, 1) := by decide +kernel
theorem dX3_init_33 : decode cX3_init 33 = .ok (.bipush 8, 2) := by decide +kernel
theorem dX3_init_35 : decode cX3_init 35 = .ok (.newarray .int, 2) := by decide +kernel
theorem dX3_init_37 : decode cX3_init 37 = .ok (.putfield 24, 3) := by decide +kernel
theorem dX3_init_40 : decode cX3_init 40 = .ok (.aload_n 0, 1) := by decide +kernel
theorem dX3_init_41 : decode cX3_init 41 = .ok (.bipush 8, 2) := by decide +kernel
theorem dX3_init_43 : decode cX3_init 43 = .ok (.newarray .int, 2) := by decide +kernel
theorem dX3_init_45 : decode cX3_init 45 = .ok (.putfield 27, 3) := by decide +kernel
theorem dX3_init_48 : decode cX3_init 48 = .ok (.aload_n 0, 1) := by decide +kernel
theorem dX3_init_49 : decode cX3_init 49 = .ok (.bipush 8, 2) := by decide +kernel
theorem dX3_init_51 : decode cX3_init 51 = .ok (.newarray .int, 2) := by decide +kernel
theorem dX3_init_53 : decode cX3_init 53 = .ok (.putfield 30, 3) := by decide +kernel
theorem dX3_init_56 : decode cX3_init 56 = .ok (.aload_n 0, 1) := by decide +kernel
theorem dX3_init_57 : decode cX3_init 57 = .ok (.bipush 8, 2) := by decide +kernel
theorem dX3_init_59 : decode cX3_init 59 = .ok (.newarray .int, 2) := by decide +kernel
theorem dX3_init_61 : decode cX3_init 61 = .ok (.putfield 33, 3) := by decide +kernel
theorem dX3_init_64 : decode cX3_init 64 = .ok (.aload_n 0, 1) := by decide +kernel
theorem dX3_init_65 : decode cX3_init 65 = .ok (.iconst 0, 1) := by decide +kernel
theorem dX3_init_66 : decode cX3_init 66 = .ok (.putfield 36, 3) := by decide +kernel
theorem dX3_init_69 : decode cX3_init 69 = .ok (.aload_n 0, 1) := by decide +kernel
theorem dX3_init_70 : decode cX3_init 70 = .ok (.iconst 0, 1) := by decide +kernel
theorem dX3_init_71 : decode cX3_init 71 = .ok (.putfield 40, 3) := by decide +kernel
theorem dX3_init_74 : decode cX3_init 74 = .ok (.aload_n 0, 1) := by decide +kernel
theorem dX3_init_75 : decode cX3_init 75 = .ok (.iconst 0, 1) := by decide +kernel
theorem dX3_init_76 : decode cX3_init 76 = .ok (.putfield 43, 3) := by decide +kernel
theorem dX3_init_79 : decode cX3_init 79 = .ok (.return_, 1) := by decide +kernel
theorem dX3_become_0 : decode cX3_become 0 = .ok (.aload_n 1, 1) := by decide +kernel
theorem dX3_become_1 : decode cX3_become 1 = .ok (.getfield 9, 3) := by decide +kernel
theorem dX3_become_4 : decode cX3_become 4 = .ok (.iconst 0, 1) := by decide +kernel
theorem dX3_become_5 : decode cX3_become 5 = .ok (.aload_n 0, 1) := by decide +kernel
theorem dX3_become_6 : decode cX3_become 6 = .ok (.getfield 9, 3) := by decide +kernel
theorem dX3_become_9 : decode cX3_become 9 = .ok (.iconst 0, 1) := by decide +kernel
theorem dX3_become_10 : decode cX3_become 10 = .ok (.iconst 5, 1) := by decide +kernel
theorem dX3_become_11 : decode cX3_become 11 = .ok (.invokestatic 46, 3) := by decide +kernel
theorem dX3_become_14 : decode cX3_become 14 = .ok (.aload_n 1, 1) := by decide +kernel
theorem dX3_become_15 : decode cX3_become 15 = .ok (.getfield 15, 3) := by decide +kernel
theorem dX3_become_18 : decode cX3_become 18 = .ok (.iconst 0, 1) := by decide +kernel
theorem dX3_become_19 : decode cX3_become 19 = .ok (.aload_n 0, 1) := by decide +kernel
theorem dX3_become_20 : decode cX3_become 20 = .ok (.getfield 15, 3) := by decide +kernel
theorem dX3_become_23 : decode cX3_become 23 = .ok (.iconst 0, 1) := by decide +kernel
theorem dX3_become_24 : decode cX3_become 24 = .ok (.iconst 5, 1) := by decide +kernel
theorem dX3_become_25 : decode cX3_become 25 = .ok (.invokestatic 46, 3) := by decide +kernel
theorem dX3_become_28 : decode cX3_become 28 = .ok (.aload_n 1, 1) := by decide +kernel
theorem dX3_become_29 : decode cX3_become 29 = .ok (.getfield 18, 3) := by decide +kernel
theorem dX3_become_32 : decode cX3_become 32 = .ok (.iconst 0, 1) := by decide +kernel
theorem dX3_become_33 : decode cX3_become 33 = .ok (.aload_n 0, 1) := by decide +kernel
theorem dX3_become_34 : decode cX3_become 34 = .ok (.getfield 18, 3) := by decide +kernel
theorem dX3_become_37 : decode cX3_become 37 = .ok (.iconst 0, 1) := by decide +kernel
theorem dX3_become_38 : decode cX3_become 38 = .ok (.iconst 5, 1) := by decide +kernel
theorem dX3_become_39 : decode cX3_become 39 = .ok (.invokestatic 46, 3) := by decide +kernel
theorem dX3_become_42 : decode cX3_become 42 = .ok (.aload_n 1, 1) := by decide +kernel
theorem dX3_become_43 : decode cX3_become 43 = .ok (.getfield 21, 3) := by decide +kernel
theorem dX3_become_46 : decode cX3_become 46 = .ok (.iconst 0, 1) := by decide +kernel
theorem dX3_become_47 : decode cX3_become 47 = .ok (.aload_n 0, 1) := by decide +kernel
theorem dX3_become_48 : decode cX3_become 48 = .ok (.getfield 21, 3) := by decide +kernel
theorem dX3_become_51 : decode cX3_become 51 = .ok (.iconst 0, 1) := by decide +kernel
theorem dX3_become_52 : decode cX3_become 52 = .ok (.iconst 5, 1) := by decide +kernel
theorem dX3_become_53 : decode cX3_become 53 = .ok (.invokestatic 46, 3) := by decide +kernel
theorem dX3_become_56 : decode cX3_become 56 = .ok (.aload_n 1, 1) := by decide +kernel
theorem dX3_become_57 : decode cX3_become 57 = .ok (.getfield 24, 3) := by decide +kernel
theorem dX3_become_60 : decode cX3_become 60 = .ok (.iconst 0, 1) := by decide +kernel
theorem dX3_become_61 : decode cX3_become 61 = .ok (.aload_n 0, 1) := by decide +kernel
theorem dX3_become_62 : decode cX3_become 62 = .ok (.getfield 24, 3) := by decide +kernel
theorem dX3_become_65 : decode cX3_become 65 = .ok (.iconst 0, 1) := by decide +kernel
theorem dX3_become_66 : decode cX3_become 66 = .ok (.bipush 8, 2) := by decide +kernel
theorem dX3_become_68 : decode cX3_become 68 = .ok (.invokestatic 46, 3) := by decide +kernel
theorem dX3_become_71 : decode cX3_become 71 = .ok (.aload_n 1, 1) := by decide +kernel
theorem dX3_become_72 : decode cX3_become 72 = .ok (.getfield 27, 3) := by decide +kernel
theorem dX3_become_75 : decode cX3_become 75 = .ok (.iconst 0, 1) := by decide +kernel
theorem dX3_become_76 : decode cX3_become 76 = .ok (.aload_n 0, 1) := by decide +kernel
theorem dX3_become_77 : decode cX3_become 77 = .ok (.getfield 27, 3) := by decide +kernel
theorem dX3_become_80 : decode cX3_become 80 = .ok (.iconst 0, 1) := by decide +kernel
theorem dX3_become_81 : decode cX3_become 81 = .ok (.bipush 8, 2) := by decide +kernel
theorem dX3_become_83 : decode cX3_become 83 = .ok (.invokestatic 46, 3) := by decide +kernel
theorem dX3_become_86 : decode cX3_become 86 = .ok (.aload_n 1, 1) := by decide +kernel
theorem dX3_become_87 : decode cX3_become 87 = .ok (.getfield 30, 3) := by decide +kernel
theorem dX3_become_90 : decode cX3_become 90 = .ok (.iconst 0, 1) := by decide +kernel
theorem dX3_become_91 : decode cX3_become 91 = .ok (.aload_n 0, 1) := by decide +kernel
theorem dX3_become_92 : decode cX3_become 92 = .ok (.getfield 30, 3) := by decide +kernel
theorem dX3_become_95 : decode cX3_become 95 = .ok (.iconst 0, 1) := by decide +kernel
theorem dX3_become_96 : decode cX3_become 96 = .ok (.bipush 8, 2) := by decide +kernel
theorem dX3_become_98 : decode cX3_become 98 = .ok (.invokestatic 46, 3) := by decide +kernel
theorem dX3_become_101 : decode cX3_become 101 = .ok (.aload_n 1, 1) := by decide +kernel
theorem dX3_become_102 : decode cX3_become 102 = .ok (.getfield 33, 3) := by decide +kernel
theorem dX3_become_105 : decode cX3_become 105 = .ok (.iconst 0, 1) := by decide +kernel
theorem dX3_become_106 : decode cX3_become 106 = .ok (.aload_n 0, 1) := by decide +kernel
theorem dX3_become_107 : decode cX3_become 107 = .ok (.getfield 33, 3) := by decide +kernel
theorem dX3_become_110 : decode cX3_become 110 = .ok (.iconst 0, 1) := by decide +kernel
theorem dX3_become_111 : decode cX3_become 111 = .ok (.bipush 8, 2) := by decide +kernel
theorem dX3_become_113 : decode cX3_become 113 = .ok (.invokestatic 46, 3) := by decide +kernel
theorem dX3_become_116 : decode cX3_become 116 = .ok (.aload_n 0, 1) := by decide +kernel
theorem dX3_become_117 : decode cX3_become 117 = .ok (.aload_n 1, 1) := by decide +kernel
theorem dX3_become_118 : decode cX3_become 118 = .ok (.getfield 36, 3) := by decide +kernel
theorem dX3_become_121 : decode cX3_become 121 = .ok (.putfield 36, 3) := by decide +kernel
theorem dX3_become_124 : decode cX3_become 124 = .ok (.aload_n 0, 1) := by decide +kernel
theorem dX3_become_125 : decode cX3_become 125 = .ok (.aload_n 1, 1) := by decide +kernel
theorem dX3_become_126 : decode cX3_become 126 = .ok (.getfield 40, 3) := by decide +kernel
theorem dX3_become_129 : decode cX3_become 129 = .ok (.putfield 40, 3) := by decide +kernel
theorem dX3_become_132 : decode cX3_become 132 = .ok (.aload_n 0, 1) := by decide +kernel
theorem dX3_become_133 : decode cX3_become 133 = .ok (.aload_n 1, 1) := by decide +kernel
theorem dX3_become_134 : decode cX3_become 134 = .ok (.getfield 43, 3) := by decide +kernel
theorem dX3_become_137 : decode cX3_become 137 = .ok (.putfield 43, 3) := by decide +kernel
theorem dX3_become_140 : decode cX3_become 140 = .ok (.return_, 1) := by decide +kernel
theorem dX3_has_0 : decode cX3_has 0 = .ok (.iload_n 1, 1) := by decide +kernel
theorem dX3_has_1 : decode cX3_has 1 = .ok (.ifCond .lt 20, 3) := by decide +kernel
theorem dX3_has_4 : decode cX3_has 4 = .ok (.iload_n 1, 1) := by decide +kernel
theorem dX3_has_5 : decode cX3_has 5 = .ok (.aload_n 0, 1) := by decide +kernel
theorem dX3_has_6 : decode cX3_has 6 = .ok (.getfield 36, 3) := by decide +kernel
theorem dX3_has_9 : decode cX3_has 9 = .ok (.if_icmp .ge 12, 3) := by decide +kernel
theorem dX3_has_12 : decode cX3_has 12 = .ok (.iload_n 1, 1) := by decide +kernel
theorem dX3_has_13 : decode cX3_has 13 = .ok (.iconst 5, 1) := by decide +kernel
theorem dX3_has_14 : decode cX3_has 14 = .ok (.if_icmp .ge 7, 3) := by decide +kernel
theorem dX3_has_17 : decode cX3_has 17 = .ok (.iconst 1, 1) := by decide +kernel
theorem dX3_has_18 : decode cX3_has 18 = .ok (.goto 4, 3) := by decide +kernel
theorem dX3_has_21 : decode cX3_has 21 = .ok (.iconst 0, 1) := by decide +kernel
theorem dX3_has_22 : decode cX3_has 22 = .ok (.ireturn, 1) := by decide +kernel
theorem dX3_come_0 : decode cX3_come 0 = .ok (.aload_n 0, 1) := by decide +kernel
theorem dX3_come_1 : decode cX3_come 1 = .ok (.getfield 36, 3) := by decide +kernel
theorem dX3_come_4 : decode cX3_come 4 = .ok (.ifCond .lt 11, 3) := by decide +kernel
theorem dX3_come_7 : decode cX3_come 7 = .ok (.aload_n 0, 1) := by decide +kernel
theorem dX3_come_8 : decode cX3_come 8 = .ok (.getfield 36, 3) := by decide +kernel
theorem dX3_come_11 : decode cX3_come 11 = .ok (.iconst 5, 1) := by decide +kernel
theorem dX3_come_12 : decode cX3_come 12 = .ok (.if_icmp .lt 6, 3) := by decide +kernel
theorem dX3_come_15 : decode cX3_come 15 = .ok (.bipush (-4), 2) := by decide +kernel
theorem dX3_come_17 : decode cX3_come 17 = .ok (.ireturn, 1) := by decide +kernel
theorem dX3_come_18 : decode cX3_come 18 = .ok (.aload_n 0, 1) := by decide +kernel
theorem dX3_come_19 : decode cX3_come 19 = .ok (.getfield 9, 3) := by decide +kernel
theorem dX3_come_22 : decode cX3_come 22 = .ok (.aload_n 0, 1) := by decide +kernel
theorem dX3_come_23 : decode cX3_come 23 = .ok (.getfield 36, 3) := by decide +kernel
theorem dX3_come_26 : decode cX3_come 26 = .ok (.iload_n 1, 1) := by decide +kernel
theorem dX3_come_27 : decode cX3_come 27 = .ok (.iastore, 1) := by decide +kernel
theorem dX3_come_28 : decode cX3_come 28 = .ok (.aload_n 0, 1) := by decide +kernel
theorem dX3_come_29 : decode cX3_come 29 = .ok (.getfield 15, 3) := by decide +kernel
theorem dX3_come_32 : decode cX3_come 32 = .ok (.aload_n 0, 1) := by decide +kernel
theorem dX3_come_33 : decode cX3_come 33 = .ok (.getfield 36, 3) := by decide +kernel
theorem dX3_come_36 : decode cX3_come 36 = .ok (.iload_n 2, 1) := by decide +kernel
theorem dX3_come_37 : decode cX3_come 37 = .ok (.iastore, 1) := by decide +kernel
theorem dX3_come_38 : decode cX3_come 38 = .ok (.aload_n 0, 1) := by decide +kernel
theorem dX3_come_39 : decode cX3_come 39 = .ok (.getfield 18, 3) := by decide +kernel
theorem dX3_come_42 : decode cX3_come 42 = .ok (.aload_n 0, 1) := by decide +kernel
theorem dX3_come_43 : decode cX3_come 43 = .ok (.getfield 36, 3) := by decide +kernel
theorem dX3_come_46 : decode cX3_come 46 = .ok (.iload_n 3, 1) := by decide +kernel
theorem dX3_come_47 : decode cX3_come 47 = .ok (.iastore, 1) := by decide +kernel
theorem dX3_come_48 : decode cX3_come 48 = .ok (.aload_n 0, 1) := by decide +kernel
theorem dX3_come_49 : decode cX3_come 49 = .ok (.getfield 21, 3) := by decide +kernel
theorem dX3_come_52 : decode cX3_come 52 = .ok (.aload_n 0, 1) := by decide +kernel
theorem dX3_come_53 : decode cX3_come 53 = .ok (.getfield 36, 3) := by decide +kernel
theorem dX3_come_56 : decode cX3_come 56 = .ok (.iload 4, 2) := by decide +kernel
theorem dX3_come_58 : decode cX3_come 58 = .ok (.iastore, 1) := by decide +kernel
theorem dX3_come_59 : decode cX3_come 59 = .ok (.aload_n 0, 1) := by decide +kernel
theorem dX3_come_60 : decode cX3_come 60 = .ok (.dup, 1) := by decide +kernel
theorem dX3_come_61 : decode cX3_come 61 = .ok (.getfield 36, 3) := by decide +kernel
theorem dX3_come_64 : decode cX3_come 64 = .ok (.iconst 1, 1) := by decide +kernel
theorem dX3_come_65 : decode cX3_come 65 = .ok (.iadd, 1) := by decide +kernel
theorem dX3_come_66 : decode cX3_come 66 = .ok (.putfield 36, 3) := by decide +kernel
theorem dX3_come_69 : decode cX3_come 69 = .ok (.aload_n 0, 1) := by decide +kernel
theorem dX3_come_70 : decode cX3_come 70 = .ok (.getfield 36, 3) := by decide +kernel
theorem dX3_come_73 : decode cX3_come 73 = .ok (.iconst 1, 1) := by decide +kernel
theorem dX3_come_74 : decode cX3_come 74 = .ok (.isub, 1) := by decide +kernel
theorem dX3_come_75 : decode cX3_come 75 = .ok (.ireturn, 1) := by decide +kernel
theorem dX3_sitterOf_0 : decode cX3_sitterOf 0 = .ok (.iconst 0, 1) := by decide +kernel
theorem dX3_sitterOf_1 : decode cX3_sitterOf 1 = .ok (.istore_n 2, 1) := by decide +kernel
theorem dX3_sitterOf_2 : decode cX3_sitterOf 2 = .ok (.iload_n 2, 1) := by decide +kernel
theorem dX3_sitterOf_3 : decode cX3_sitterOf 3 = .ok (.aload_n 0, 1) := by decide +kernel
theorem dX3_sitterOf_4 : decode cX3_sitterOf 4 = .ok (.getfield 36, 3) := by decide +kernel
theorem dX3_sitterOf_7 : decode cX3_sitterOf 7 = .ok (.if_icmp .ge 26, 3) := by decide +kernel
theorem dX3_sitterOf_10 : decode cX3_sitterOf 10 = .ok (.iload_n 2, 1) := by decide +kernel
theorem dX3_sitterOf_11 : decode cX3_sitterOf 11 = .ok (.iconst 5, 1) := by decide +kernel
theorem dX3_sitterOf_12 : decode cX3_sitterOf 12 = .ok (.if_icmp .ge 21, 3) := by decide +kernel
theorem dX3_sitterOf_15 : decode cX3_sitterOf 15 = .ok (.aload_n 0, 1) := by decide +kernel
theorem dX3_sitterOf_16 : decode cX3_sitterOf 16 = .ok (.getfield 21, 3) := by decide +kernel
theorem dX3_sitterOf_19 : decode cX3_sitterOf 19 = .ok (.iload_n 2, 1) := by decide +kernel
theorem dX3_sitterOf_20 : decode cX3_sitterOf 20 = .ok (.iaload, 1) := by decide +kernel
theorem dX3_sitterOf_21 : decode cX3_sitterOf 21 = .ok (.iload_n 1, 1) := by decide +kernel
theorem dX3_sitterOf_22 : decode cX3_sitterOf 22 = .ok (.if_icmp .ne 5, 3) := by decide +kernel
theorem dX3_sitterOf_25 : decode cX3_sitterOf 25 = .ok (.iload_n 2, 1) := by decide +kernel
theorem dX3_sitterOf_26 : decode cX3_sitterOf 26 = .ok (.ireturn, 1) := by decide +kernel
theorem dX3_sitterOf_27 : decode cX3_sitterOf 27 = .ok (.iinc 2 1, 3) := by decide +kernel
theorem dX3_sitterOf_30 : decode cX3_sitterOf 30 = .ok (.goto (-28), 3) := by decide +kernel
theorem dX3_sitterOf_33 : decode cX3_sitterOf 33 = .ok (.iconst (-1), 1) := by decide +kernel
theorem dX3_sitterOf_34 : decode cX3_sitterOf 34 = .ok (.ireturn, 1) := by decide +kernel
theorem dX3_move_0 : decode cX3_move 0 = .ok (.aload_n 0, 1) := by decide +kernel
theorem dX3_move_1 : decode cX3_move 1 = .ok (.iload_n 1, 1) := by decide +kernel
theorem dX3_move_2 : decode cX3_move 2 = .ok (.invokevirtual 52, 3) := by decide +kernel
theorem dX3_move_5 : decode cX3_move 5 = .ok (.ifCond .eq 10, 3) := by decide +kernel
theorem dX3_move_8 : decode cX3_move 8 = .ok (.iload_n 2, 1) := by decide +kernel
theorem dX3_move_9 : decode cX3_move 9 = .ok (.invokestatic 56, 3) := by decide +kernel
theorem dX3_move_12 : decode cX3_move 12 = .ok (.ifCond .ne 4, 3) := by decide +kernel
theorem dX3_move_15 : decode cX3_move 15 = .ok (.return_, 1) := by decide +kernel
theorem dX3_move_16 : decode cX3_move 16 = .ok (.aload_n 0, 1) := by decide +kernel
theorem dX3_move_17 : decode cX3_move 17 = .ok (.iload_n 2, 1) := by decide +kernel
theorem dX3_move_18 : decode cX3_move 18 = .ok (.invokevirtual 59, 3) := by decide +kernel
theorem dX3_move_21 : decode cX3_move 21 = .ok (.istore_n 3, 1) := by decide +kernel
theorem dX3_move_22 : decode cX3_move 22 = .ok (.aload_n 0, 1) := by decide +kernel
theorem dX3_move_23 : decode cX3_move 23 = .ok (.iload_n 3, 1) := by decide +kernel
theorem dX3_move_24 : decode cX3_move 24 = .ok (.invokevirtual 52, 3) := by decide +kernel
theorem dX3_move_27 : decode cX3_move 27 = .ok (.ifCond .eq 15, 3) := by decide +kernel
theorem dX3_move_30 : decode cX3_move 30 = .ok (.aload_n 0, 1) := by decide +kernel
theorem dX3_move_31 : decode cX3_move 31 = .ok (.getfield 21, 3) := by decide +kernel
theorem dX3_move_34 : decode cX3_move 34 = .ok (.iload_n 3, 1) := by decide +kernel
theorem dX3_move_35 : decode cX3_move 35 = .ok (.aload_n 0, 1) := by decide +kernel
theorem dX3_move_36 : decode cX3_move 36 = .ok (.getfield 21, 3) := by decide +kernel
theorem dX3_move_39 : decode cX3_move 39 = .ok (.iload_n 1, 1) := by decide +kernel
theorem dX3_move_40 : decode cX3_move 40 = .ok (.iaload, 1) := by decide +kernel
theorem dX3_move_41 : decode cX3_move 41 = .ok (.iastore, 1) := by decide +kernel
theorem dX3_move_42 : decode cX3_move 42 = .ok (.aload_n 0, 1) := by decide +kernel
theorem dX3_move_43 : decode cX3_move 43 = .ok (.getfield 21, 3) := by decide +kernel
theorem dX3_move_46 : decode cX3_move 46 = .ok (.iload_n 1, 1) := by decide +kernel
theorem dX3_move_47 : decode cX3_move 47 = .ok (.iload_n 2, 1) := by decide +kernel
theorem dX3_move_48 : decode cX3_move 48 = .ok (.iastore, 1) := by decide +kernel
theorem dX3_move_49 : decode cX3_move 49 = .ok (.return_, 1) := by decide +kernel
theorem dX3_lightOf_0 : decode cX3_lightOf 0 = .ok (.aload_n 0, 1) := by decide +kernel
theorem dX3_lightOf_1 : decode cX3_lightOf 1 = .ok (.iload_n 1, 1) := by decide +kernel
theorem dX3_lightOf_2 : decode cX3_lightOf 2 = .ok (.invokevirtual 52, 3) := by decide +kernel
theorem dX3_lightOf_5 : decode cX3_lightOf 5 = .ok (.ifCond .eq 29, 3) := by decide +kernel
theorem dX3_lightOf_8 : decode cX3_lightOf 8 = .ok (.aload_n 0, 1) := by decide +kernel
theorem dX3_lightOf_9 : decode cX3_lightOf 9 = .ok (.getfield 21, 3) := by decide +kernel
theorem dX3_lightOf_12 : decode cX3_lightOf 12 = .ok (.iload_n 1, 1) := by decide +kernel
theorem dX3_lightOf_13 : decode cX3_lightOf 13 = .ok (.iaload, 1) := by decide +kernel
theorem dX3_lightOf_14 : decode cX3_lightOf 14 = .ok (.invokestatic 56, 3) := by decide +kernel
theorem dX3_lightOf_17 : decode cX3_lightOf 17 = .ok (.ifCond .eq 17, 3) := by decide +kernel
theorem dX3_lightOf_20 : decode cX3_lightOf 20 = .ok (.aload_n 0, 1) := by decide +kernel
theorem dX3_lightOf_21 : decode cX3_lightOf 21 = .ok (.getfield 24, 3) := by decide +kernel
theorem dX3_lightOf_24 : decode cX3_lightOf 24 = .ok (.aload_n 0, 1) := by decide +kernel
theorem dX3_lightOf_25 : decode cX3_lightOf 25 = .ok (.getfield 21, 3) := by decide +kernel
theorem dX3_lightOf_28 : decode cX3_lightOf 28 = .ok (.iload_n 1, 1) := by decide +kernel
theorem dX3_lightOf_29 : decode cX3_lightOf 29 = .ok (.iaload, 1) := by decide +kernel
theorem dX3_lightOf_30 : decode cX3_lightOf 30 = .ok (.iaload, 1) := by decide +kernel
theorem dX3_lightOf_31 : decode cX3_lightOf 31 = .ok (.goto 4, 3) := by decide +kernel
theorem dX3_lightOf_34 : decode cX3_lightOf 34 = .ok (.iconst 0, 1) := by decide +kernel
theorem dX3_lightOf_35 : decode cX3_lightOf 35 = .ok (.ireturn, 1) := by decide +kernel
theorem dX3_redFrom_0 : decode cX3_redFrom 0 = .ok (.aload_n 0, 1) := by decide +kernel
theorem dX3_redFrom_1 : decode cX3_redFrom 1 = .ok (.iload_n 1, 1) := by decide +kernel
theorem dX3_redFrom_2 : decode cX3_redFrom 2 = .ok (.invokevirtual 52, 3) := by decide +kernel
theorem dX3_redFrom_5 : decode cX3_redFrom 5 = .ok (.ifCond .eq 26, 3) := by decide +kernel
theorem dX3_redFrom_8 : decode cX3_redFrom 8 = .ok (.aload_n 0, 1) := by decide +kernel
theorem dX3_redFrom_9 : decode cX3_redFrom 9 = .ok (.getfield 9, 3) := by decide +kernel
theorem dX3_redFrom_12 : decode cX3_redFrom 12 = .ok (.iload_n 1, 1) := by decide +kernel
theorem dX3_redFrom_13 : decode cX3_redFrom 13 = .ok (.iaload, 1) := by decide +kernel
theorem dX3_redFrom_14 : decode cX3_redFrom 14 = .ok (.aload_n 0, 1) := by decide +kernel
theorem dX3_redFrom_15 : decode cX3_redFrom 15 = .ok (.getfield 15, 3) := by decide +kernel
theorem dX3_redFrom_18 : decode cX3_redFrom 18 = .ok (.iload_n 1, 1) := by decide +kernel
theorem dX3_redFrom_19 : decode cX3_redFrom 19 = .ok (.iaload, 1) := by decide +kernel
theorem dX3_redFrom_20 : decode cX3_redFrom 20 = .ok (.aload_n 0, 1) := by decide +kernel
theorem dX3_redFrom_21 : decode cX3_redFrom 21 = .ok (.iload_n 1, 1) := by decide +kernel
theorem dX3_redFrom_22 : decode cX3_redFrom 22 = .ok (.invokevirtual 63, 3) := by decide +kernel
theorem dX3_redFrom_25 : decode cX3_redFrom 25 = .ok (.invokestatic 66, 3) := by decide +kernel
theorem dX3_redFrom_28 : decode cX3_redFrom 28 = .ok (.goto 4, 3) := by decide +kernel
theorem dX3_redFrom_31 : decode cX3_redFrom 31 = .ok (.iconst 0, 1) := by decide +kernel
theorem dX3_redFrom_32 : decode cX3_redFrom 32 = .ok (.ireturn, 1) := by decide +kernel
theorem dX3_addCause_0 : decode cX3_addCause 0 = .ok (.aload_n 0, 1) := by decide +kernel
theorem dX3_addCause_1 : decode cX3_addCause 1 = .ok (.getfield 40, 3) := by decide +kernel
theorem dX3_addCause_4 : decode cX3_addCause 4 = .ok (.ifCond .lt 12, 3) := by decide +kernel
theorem dX3_addCause_7 : decode cX3_addCause 7 = .ok (.aload_n 0, 1) := by decide +kernel
theorem dX3_addCause_8 : decode cX3_addCause 8 = .ok (.getfield 40, 3) := by decide +kernel
theorem dX3_addCause_11 : decode cX3_addCause 11 = .ok (.bipush 8, 2) := by decide +kernel
theorem dX3_addCause_13 : decode cX3_addCause 13 = .ok (.if_icmp .lt 6, 3) := by decide +kernel
theorem dX3_addCause_16 : decode cX3_addCause 16 = .ok (.bipush (-4), 2) := by decide +kernel
theorem dX3_addCause_18 : decode cX3_addCause 18 = .ok (.ireturn, 1) := by decide +kernel
theorem dX3_addCause_19 : decode cX3_addCause 19 = .ok (.aload_n 0, 1) := by decide +kernel
theorem dX3_addCause_20 : decode cX3_addCause 20 = .ok (.getfield 27, 3) := by decide +kernel
theorem dX3_addCause_23 : decode cX3_addCause 23 = .ok (.aload_n 0, 1) := by decide +kernel
theorem dX3_addCause_24 : decode cX3_addCause 24 = .ok (.getfield 40, 3) := by decide +kernel
theorem dX3_addCause_27 : decode cX3_addCause 27 = .ok (.iload_n 1, 1) := by decide +kernel
theorem dX3_addCause_28 : decode cX3_addCause 28 = .ok (.iastore, 1) := by decide +kernel
theorem dX3_addCause_29 : decode cX3_addCause 29 = .ok (.aload_n 0, 1) := by decide +kernel
theorem dX3_addCause_30 : decode cX3_addCause 30 = .ok (.getfield 30, 3) := by decide +kernel
theorem dX3_addCause_33 : decode cX3_addCause 33 = .ok (.aload_n 0, 1) := by decide +kernel
theorem dX3_addCause_34 : decode cX3_addCause 34 = .ok (.getfield 40, 3) := by decide +kernel
theorem dX3_addCause_37 : decode cX3_addCause 37 = .ok (.iload_n 2, 1) := by decide +kernel
theorem dX3_addCause_38 : decode cX3_addCause 38 = .ok (.iastore, 1) := by decide +kernel
theorem dX3_addCause_39 : decode cX3_addCause 39 = .ok (.aload_n 0, 1) := by decide +kernel
theorem dX3_addCause_40 : decode cX3_addCause 40 = .ok (.getfield 33, 3) := by decide +kernel
theorem dX3_addCause_43 : decode cX3_addCause 43 = .ok (.aload_n 0, 1) := by decide +kernel
theorem dX3_addCause_44 : decode cX3_addCause 44 = .ok (.getfield 40, 3) := by decide +kernel
theorem dX3_addCause_47 : decode cX3_addCause 47 = .ok (.iload_n 3, 1) := by decide +kernel
theorem dX3_addCause_48 : decode cX3_addCause 48 = .ok (.iastore, 1) := by decide +kernel
theorem dX3_addCause_49 : decode cX3_addCause 49 = .ok (.aload_n 0, 1) := by decide +kernel
theorem dX3_addCause_50 : decode cX3_addCause 50 = .ok (.dup, 1) := by decide +kernel
theorem dX3_addCause_51 : decode cX3_addCause 51 = .ok (.getfield 40, 3) := by decide +kernel
theorem dX3_addCause_54 : decode cX3_addCause 54 = .ok (.iconst 1, 1) := by decide +kernel
theorem dX3_addCause_55 : decode cX3_addCause 55 = .ok (.iadd, 1) := by decide +kernel
theorem dX3_addCause_56 : decode cX3_addCause 56 = .ok (.putfield 40, 3) := by decide +kernel
theorem dX3_addCause_59 : decode cX3_addCause 59 = .ok (.aload_n 0, 1) := by decide +kernel
theorem dX3_addCause_60 : decode cX3_addCause 60 = .ok (.getfield 40, 3) := by decide +kernel
theorem dX3_addCause_63 : decode cX3_addCause 63 = .ok (.iconst 1, 1) := by decide +kernel
theorem dX3_addCause_64 : decode cX3_addCause 64 = .ok (.isub, 1) := by decide +kernel
theorem dX3_addCause_65 : decode cX3_addCause 65 = .ok (.ireturn, 1) := by decide +kernel
theorem dX3_causedTo_0 : decode cX3_causedTo 0 = .ok (.iconst 0, 1) := by decide +kernel
theorem dX3_causedTo_1 : decode cX3_causedTo 1 = .ok (.istore_n 3, 1) := by decide +kernel
theorem dX3_causedTo_2 : decode cX3_causedTo 2 = .ok (.iconst 0, 1) := by decide +kernel
theorem dX3_causedTo_3 : decode cX3_causedTo 3 = .ok (.istore 4, 2) := by decide +kernel
theorem dX3_causedTo_5 : decode cX3_causedTo 5 = .ok (.iload 4, 2) := by decide +kernel
theorem dX3_causedTo_7 : decode cX3_causedTo 7 = .ok (.aload_n 0, 1) := by decide +kernel
theorem dX3_causedTo_8 : decode cX3_causedTo 8 = .ok (.getfield 40, 3) := by decide +kernel
theorem dX3_causedTo_11 : decode cX3_causedTo 11 = .ok (.if_icmp .ge 48, 3) := by decide +kernel
theorem dX3_causedTo_14 : decode cX3_causedTo 14 = .ok (.iload 4, 2) := by decide +kernel
theorem dX3_causedTo_16 : decode cX3_causedTo 16 = .ok (.bipush 8, 2) := by decide +kernel
theorem dX3_causedTo_18 : decode cX3_causedTo 18 = .ok (.if_icmp .ge 41, 3) := by decide +kernel
theorem dX3_causedTo_21 : decode cX3_causedTo 21 = .ok (.aload_n 0, 1) := by decide +kernel
theorem dX3_causedTo_22 : decode cX3_causedTo 22 = .ok (.getfield 27, 3) := by decide +kernel
theorem dX3_causedTo_25 : decode cX3_causedTo 25 = .ok (.iload 4, 2) := by decide +kernel
theorem dX3_causedTo_27 : decode cX3_causedTo 27 = .ok (.iaload, 1) := by decide +kernel
theorem dX3_causedTo_28 : decode cX3_causedTo 28 = .ok (.iload_n 2, 1) := by decide +kernel
theorem dX3_causedTo_29 : decode cX3_causedTo 29 = .ok (.if_icmp .ne 24, 3) := by decide +kernel
theorem dX3_causedTo_32 : decode cX3_causedTo 32 = .ok (.aload_n 0, 1) := by decide +kernel
theorem dX3_causedTo_33 : decode cX3_causedTo 33 = .ok (.getfield 30, 3) := by decide +kernel
theorem dX3_causedTo_36 : decode cX3_causedTo 36 = .ok (.iload 4, 2) := by decide +kernel
theorem dX3_causedTo_38 : decode cX3_causedTo 38 = .ok (.iaload, 1) := by decide +kernel
theorem dX3_causedTo_39 : decode cX3_causedTo 39 = .ok (.iload_n 1, 1) := by decide +kernel
theorem dX3_causedTo_40 : decode cX3_causedTo 40 = .ok (.if_icmp .ne 13, 3) := by decide +kernel
theorem dX3_causedTo_43 : decode cX3_causedTo 43 = .ok (.iload_n 3, 1) := by decide +kernel
theorem dX3_causedTo_44 : decode cX3_causedTo 44 = .ok (.aload_n 0, 1) := by decide +kernel
theorem dX3_causedTo_45 : decode cX3_causedTo 45 = .ok (.getfield 33, 3) := by decide +kernel
theorem dX3_causedTo_48 : decode cX3_causedTo 48 = .ok (.iload 4, 2) := by decide +kernel
theorem dX3_causedTo_50 : decode cX3_causedTo 50 = .ok (.iaload, 1) := by decide +kernel
theorem dX3_causedTo_51 : decode cX3_causedTo 51 = .ok (.iadd, 1) := by decide +kernel
theorem dX3_causedTo_52 : decode cX3_causedTo 52 = .ok (.istore_n 3, 1) := by decide +kernel
theorem dX3_causedTo_53 : decode cX3_causedTo 53 = .ok (.iinc 4 1, 3) := by decide +kernel
theorem dX3_causedTo_56 : decode cX3_causedTo 56 = .ok (.goto (-51), 3) := by decide +kernel
theorem dX3_causedTo_59 : decode cX3_causedTo 59 = .ok (.iload_n 3, 1) := by decide +kernel
theorem dX3_causedTo_60 : decode cX3_causedTo 60 = .ok (.ireturn, 1) := by decide +kernel
theorem dX4_init_0 : decode cX4_init 0 = .ok (.aload_n 0, 1) := by decide +kernel
theorem dX4_init_1 : decode cX4_init 1 = .ok (.invokespecial 3, 3) := by decide +kernel
theorem dX4_init_4 : decode cX4_init 4 = .ok (.aload_n 0, 1) := by decide +kernel
theorem dX4_init_5 : decode cX4_init 5 = .ok (.new 9, 3) := by decide +kernel
theorem dX4_init_8 : decode cX4_init 8 = .ok (.dup, 1) := by decide +kernel
theorem dX4_init_9 : decode cX4_init 9 = .ok (.invokespecial 11, 3) := by decide +kernel
theorem dX4_init_12 : decode cX4_init 12 = .ok (.putfield 12, 3) := by decide +kernel
theorem dX4_init_15 : decode cX4_init 15 = .ok (.aload_n 0, 1) := by decide +kernel
theorem dX4_init_16 : decode cX4_init 16 = .ok (.sipush 205, 3) := by decide +kernel
theorem dX4_init_19 : decode cX4_init 19 = .ok (.newarray .int, 2) := by decide +kernel
theorem dX4_init_21 : decode cX4_init 21 = .ok (.putfield 18, 3) := by decide +kernel
theorem dX4_init_24 : decode cX4_init 24 = .ok (.aload_n 0, 1) := by decide +kernel
theorem dX4_init_25 : decode cX4_init 25 = .ok (.sipush 205, 3) := by decide +kernel
theorem dX4_init_28 : decode cX4_init 28 = .ok (.newarray .int, 2) := by decide +kernel
theorem dX4_init_30 : decode cX4_init 30 = .ok (.putfield 22, 3) := by decide +kernel
theorem dX4_init_33 : decode cX4_init 33 = .ok (.aload_n 0, 1) := by decide +kernel
theorem dX4_init_34 : decode cX4_init 34 = .ok (.iconst 5, 1) := by decide +kernel
theorem dX4_init_35 : decode cX4_init 35 = .ok (.newarray .int, 2) := by decide +kernel
theorem dX4_init_37 : decode cX4_init 37 = .ok (.putfield 25, 3) := by decide +kernel
theorem dX4_init_40 : decode cX4_init 40 = .ok (.aload_n 0, 1) := by decide +kernel
theorem dX4_init_41 : decode cX4_init 41 = .ok (.iconst 0, 1) := by decide +kernel
theorem dX4_init_42 : decode cX4_init 42 = .ok (.putfield 28, 3) := by decide +kernel
theorem dX4_init_45 : decode cX4_init 45 = .ok (.aload_n 0, 1) := by decide +kernel
theorem dX4_init_46 : decode cX4_init 46 = .ok (.aload_n 1, 1) := by decide +kernel
theorem dX4_init_47 : decode cX4_init 47 = .ok (.putfield 32, 3) := by decide +kernel
theorem dX4_init_50 : decode cX4_init 50 = .ok (.aload_n 0, 1) := by decide +kernel
theorem dX4_init_51 : decode cX4_init 51 = .ok (.aload_n 2, 1) := by decide +kernel
theorem dX4_init_52 : decode cX4_init 52 = .ok (.putfield 36, 3) := by decide +kernel
theorem dX4_init_55 : decode cX4_init 55 = .ok (.return_, 1) := by decide +kernel
theorem dX4_play_0 : decode cX4_play 0 = .ok (.aload_n 0, 1) := by decide +kernel
theorem dX4_play_1 : decode cX4_play 1 = .ok (.aload_n 1, 1) := by decide +kernel
theorem dX4_play_2 : decode cX4_play 2 = .ok (.getfield 40, 3) := by decide +kernel
theorem dX4_play_5 : decode cX4_play 5 = .ok (.iconst 5, 1) := by decide +kernel
theorem dX4_play_6 : decode cX4_play 6 = .ok (.invokestatic 43, 3) := by decide +kernel
theorem dX4_play_9 : decode cX4_play 9 = .ok (.putfield 28, 3) := by decide +kernel
theorem dX4_play_12 : decode cX4_play 12 = .ok (.iconst 0, 1) := by decide +kernel
theorem dX4_play_13 : decode cX4_play 13 = .ok (.istore_n 3, 1) := by decide +kernel
theorem dX4_play_14 : decode cX4_play 14 = .ok (.iload_n 3, 1) := by decide +kernel
theorem dX4_play_15 : decode cX4_play 15 = .ok (.aload_n 0, 1) := by decide +kernel
theorem dX4_play_16 : decode cX4_play 16 = .ok (.getfield 28, 3) := by decide +kernel
theorem dX4_play_19 : decode cX4_play 19 = .ok (.if_icmp .ge 16, 3) := by decide +kernel
theorem dX4_play_22 : decode cX4_play 22 = .ok (.aload_n 0, 1) := by decide +kernel
theorem dX4_play_23 : decode cX4_play 23 = .ok (.aload_n 1, 1) := by decide +kernel
theorem dX4_play_24 : decode cX4_play 24 = .ok (.iload_n 3, 1) := by decide +kernel
theorem dX4_play_25 : decode cX4_play 25 = .ok (.iload_n 2, 1) := by decide +kernel
theorem dX4_play_26 : decode cX4_play 26 = .ok (.invokevirtual 49, 3) := by decide +kernel
theorem dX4_play_29 : decode cX4_play 29 = .ok (.iinc 3 1, 3) := by decide +kernel
theorem dX4_play_32 : decode cX4_play 32 = .ok (.goto (-18), 3) := by decide +kernel
theorem dX4_play_35 : decode cX4_play 35 = .ok (.return_, 1) := by decide +kernel
theorem dX4_playOne_0 : decode cX4_playOne 0 = .ok (.aload_n 1, 1) := by decide +kernel
theorem dX4_playOne_1 : decode cX4_playOne 1 = .ok (.iload_n 2, 1) := by decide +kernel
theorem dX4_playOne_2 : decode cX4_playOne 2 = .ok (.invokevirtual 53, 3) := by decide +kernel
theorem dX4_playOne_5 : decode cX4_playOne 5 = .ok (.ifCond .ne 4, 3) := by decide +kernel
theorem dX4_playOne_8 : decode cX4_playOne 8 = .ok (.return_, 1) := by decide +kernel
theorem dX4_playOne_9 : decode cX4_playOne 9 = .ok (.aload_n 0, 1) := by decide +kernel
theorem dX4_playOne_10 : decode cX4_playOne 10 = .ok (.getfield 18, 3) := by decide +kernel
theorem dX4_playOne_13 : decode cX4_playOne 13 = .ok (.iload_n 2, 1) := by decide +kernel
theorem dX4_playOne_14 : decode cX4_playOne 14 = .ok (.aload_n 1, 1) := by decide +kernel
theorem dX4_playOne_15 : decode cX4_playOne 15 = .ok (.getfield 57, 3) := by decide +kernel
theorem dX4_playOne_18 : decode cX4_playOne 18 = .ok (.iload_n 2, 1) := by decide +kernel
theorem dX4_playOne_19 : decode cX4_playOne 19 = .ok (.iaload, 1) := by decide +kernel
theorem dX4_playOne_20 : decode cX4_playOne 20 = .ok (.iastore, 1) := by decide +kernel
theorem dX4_playOne_21 : decode cX4_playOne 21 = .ok (.aload_n 0, 1) := by decide +kernel
theorem dX4_playOne_22 : decode cX4_playOne 22 = .ok (.getfield 22, 3) := by decide +kernel
theorem dX4_playOne_25 : decode cX4_playOne 25 = .ok (.iload_n 2, 1) := by decide +kernel
theorem dX4_playOne_26 : decode cX4_playOne 26 = .ok (.iconst 0, 1) := by decide +kernel
theorem dX4_playOne_27 : decode cX4_playOne 27 = .ok (.iastore, 1) := by decide +kernel
theorem dX4_playOne_28 : decode cX4_playOne 28 = .ok (.aload_n 0, 1) := by decide +kernel
theorem dX4_playOne_29 : decode cX4_playOne 29 = .ok (.getfield 25, 3) := by decide +kernel
theorem dX4_playOne_32 : decode cX4_playOne 32 = .ok (.iload_n 2, 1) := by decide +kernel
theorem dX4_playOne_33 : decode cX4_playOne 33 = .ok (.aload_n 1, 1) := by decide +kernel
theorem dX4_playOne_34 : decode cX4_playOne 34 = .ok (.iload_n 2, 1) := by decide +kernel
theorem dX4_playOne_35 : decode cX4_playOne 35 = .ok (.invokevirtual 58, 3) := by decide +kernel
theorem dX4_playOne_38 : decode cX4_playOne 38 = .ok (.iastore, 1) := by decide +kernel
theorem dX4_playOne_39 : decode cX4_playOne 39 = .ok (.iconst 0, 1) := by decide +kernel
theorem dX4_playOne_40 : decode cX4_playOne 40 = .ok (.istore 4, 2) := by decide +kernel
theorem dX4_playOne_42 : decode cX4_playOne 42 = .ok (.iload 4, 2) := by decide +kernel
theorem dX4_playOne_44 : decode cX4_playOne 44 = .ok (.iload_n 3, 1) := by decide +kernel
theorem dX4_playOne_45 : decode cX4_playOne 45 = .ok (.if_icmp .ge 24, 3) := by decide +kernel
theorem dX4_playOne_48 : decode cX4_playOne 48 = .ok (.iload 4, 2) := by decide +kernel
theorem dX4_playOne_50 : decode cX4_playOne 50 = .ok (.bipush 40, 2) := by decide +kernel
theorem dX4_playOne_52 : decode cX4_playOne 52 = .ok (.if_icmp .ge 17, 3) := by decide +kernel
theorem dX4_playOne_55 : decode cX4_playOne 55 = .ok (.aload_n 0, 1) := by decide +kernel
theorem dX4_playOne_56 : decode cX4_playOne 56 = .ok (.aload_n 1, 1) := by decide +kernel
theorem dX4_playOne_57 : decode cX4_playOne 57 = .ok (.iload_n 2, 1) := by decide +kernel
theorem dX4_playOne_58 : decode cX4_playOne 58 = .ok (.iload 4, 2) := by decide +kernel
theorem dX4_playOne_60 : decode cX4_playOne 60 = .ok (.invokevirtual 61, 3) := by decide +kernel
theorem dX4_playOne_63 : decode cX4_playOne 63 = .ok (.iinc 4 1, 3) := by decide +kernel
theorem dX4_playOne_66 : decode cX4_playOne 66 = .ok (.goto (-24), 3) := by decide +kernel
theorem dX4_playOne_69 : decode cX4_playOne 69 = .ok (.return_, 1) := by decide +kernel
theorem dX4_playSecond_0 : decode cX4_playSecond 0 = .ok (.iload_n 3, 1) := by decide +kernel
theorem dX4_playSecond_1 : decode cX4_playSecond 1 = .ok (.iconst 5, 1) := by decide +kernel
theorem dX4_playSecond_2 : decode cX4_playSecond 2 = .ok (.imul, 1) := by decide +kernel
theorem dX4_playSecond_3 : decode cX4_playSecond 3 = .ok (.iload_n 2, 1) := by decide +kernel
theorem dX4_playSecond_4 : decode cX4_playSecond 4 = .ok (.iadd, 1) := by decide +kernel
theorem dX4_playSecond_5 : decode cX4_playSecond 5 = .ok (.istore 4, 2) := by decide +kernel
theorem dX4_playSecond_7 : decode cX4_playSecond 7 = .ok (.iload 4, 2) := by decide +kernel
theorem dX4_playSecond_9 : decode cX4_playSecond 9 = .ok (.iconst 5, 1) := by decide +kernel
theorem dX4_playSecond_10 : decode cX4_playSecond 10 = .ok (.iadd, 1) := by decide +kernel
theorem dX4_playSecond_11 : decode cX4_playSecond 11 = .ok (.istore 5, 2) := by decide +kernel
theorem dX4_playSecond_13 : decode cX4_playSecond 13 = .ok (.aload_n 1, 1) := by decide +kernel
theorem dX4_playSecond_14 : decode cX4_playSecond 14 = .ok (.iload_n 2, 1) := by decide +kernel
theorem dX4_playSecond_15 : decode cX4_playSecond 15 = .ok (.invokevirtual 53, 3) := by decide +kernel
theorem dX4_playSecond_18 : decode cX4_playSecond 18 = .ok (.ifCond .eq 18, 3) := by decide +kernel
theorem dX4_playSecond_21 : decode cX4_playSecond 21 = .ok (.iload 4, 2) := by decide +kernel
theorem dX4_playSecond_23 : decode cX4_playSecond 23 = .ok (.ifCond .lt 13, 3) := by decide +kernel
theorem dX4_playSecond_26 : decode cX4_playSecond 26 = .ok (.iload 5, 2) := by decide +kernel
theorem dX4_playSecond_28 : decode cX4_playSecond 28 = .ok (.aload_n 0, 1) := by decide +kernel
theorem dX4_playSecond_29 : decode cX4_playSecond 29 = .ok (.getfield 18, 3) := by decide +kernel
theorem dX4_playSecond_32 : decode cX4_playSecond 32 = .ok (.arraylength, 1) := by decide +kernel
theorem dX4_playSecond_33 : decode cX4_playSecond 33 = .ok (.if_icmp .lt 4, 3) := by decide +kernel
theorem dX4_playSecond_36 : decode cX4_playSecond 36 = .ok (.return_, 1) := by decide +kernel
theorem dX4_playSecond_37 : decode cX4_playSecond 37 = .ok (.aload_n 0, 1) := by decide +kernel
theorem dX4_playSecond_38 : decode cX4_playSecond 38 = .ok (.getfield 18, 3) := by decide +kernel
theorem dX4_playSecond_41 : decode cX4_playSecond 41 = .ok (.iload 4, 2) := by decide +kernel
theorem dX4_playSecond_43 : decode cX4_playSecond 43 = .ok (.iaload, 1) := by decide +kernel
theorem dX4_playSecond_44 : decode cX4_playSecond 44 = .ok (.istore 6, 2) := by decide +kernel
theorem dX4_playSecond_46 : decode cX4_playSecond 46 = .ok (.iload 6, 2) := by decide +kernel
theorem dX4_playSecond_48 : decode cX4_playSecond 48 = .ok (.aload_n 0, 1) := by decide +kernel
theorem dX4_playSecond_49 : decode cX4_playSecond 49 = .ok (.getfield 25, 3) := by decide +kernel
theorem dX4_playSecond_52 : decode cX4_playSecond 52 = .ok (.iload_n 2, 1) := by decide +kernel
theorem dX4_playSecond_53 : decode cX4_playSecond 53 = .ok (.iaload, 1) := by decide +kernel
theorem dX4_playSecond_54 : decode cX4_playSecond 54 = .ok (.if_icmp .lt 7, 3) := by decide +kernel
theorem dX4_playSecond_57 : decode cX4_playSecond 57 = .ok (.iconst 1, 1) := by decide +kernel
theorem dX4_playSecond_58 : decode cX4_playSecond 58 = .ok (.goto 4, 3) := by decide +kernel
theorem dX4_playSecond_61 : decode cX4_playSecond 61 = .ok (.iconst 0, 1) := by decide +kernel
theorem dX4_playSecond_62 : decode cX4_playSecond 62 = .ok (.istore 7, 2) := by decide +kernel
theorem dX4_playSecond_64 : decode cX4_playSecond 64 = .ok (.aload_n 0, 1) := by decide +kernel
theorem dX4_playSecond_65 : decode cX4_playSecond 65 = .ok (.getfield 12, 3) := by decide +kernel
theorem dX4_playSecond_68 : decode cX4_playSecond 68 = .ok (.iload 6, 2) := by decide +kernel
theorem dX4_playSecond_70 : decode cX4_playSecond 70 = .ok (.aload_n 1, 1) := by decide +kernel
theorem dX4_playSecond_71 : decode cX4_playSecond 71 = .ok (.iload_n 2, 1) := by decide +kernel
theorem dX4_playSecond_72 : decode cX4_playSecond 72 = .ok (.invokevirtual 64, 3) := by decide +kernel
theorem dX4_playSecond_75 : decode cX4_playSecond 75 = .ok (.iload_n 3, 1) := by decide +kernel
theorem dX4_playSecond_76 : decode cX4_playSecond 76 = .ok (.iload 7, 2) := by decide +kernel
theorem dX4_playSecond_78 : decode cX4_playSecond 78 = .ok (.ifCond .eq 7, 3) := by decide +kernel
theorem dX4_playSecond_81 : decode cX4_playSecond 81 = .ok (.iconst 1, 1) := by decide +kernel
theorem dX4_playSecond_82 : decode cX4_playSecond 82 = .ok (.goto 4, 3) := by decide +kernel
theorem dX4_playSecond_85 : decode cX4_playSecond 85 = .ok (.iconst 0, 1) := by decide +kernel
theorem dX4_playSecond_86 : decode cX4_playSecond 86 = .ok (.invokevirtual 67, 3) := by decide +kernel
theorem dX4_playSecond_89 : decode cX4_playSecond 89 = .ok (.aload_n 0, 1) := by decide +kernel
theorem dX4_playSecond_90 : decode cX4_playSecond 90 = .ok (.getfield 36, 3) := by decide +kernel
theorem dX4_playSecond_93 : decode cX4_playSecond 93 = .ok (.iload_n 2, 1) := by decide +kernel
theorem dX4_playSecond_94 : decode cX4_playSecond 94 = .ok (.iload_n 3, 1) := by decide +kernel
theorem dX4_playSecond_95 : decode cX4_playSecond 95 = .ok (.invokevirtual 71, 3) := by decide +kernel
theorem dX4_playSecond_98 : decode cX4_playSecond 98 = .ok (.ifCond .eq 7, 3) := by decide +kernel
theorem dX4_playSecond_101 : decode cX4_playSecond 101 = .ok (.iconst 0, 1) := by decide +kernel
theorem dX4_playSecond_102 : decode cX4_playSecond 102 = .ok (.goto 16, 3) := by decide +kernel
theorem dX4_playSecond_105 : decode cX4_playSecond 105 = .ok (.aload_n 0, 1) := by decide +kernel
theorem dX4_playSecond_106 : decode cX4_playSecond 106 = .ok (.aload_n 1, 1) := by decide +kernel
theorem dX4_playSecond_107 : decode cX4_playSecond 107 = .ok (.iload_n 2, 1) := by decide +kernel
theorem dX4_playSecond_108 : decode cX4_playSecond 108 = .ok (.aload_n 0, 1) := by decide +kernel
theorem dX4_playSecond_109 : decode cX4_playSecond 109 = .ok (.getfield 22, 3) := by decide +kernel
theorem dX4_playSecond_112 : decode cX4_playSecond 112 = .ok (.iload 4, 2) := by decide +kernel
theorem dX4_playSecond_114 : decode cX4_playSecond 114 = .ok (.iaload, 1) := by decide +kernel
theorem dX4_playSecond_115 : decode cX4_playSecond 115 = .ok (.invokevirtual 77, 3) := by decide +kernel
theorem dX4_playSecond_118 : decode cX4_playSecond 118 = .ok (.istore 8, 2) := by decide +kernel
theorem dX4_playSecond_120 : decode cX4_playSecond 120 = .ok (.aload_n 0, 1) := by decide +kernel
theorem dX4_playSecond_121 : decode cX4_playSecond 121 = .ok (.getfield 12, 3) := by decide +kernel
theorem dX4_playSecond_124 : decode cX4_playSecond 124 = .ok (.iload 8, 2) := by decide +kernel
theorem dX4_playSecond_126 : decode cX4_playSecond 126 = .ok (.aload_n 1, 1) := by decide +kernel
theorem dX4_playSecond_127 : decode cX4_playSecond 127 = .ok (.getfield 81, 3) := by decide +kernel
theorem dX4_playSecond_130 : decode cX4_playSecond 130 = .ok (.iload_n 2, 1) := by decide +kernel
theorem dX4_playSecond_131 : decode cX4_playSecond 131 = .ok (.iaload, 1) := by decide +kernel
theorem dX4_playSecond_132 : decode cX4_playSecond 132 = .ok (.invokevirtual 84, 3) := by decide +kernel
theorem dX4_playSecond_135 : decode cX4_playSecond 135 = .ok (.aload_n 1, 1) := by decide +kernel
theorem dX4_playSecond_136 : decode cX4_playSecond 136 = .ok (.getfield 88, 3) := by decide +kernel
theorem dX4_playSecond_139 : decode cX4_playSecond 139 = .ok (.iload_n 2, 1) := by decide +kernel
theorem dX4_playSecond_140 : decode cX4_playSecond 140 = .ok (.iaload, 1) := by decide +kernel
theorem dX4_playSecond_141 : decode cX4_playSecond 141 = .ok (.aload_n 1, 1) := by decide +kernel
theorem dX4_playSecond_142 : decode cX4_playSecond 142 = .ok (.getfield 81, 3) := by decide +kernel
theorem dX4_playSecond_145 : decode cX4_playSecond 145 = .ok (.iload_n 2, 1) := by decide +kernel
theorem dX4_playSecond_146 : decode cX4_playSecond 146 = .ok (.iaload, 1) := by decide +kernel
theorem dX4_playSecond_147 : decode cX4_playSecond 147 = .ok (.aload_n 0, 1) := by decide +kernel
theorem dX4_playSecond_148 : decode cX4_playSecond 148 = .ok (.getfield 32, 3) := by decide +kernel
theorem dX4_playSecond_151 : decode cX4_playSecond 151 = .ok (.aload_n 1, 1) := by decide +kernel
theorem dX4_playSecond_152 : decode cX4_playSecond 152 = .ok (.getfield 91, 3) := by decide +kernel
theorem dX4_playSecond_155 : decode cX4_playSecond 155 = .ok (.iconst 0, 1) := by decide +kernel
theorem dX4_playSecond_156 : decode cX4_playSecond 156 = .ok (.aload_n 0, 1) := by decide +kernel
theorem dX4_playSecond_157 : decode cX4_playSecond 157 = .ok (.getfield 12, 3) := by decide +kernel
theorem dX4_playSecond_160 : decode cX4_playSecond 160 = .ok (.getfield 96, 3) := by decide +kernel
theorem dX4_playSecond_163 : decode cX4_playSecond 163 = .ok (.invokevirtual 99, 3) := by decide +kernel
theorem dX4_playSecond_166 : decode cX4_playSecond 166 = .ok (.iload 7, 2) := by decide +kernel
theorem dX4_playSecond_168 : decode cX4_playSecond 168 = .ok (.invokestatic 103, 3) := by decide +kernel
theorem dX4_playSecond_171 : decode cX4_playSecond 171 = .ok (.istore 9, 2) := by decide +kernel
theorem dX4_playSecond_173 : decode cX4_playSecond 173 = .ok (.aload_n 1, 1) := by decide +kernel
theorem dX4_playSecond_174 : decode cX4_playSecond 174 = .ok (.getfield 88, 3) := by decide +kernel
theorem dX4_playSecond_177 : decode cX4_playSecond 177 = .ok (.iload_n 2, 1) := by decide +kernel
theorem dX4_playSecond_178 : decode cX4_playSecond 178 = .ok (.iaload, 1) := by decide +kernel
theorem dX4_playSecond_179 : decode cX4_playSecond 179 = .ok (.aload_n 1, 1) := by decide +kernel
theorem dX4_playSecond_180 : decode cX4_playSecond 180 = .ok (.getfield 81, 3) := by decide +kernel
theorem dX4_playSecond_183 : decode cX4_playSecond 183 = .ok (.iload_n 2, 1) := by decide +kernel
theorem dX4_playSecond_184 : decode cX4_playSecond 184 = .ok (.iaload, 1) := by decide +kernel
theorem dX4_playSecond_185 : decode cX4_playSecond 185 = .ok (.aload_n 0, 1) := by decide +kernel
theorem dX4_playSecond_186 : decode cX4_playSecond 186 = .ok (.getfield 32, 3) := by decide +kernel
theorem dX4_playSecond_189 : decode cX4_playSecond 189 = .ok (.aload_n 1, 1) := by decide +kernel
theorem dX4_playSecond_190 : decode cX4_playSecond 190 = .ok (.getfield 91, 3) := by decide +kernel
theorem dX4_playSecond_193 : decode cX4_playSecond 193 = .ok (.iconst 1, 1) := by decide +kernel
theorem dX4_playSecond_194 : decode cX4_playSecond 194 = .ok (.aload_n 0, 1) := by decide +kernel
theorem dX4_playSecond_195 : decode cX4_playSecond 195 = .ok (.getfield 12, 3) := by decide +kernel
theorem dX4_playSecond_198 : decode cX4_playSecond 198 = .ok (.getfield 96, 3) := by decide +kernel
theorem dX4_playSecond_201 : decode cX4_playSecond 201 = .ok (.invokevirtual 99, 3) := by decide +kernel
theorem dX4_playSecond_204 : decode cX4_playSecond 204 = .ok (.iload 6, 2) := by decide +kernel
theorem dX4_playSecond_206 : decode cX4_playSecond 206 = .ok (.invokestatic 109, 3) := by decide +kernel
theorem dX4_playSecond_209 : decode cX4_playSecond 209 = .ok (.istore 10, 2) := by decide +kernel
theorem dX4_playSecond_211 : decode cX4_playSecond 211 = .ok (.aload_n 0, 1) := by decide +kernel
theorem dX4_playSecond_212 : decode cX4_playSecond 212 = .ok (.getfield 36, 3) := by decide +kernel
theorem dX4_playSecond_215 : decode cX4_playSecond 215 = .ok (.iload_n 2, 1) := by decide +kernel
theorem dX4_playSecond_216 : decode cX4_playSecond 216 = .ok (.iload_n 3, 1) := by decide +kernel
theorem dX4_playSecond_217 : decode cX4_playSecond 217 = .ok (.iload 9, 2) := by decide +kernel
theorem dX4_playSecond_219 : decode cX4_playSecond 219 = .ok (.aload_n 1, 1) := by decide +kernel
theorem dX4_playSecond_220 : decode cX4_playSecond 220 = .ok (.getfield 81, 3) := by decide +kernel
theorem dX4_playSecond_223 : decode cX4_playSecond 223 = .ok (.iload_n 2, 1) := by decide +kernel
theorem dX4_playSecond_224 : decode cX4_playSecond 224 = .ok (.iaload, 1) := by decide +kernel
theorem dX4_playSecond_225 : decode cX4_playSecond 225 = .ok (.invokevirtual 113, 3) := by decide +kernel
theorem dX4_playSecond_228 : decode cX4_playSecond 228 = .ok (.aload_n 1, 1) := by decide +kernel
theorem dX4_playSecond_229 : decode cX4_playSecond 229 = .ok (.iload_n 2, 1) := by decide +kernel
theorem dX4_playSecond_230 : decode cX4_playSecond 230 = .ok (.iload_n 3, 1) := by decide +kernel
theorem dX4_playSecond_231 : decode cX4_playSecond 231 = .ok (.invokevirtual 116, 3) := by decide +kernel
theorem dX4_playSecond_234 : decode cX4_playSecond 234 = .ok (.iadd, 1) := by decide +kernel
theorem dX4_playSecond_235 : decode cX4_playSecond 235 = .ok (.aload_n 0, 1) := by decide +kernel
theorem dX4_playSecond_236 : decode cX4_playSecond 236 = .ok (.getfield 36, 3) := by decide +kernel
theorem dX4_playSecond_239 : decode cX4_playSecond 239 = .ok (.iload_n 2, 1) := by decide +kernel
theorem dX4_playSecond_240 : decode cX4_playSecond 240 = .ok (.iload_n 3, 1) := by decide +kernel
theorem dX4_playSecond_241 : decode cX4_playSecond 241 = .ok (.invokevirtual 119, 3) := by decide +kernel
theorem dX4_playSecond_244 : decode cX4_playSecond 244 = .ok (.iadd, 1) := by decide +kernel
theorem dX4_playSecond_245 : decode cX4_playSecond 245 = .ok (.istore 11, 2) := by decide +kernel
theorem dX4_playSecond_247 : decode cX4_playSecond 247 = .ok (.iconst 0, 1) := by decide +kernel
theorem dX4_playSecond_248 : decode cX4_playSecond 248 = .ok (.sipush 400, 3) := by decide +kernel
theorem dX4_playSecond_251 : decode cX4_playSecond 251 = .ok (.iload 6, 2) := by decide +kernel
theorem dX4_playSecond_253 : decode cX4_playSecond 253 = .ok (.iload 11, 2) := by decide +kernel
theorem dX4_playSecond_255 : decode cX4_playSecond 255 = .ok (.iadd, 1) := by decide +kernel
theorem dX4_playSecond_256 : decode cX4_playSecond 256 = .ok (.aload_n 0, 1) := by decide +kernel
theorem dX4_playSecond_257 : decode cX4_playSecond 257 = .ok (.getfield 36, 3) := by decide +kernel
theorem dX4_playSecond_260 : decode cX4_playSecond 260 = .ok (.iload_n 2, 1) := by decide +kernel
theorem dX4_playSecond_261 : decode cX4_playSecond 261 = .ok (.iload_n 3, 1) := by decide +kernel
theorem dX4_playSecond_262 : decode cX4_playSecond 262 = .ok (.iload 10, 2) := by decide +kernel
theorem dX4_playSecond_264 : decode cX4_playSecond 264 = .ok (.invokevirtual 120, 3) := by decide +kernel
theorem dX4_playSecond_267 : decode cX4_playSecond 267 = .ok (.isub, 1) := by decide +kernel
theorem dX4_playSecond_268 : decode cX4_playSecond 268 = .ok (.invokestatic 43, 3) := by decide +kernel
theorem dX4_playSecond_271 : decode cX4_playSecond 271 = .ok (.invokestatic 124, 3) := by decide +kernel
theorem dX4_playSecond_274 : decode cX4_playSecond 274 = .ok (.istore 12, 2) := by decide +kernel
theorem dX4_playSecond_276 : decode cX4_playSecond 276 = .ok (.aload_n 0, 1) := by decide +kernel
theorem dX4_playSecond_277 : decode cX4_playSecond 277 = .ok (.getfield 18, 3) := by decide +kernel
theorem dX4_playSecond_280 : decode cX4_playSecond 280 = .ok (.iload 5, 2) := by decide +kernel
theorem dX4_playSecond_282 : decode cX4_playSecond 282 = .ok (.sipush 400, 3) := by decide +kernel
theorem dX4_playSecond_285 : decode cX4_playSecond 285 = .ok (.iload 12, 2) := by decide +kernel
theorem dX4_playSecond_287 : decode cX4_playSecond 287 = .ok (.aload_n 0, 1) := by decide +kernel
theorem dX4_playSecond_288 : decode cX4_playSecond 288 = .ok (.getfield 36, 3) := by decide +kernel
theorem dX4_playSecond_291 : decode cX4_playSecond 291 = .ok (.iload_n 2, 1) := by decide +kernel
theorem dX4_playSecond_292 : decode cX4_playSecond 292 = .ok (.iload_n 3, 1) := by decide +kernel
theorem dX4_playSecond_293 : decode cX4_playSecond 293 = .ok (.invokevirtual 127, 3) := by decide +kernel
theorem dX4_playSecond_296 : decode cX4_playSecond 296 = .ok (.iadd, 1) := by decide +kernel
theorem dX4_playSecond_297 : decode cX4_playSecond 297 = .ok (.invokestatic 43, 3) := by decide +kernel
theorem dX4_playSecond_300 : decode cX4_playSecond 300 = .ok (.iastore, 1) := by decide +kernel
theorem dX4_playSecond_301 : decode cX4_playSecond 301 = .ok (.aload_n 0, 1) := by decide +kernel
theorem dX4_playSecond_302 : decode cX4_playSecond 302 = .ok (.getfield 22, 3) := by decide +kernel
theorem dX4_playSecond_305 : decode cX4_playSecond 305 = .ok (.iload 5, 2) := by decide +kernel
theorem dX4_playSecond_307 : decode cX4_playSecond 307 = .ok (.iload 8, 2) := by decide +kernel
theorem dX4_playSecond_309 : decode cX4_playSecond 309 = .ok (.iastore, 1) := by decide +kernel
theorem dX4_playSecond_310 : decode cX4_playSecond 310 = .ok (.return_, 1) := by decide +kernel
theorem dX4_lookersAt_0 : decode cX4_lookersAt 0 = .ok (.iconst 0, 1) := by decide +kernel
theorem dX4_lookersAt_1 : decode cX4_lookersAt 1 = .ok (.istore 4, 2) := by decide +kernel
theorem dX4_lookersAt_3 : decode cX4_lookersAt 3 = .ok (.iconst 0, 1) := by decide +kernel
theorem dX4_lookersAt_4 : decode cX4_lookersAt 4 = .ok (.istore 5, 2) := by decide +kernel
theorem dX4_lookersAt_6 : decode cX4_lookersAt 6 = .ok (.iload 5, 2) := by decide +kernel
theorem dX4_lookersAt_8 : decode cX4_lookersAt 8 = .ok (.aload_n 1, 1) := by decide +kernel
theorem dX4_lookersAt_9 : decode cX4_lookersAt 9 = .ok (.getfield 40, 3) := by decide +kernel
theorem dX4_lookersAt_12 : decode cX4_lookersAt 12 = .ok (.if_icmp .ge 74, 3) := by decide +kernel
theorem dX4_lookersAt_15 : decode cX4_lookersAt 15 = .ok (.iload 5, 2) := by decide +kernel
theorem dX4_lookersAt_17 : decode cX4_lookersAt 17 = .ok (.iconst 5, 1) := by decide +kernel
theorem dX4_lookersAt_18 : decode cX4_lookersAt 18 = .ok (.if_icmp .ge 68, 3) := by decide +kernel
theorem dX4_lookersAt_21 : decode cX4_lookersAt 21 = .ok (.iload 5, 2) := by decide +kernel
theorem dX4_lookersAt_23 : decode cX4_lookersAt 23 = .ok (.iload_n 2, 1) := by decide +kernel
theorem dX4_lookersAt_24 : decode cX4_lookersAt 24 = .ok (.if_icmp .eq 56, 3) := by decide +kernel
theorem dX4_lookersAt_27 : decode cX4_lookersAt 27 = .ok (.aload_n 0, 1) := by decide +kernel
theorem dX4_lookersAt_28 : decode cX4_lookersAt 28 = .ok (.getfield 36, 3) := by decide +kernel
theorem dX4_lookersAt_31 : decode cX4_lookersAt 31 = .ok (.iload 5, 2) := by decide +kernel
theorem dX4_lookersAt_33 : decode cX4_lookersAt 33 = .ok (.iload_n 2, 1) := by decide +kernel
theorem dX4_lookersAt_34 : decode cX4_lookersAt 34 = .ok (.invokevirtual 130, 3) := by decide +kernel
theorem dX4_lookersAt_37 : decode cX4_lookersAt 37 = .ok (.ifCond .ne 43, 3) := by decide +kernel
theorem dX4_lookersAt_40 : decode cX4_lookersAt 40 = .ok (.aload_n 0, 1) := by decide +kernel
theorem dX4_lookersAt_41 : decode cX4_lookersAt 41 = .ok (.getfield 12, 3) := by decide +kernel
theorem dX4_lookersAt_44 : decode cX4_lookersAt 44 = .ok (.iload_n 3, 1) := by decide +kernel
theorem dX4_lookersAt_45 : decode cX4_lookersAt 45 = .ok (.aload_n 1, 1) := by decide +kernel
theorem dX4_lookersAt_46 : decode cX4_lookersAt 46 = .ok (.getfield 81, 3) := by decide +kernel
theorem dX4_lookersAt_49 : decode cX4_lookersAt 49 = .ok (.iload 5, 2) := by decide +kernel
theorem dX4_lookersAt_51 : decode cX4_lookersAt 51 = .ok (.iaload, 1) := by decide +kernel
theorem dX4_lookersAt_52 : decode cX4_lookersAt 52 = .ok (.invokevirtual 84, 3) := by decide +kernel
theorem dX4_lookersAt_55 : decode cX4_lookersAt 55 = .ok (.aload_n 0, 1) := by decide +kernel
theorem dX4_lookersAt_56 : decode cX4_lookersAt 56 = .ok (.getfield 32, 3) := by decide +kernel
theorem dX4_lookersAt_59 : decode cX4_lookersAt 59 = .ok (.aload_n 1, 1) := by decide +kernel
theorem dX4_lookersAt_60 : decode cX4_lookersAt 60 = .ok (.getfield 91, 3) := by decide +kernel
theorem dX4_lookersAt_63 : decode cX4_lookersAt 63 = .ok (.iconst 2, 1) := by decide +kernel
theorem dX4_lookersAt_64 : decode cX4_lookersAt 64 = .ok (.aload_n 0, 1) := by decide +kernel
theorem dX4_lookersAt_65 : decode cX4_lookersAt 65 = .ok (.getfield 12, 3) := by decide +kernel
theorem dX4_lookersAt_68 : decode cX4_lookersAt 68 = .ok (.getfield 96, 3) := by decide +kernel
theorem dX4_lookersAt_71 : decode cX4_lookersAt 71 = .ok (.invokevirtual 133, 3) := by decide +kernel
theorem dX4_lookersAt_74 : decode cX4_lookersAt 74 = .ok (.ifCond .eq 6, 3) := by decide +kernel
theorem dX4_lookersAt_77 : decode cX4_lookersAt 77 = .ok (.iinc 4 1, 3) := by decide +kernel
theorem dX4_lookersAt_80 : decode cX4_lookersAt 80 = .ok (.iinc 5 1, 3) := by decide +kernel
theorem dX4_lookersAt_83 : decode cX4_lookersAt 83 = .ok (.goto (-77), 3) := by decide +kernel
theorem dX4_lookersAt_86 : decode cX4_lookersAt 86 = .ok (.iload 4, 2) := by decide +kernel
theorem dX4_lookersAt_88 : decode cX4_lookersAt 88 = .ok (.ireturn, 1) := by decide +kernel
theorem dX4_isPlace_0 : decode cX4_isPlace 0 = .ok (.iload_n 0, 1) := by decide +kernel
theorem dX4_isPlace_1 : decode cX4_isPlace 1 = .ok (.ifCond .lt 22, 3) := by decide +kernel
theorem dX4_isPlace_4 : decode cX4_isPlace 4 = .ok (.iload_n 0, 1) := by decide +kernel
theorem dX4_isPlace_5 : decode cX4_isPlace 5 = .ok (.bipush 40, 2) := by decide +kernel
theorem dX4_isPlace_7 : decode cX4_isPlace 7 = .ok (.if_icmp .gt 16, 3) := by decide +kernel
theorem dX4_isPlace_10 : decode cX4_isPlace 10 = .ok (.iload_n 1, 1) := by decide +kernel
theorem dX4_isPlace_11 : decode cX4_isPlace 11 = .ok (.ifCond .lt 12, 3) := by decide +kernel
theorem dX4_isPlace_14 : decode cX4_isPlace 14 = .ok (.iload_n 1, 1) := by decide +kernel
theorem dX4_isPlace_15 : decode cX4_isPlace 15 = .ok (.iconst 5, 1) := by decide +kernel
theorem dX4_isPlace_16 : decode cX4_isPlace 16 = .ok (.if_icmp .ge 7, 3) := by decide +kernel
theorem dX4_isPlace_19 : decode cX4_isPlace 19 = .ok (.iconst 1, 1) := by decide +kernel
theorem dX4_isPlace_20 : decode cX4_isPlace 20 = .ok (.goto 4, 3) := by decide +kernel
theorem dX4_isPlace_23 : decode cX4_isPlace 23 = .ok (.iconst 0, 1) := by decide +kernel
theorem dX4_isPlace_24 : decode cX4_isPlace 24 = .ok (.ireturn, 1) := by decide +kernel
theorem dX4_warmthBehind_0 : decode cX4_warmthBehind 0 = .ok (.iload_n 1, 1) := by decide +kernel
theorem dX4_warmthBehind_1 : decode cX4_warmthBehind 1 = .ok (.iload_n 2, 1) := by decide +kernel
theorem dX4_warmthBehind_2 : decode cX4_warmthBehind 2 = .ok (.invokestatic 136, 3) := by decide +kernel
theorem dX4_warmthBehind_5 : decode cX4_warmthBehind 5 = .ok (.ifCond .eq 16, 3) := by decide +kernel
theorem dX4_warmthBehind_8 : decode cX4_warmthBehind 8 = .ok (.aload_n 0, 1) := by decide +kernel
theorem dX4_warmthBehind_9 : decode cX4_warmthBehind 9 = .ok (.getfield 18, 3) := by decide +kernel
theorem dX4_warmthBehind_12 : decode cX4_warmthBehind 12 = .ok (.iload_n 1, 1) := by decide +kernel
theorem dX4_warmthBehind_13 : decode cX4_warmthBehind 13 = .ok (.iconst 5, 1) := by decide +kernel
theorem dX4_warmthBehind_14 : decode cX4_warmthBehind 14 = .ok (.imul, 1) := by decide +kernel
theorem dX4_warmthBehind_15 : decode cX4_warmthBehind 15 = .ok (.iload_n 2, 1) := by decide +kernel
theorem dX4_warmthBehind_16 : decode cX4_warmthBehind 16 = .ok (.iadd, 1) := by decide +kernel
theorem dX4_warmthBehind_17 : decode cX4_warmthBehind 17 = .ok (.iaload, 1) := by decide +kernel
theorem dX4_warmthBehind_18 : decode cX4_warmthBehind 18 = .ok (.goto 4, 3) := by decide +kernel
theorem dX4_warmthBehind_21 : decode cX4_warmthBehind 21 = .ok (.iconst 0, 1) := by decide +kernel
theorem dX4_warmthBehind_22 : decode cX4_warmthBehind 22 = .ok (.ireturn, 1) := by decide +kernel
theorem dX4_lookedBehind_0 : decode cX4_lookedBehind 0 = .ok (.iload_n 1, 1) := by decide +kernel
theorem dX4_lookedBehind_1 : decode cX4_lookedBehind 1 = .ok (.iload_n 2, 1) := by decide +kernel
theorem dX4_lookedBehind_2 : decode cX4_lookedBehind 2 = .ok (.invokestatic 136, 3) := by decide +kernel
theorem dX4_lookedBehind_5 : decode cX4_lookedBehind 5 = .ok (.ifCond .eq 16, 3) := by decide +kernel
theorem dX4_lookedBehind_8 : decode cX4_lookedBehind 8 = .ok (.aload_n 0, 1) := by decide +kernel
theorem dX4_lookedBehind_9 : decode cX4_lookedBehind 9 = .ok (.getfield 22, 3) := by decide +kernel
theorem dX4_lookedBehind_12 : decode cX4_lookedBehind 12 = .ok (.iload_n 1, 1) := by decide +kernel
theorem dX4_lookedBehind_13 : decode cX4_lookedBehind 13 = .ok (.iconst 5, 1) := by decide +kernel
theorem dX4_lookedBehind_14 : decode cX4_lookedBehind 14 = .ok (.imul, 1) := by decide +kernel
theorem dX4_lookedBehind_15 : decode cX4_lookedBehind 15 = .ok (.iload_n 2, 1) := by decide +kernel
theorem dX4_lookedBehind_16 : decode cX4_lookedBehind 16 = .ok (.iadd, 1) := by decide +kernel
theorem dX4_lookedBehind_17 : decode cX4_lookedBehind 17 = .ok (.iaload, 1) := by decide +kernel
theorem dX4_lookedBehind_18 : decode cX4_lookedBehind 18 = .ok (.goto 4, 3) := by decide +kernel
theorem dX4_lookedBehind_21 : decode cX4_lookedBehind 21 = .ok (.iconst 0, 1) := by decide +kernel
theorem dX4_lookedBehind_22 : decode cX4_lookedBehind 22 = .ok (.ireturn, 1) := by decide +kernel
theorem dX4_isRedBehind_0 : decode cX4_isRedBehind 0 = .ok (.iload_n 1, 1) := by decide +kernel
theorem dX4_isRedBehind_1 : decode cX4_isRedBehind 1 = .ok (.iload_n 2, 1) := by decide +kernel
theorem dX4_isRedBehind_2 : decode cX4_isRedBehind 2 = .ok (.invokestatic 136, 3) := by decide +kernel
theorem dX4_isRedBehind_5 : decode cX4_isRedBehind 5 = .ok (.ifCond .eq 26, 3) := by decide +kernel
theorem dX4_isRedBehind_8 : decode cX4_isRedBehind 8 = .ok (.aload_n 0, 1) := by decide +kernel
theorem dX4_isRedBehind_9 : decode cX4_isRedBehind 9 = .ok (.getfield 18, 3) := by decide +kernel
theorem dX4_isRedBehind_12 : decode cX4_isRedBehind 12 = .ok (.iload_n 1, 1) := by decide +kernel
theorem dX4_isRedBehind_13 : decode cX4_isRedBehind 13 = .ok (.iconst 5, 1) := by decide +kernel
theorem dX4_isRedBehind_14 : decode cX4_isRedBehind 14 = .ok (.imul, 1) := by decide +kernel
theorem dX4_isRedBehind_15 : decode cX4_isRedBehind 15 = .ok (.iload_n 2, 1) := by decide +kernel
theorem dX4_isRedBehind_16 : decode cX4_isRedBehind 16 = .ok (.iadd, 1) := by decide +kernel
theorem dX4_isRedBehind_17 : decode cX4_isRedBehind 17 = .ok (.iaload, 1) := by decide +kernel
theorem dX4_isRedBehind_18 : decode cX4_isRedBehind 18 = .ok (.aload_n 0, 1) := by decide +kernel
theorem dX4_isRedBehind_19 : decode cX4_isRedBehind 19 = .ok (.getfield 25, 3) := by decide +kernel
theorem dX4_isRedBehind_22 : decode cX4_isRedBehind 22 = .ok (.iload_n 2, 1) := by decide +kernel
theorem dX4_isRedBehind_23 : decode cX4_isRedBehind 23 = .ok (.iaload, 1) := by decide +kernel
theorem dX4_isRedBehind_24 : decode cX4_isRedBehind 24 = .ok (.if_icmp .lt 7, 3) := by decide +kernel
theorem dX4_isRedBehind_27 : decode cX4_isRedBehind 27 = .ok (.iconst 1, 1) := by decide +kernel
theorem dX4_isRedBehind_28 : decode cX4_isRedBehind 28 = .ok (.goto 4, 3) := by decide +kernel
theorem dX4_isRedBehind_31 : decode cX4_isRedBehind 31 = .ok (.iconst 0, 1) := by decide +kernel
theorem dX4_isRedBehind_32 : decode cX4_isRedBehind 32 = .ok (.ireturn, 1) := by decide +kernel
theorem dX4_mostWarmth_0 : decode cX4_mostWarmth 0 = .ok (.iconst 0, 1) := by decide +kernel
theorem dX4_mostWarmth_1 : decode cX4_mostWarmth 1 = .ok (.istore_n 2, 1) := by decide +kernel
theorem dX4_mostWarmth_2 : decode cX4_mostWarmth 2 = .ok (.iconst 0, 1) := by decide +kernel
theorem dX4_mostWarmth_3 : decode cX4_mostWarmth 3 = .ok (.istore_n 3, 1) := by decide +kernel
theorem dX4_mostWarmth_4 : decode cX4_mostWarmth 4 = .ok (.iload_n 3, 1) := by decide +kernel
theorem dX4_mostWarmth_5 : decode cX4_mostWarmth 5 = .ok (.bipush 40, 2) := by decide +kernel
theorem dX4_mostWarmth_7 : decode cX4_mostWarmth 7 = .ok (.if_icmp .gt 20, 3) := by decide +kernel
theorem dX4_mostWarmth_10 : decode cX4_mostWarmth 10 = .ok (.iload_n 2, 1) := by decide +kernel
theorem dX4_mostWarmth_11 : decode cX4_mostWarmth 11 = .ok (.aload_n 0, 1) := by decide +kernel
theorem dX4_mostWarmth_12 : decode cX4_mostWarmth 12 = .ok (.iload_n 3, 1) := by decide +kernel
theorem dX4_mostWarmth_13 : decode cX4_mostWarmth 13 = .ok (.iload_n 1, 1) := by decide +kernel
theorem dX4_mostWarmth_14 : decode cX4_mostWarmth 14 = .ok (.invokevirtual 139, 3) := by decide +kernel
theorem dX4_mostWarmth_17 : decode cX4_mostWarmth 17 = .ok (.invokestatic 124, 3) := by decide +kernel
theorem dX4_mostWarmth_20 : decode cX4_mostWarmth 20 = .ok (.istore_n 2, 1) := by decide +kernel
theorem dX4_mostWarmth_21 : decode cX4_mostWarmth 21 = .ok (.iinc 3 1, 3) := by decide +kernel
theorem dX4_mostWarmth_24 : decode cX4_mostWarmth 24 = .ok (.goto (-20), 3) := by decide +kernel
theorem dX4_mostWarmth_27 : decode cX4_mostWarmth 27 = .ok (.iload_n 2, 1) := by decide +kernel
theorem dX4_mostWarmth_28 : decode cX4_mostWarmth 28 = .ok (.ireturn, 1) := by decide +kernel
theorem dX4_redSeconds_0 : decode cX4_redSeconds 0 = .ok (.iconst 0, 1) := by decide +kernel
theorem dX4_redSeconds_1 : decode cX4_redSeconds 1 = .ok (.istore_n 2, 1) := by decide +kernel
theorem dX4_redSeconds_2 : decode cX4_redSeconds 2 = .ok (.iconst 1, 1) := by decide +kernel
theorem dX4_redSeconds_3 : decode cX4_redSeconds 3 = .ok (.istore_n 3, 1) := by decide +kernel
theorem dX4_redSeconds_4 : decode cX4_redSeconds 4 = .ok (.iload_n 3, 1) := by decide +kernel
theorem dX4_redSeconds_5 : decode cX4_redSeconds 5 = .ok (.bipush 40, 2) := by decide +kernel
theorem dX4_redSeconds_7 : decode cX4_redSeconds 7 = .ok (.if_icmp .gt 26, 3) := by decide +kernel
theorem dX4_redSeconds_10 : decode cX4_redSeconds 10 = .ok (.iload_n 2, 1) := by decide +kernel
theorem dX4_redSeconds_11 : decode cX4_redSeconds 11 = .ok (.aload_n 0, 1) := by decide +kernel
theorem dX4_redSeconds_12 : decode cX4_redSeconds 12 = .ok (.iload_n 3, 1) := by decide +kernel
theorem dX4_redSeconds_13 : decode cX4_redSeconds 13 = .ok (.iload_n 1, 1) := by decide +kernel
theorem dX4_redSeconds_14 : decode cX4_redSeconds 14 = .ok (.invokevirtual 142, 3) := by decide +kernel
theorem dX4_redSeconds_17 : decode cX4_redSeconds 17 = .ok (.ifCond .eq 7, 3) := by decide +kernel
theorem dX4_redSeconds_20 : decode cX4_redSeconds 20 = .ok (.iconst 1, 1) := by decide +kernel
theorem dX4_redSeconds_21 : decode cX4_redSeconds 21 = .ok (.goto 4, 3) := by decide +kernel
theorem dX4_redSeconds_24 : decode cX4_redSeconds 24 = .ok (.iconst 0, 1) := by decide +kernel
theorem dX4_redSeconds_25 : decode cX4_redSeconds 25 = .ok (.iadd, 1) := by decide +kernel
theorem dX4_redSeconds_26 : decode cX4_redSeconds 26 = .ok (.istore_n 2, 1) := by decide +kernel
theorem dX4_redSeconds_27 : decode cX4_redSeconds 27 = .ok (.iinc 3 1, 3) := by decide +kernel
theorem dX4_redSeconds_30 : decode cX4_redSeconds 30 = .ok (.goto (-26), 3) := by decide +kernel
theorem dX4_redSeconds_33 : decode cX4_redSeconds 33 = .ok (.iload_n 2, 1) := by decide +kernel
theorem dX4_redSeconds_34 : decode cX4_redSeconds 34 = .ok (.ireturn, 1) := by decide +kernel
theorem dX4_redSecondsOfAll_0 : decode cX4_redSecondsOfAll 0 = .ok (.iconst 0, 1) := by decide +kernel
theorem dX4_redSecondsOfAll_1 : decode cX4_redSecondsOfAll 1 = .ok (.istore_n 1, 1) := by decide +kernel
theorem dX4_redSecondsOfAll_2 : decode cX4_redSecondsOfAll 2 = .ok (.iconst 0, 1) := by decide +kernel
theorem dX4_redSecondsOfAll_3 : decode cX4_redSecondsOfAll 3 = .ok (.istore_n 2, 1) := by decide +kernel
theorem dX4_redSecondsOfAll_4 : decode cX4_redSecondsOfAll 4 = .ok (.iload_n 2, 1) := by decide +kernel
theorem dX4_redSecondsOfAll_5 : decode cX4_redSecondsOfAll 5 = .ok (.aload_n 0, 1) := by decide +kernel
theorem dX4_redSecondsOfAll_6 : decode cX4_redSecondsOfAll 6 = .ok (.getfield 28, 3) := by decide +kernel
theorem dX4_redSecondsOfAll_9 : decode cX4_redSecondsOfAll 9 = .ok (.if_icmp .ge 17, 3) := by decide +kernel
theorem dX4_redSecondsOfAll_12 : decode cX4_redSecondsOfAll 12 = .ok (.iload_n 1, 1) := by decide +kernel
theorem dX4_redSecondsOfAll_13 : decode cX4_redSecondsOfAll 13 = .ok (.aload_n 0, 1) := by decide +kernel
theorem dX4_redSecondsOfAll_14 : decode cX4_redSecondsOfAll 14 = .ok (.iload_n 2, 1) := by decide +kernel
theorem dX4_redSecondsOfAll_15 : decode cX4_redSecondsOfAll 15 = .ok (.invokevirtual 145, 3) := by decide +kernel
theorem dX4_redSecondsOfAll_18 : decode cX4_redSecondsOfAll 18 = .ok (.iadd, 1) := by decide +kernel
theorem dX4_redSecondsOfAll_19 : decode cX4_redSecondsOfAll 19 = .ok (.istore_n 1, 1) := by decide +kernel
theorem dX4_redSecondsOfAll_20 : decode cX4_redSecondsOfAll 20 = .ok (.iinc 2 1, 3) := by decide +kernel
theorem dX4_redSecondsOfAll_23 : decode cX4_redSecondsOfAll 23 = .ok (.goto (-19), 3) := by decide +kernel
theorem dX4_redSecondsOfAll_26 : decode cX4_redSecondsOfAll 26 = .ok (.iload_n 1, 1) := by decide +kernel
theorem dX4_redSecondsOfAll_27 : decode cX4_redSecondsOfAll 27 = .ok (.ireturn, 1) := by decide +kernel
theorem dX4_firstRed_0 : decode cX4_firstRed 0 = .ok (.iconst 1, 1) := by decide +kernel
theorem dX4_firstRed_1 : decode cX4_firstRed 1 = .ok (.istore_n 2, 1) := by decide +kernel
theorem dX4_firstRed_2 : decode cX4_firstRed 2 = .ok (.iload_n 2, 1) := by decide +kernel
theorem dX4_firstRed_3 : decode cX4_firstRed 3 = .ok (.bipush 40, 2) := by decide +kernel
theorem dX4_firstRed_5 : decode cX4_firstRed 5 = .ok (.if_icmp .gt 22, 3) := by decide +kernel
theorem dX4_firstRed_8 : decode cX4_firstRed 8 = .ok (.aload_n 0, 1) := by decide +kernel
theorem dX4_firstRed_9 : decode cX4_firstRed 9 = .ok (.iload_n 2, 1) := by decide +kernel
theorem dX4_firstRed_10 : decode cX4_firstRed 10 = .ok (.iload_n 1, 1) := by decide +kernel
theorem dX4_firstRed_11 : decode cX4_firstRed 11 = .ok (.invokevirtual 142, 3) := by decide +kernel
theorem dX4_firstRed_14 : decode cX4_firstRed 14 = .ok (.ifCond .eq 7, 3) := by decide +kernel
theorem dX4_firstRed_17 : decode cX4_firstRed 17 = .ok (.iload_n 2, 1) := by decide +kernel
theorem dX4_firstRed_18 : decode cX4_firstRed 18 = .ok (.iconst 1, 1) := by decide +kernel
theorem dX4_firstRed_19 : decode cX4_firstRed 19 = .ok (.isub, 1) := by decide +kernel
theorem dX4_firstRed_20 : decode cX4_firstRed 20 = .ok (.ireturn, 1) := by decide +kernel
theorem dX4_firstRed_21 : decode cX4_firstRed 21 = .ok (.iinc 2 1, 3) := by decide +kernel
theorem dX4_firstRed_24 : decode cX4_firstRed 24 = .ok (.goto (-22), 3) := by decide +kernel
theorem dX4_firstRed_27 : decode cX4_firstRed 27 = .ok (.iconst (-1), 1) := by decide +kernel
theorem dX4_firstRed_28 : decode cX4_firstRed 28 = .ok (.ireturn, 1) := by decide +kernel
theorem dX4_lastRed_0 : decode cX4_lastRed 0 = .ok (.bipush 40, 2) := by decide +kernel
theorem dX4_lastRed_2 : decode cX4_lastRed 2 = .ok (.istore_n 2, 1) := by decide +kernel
theorem dX4_lastRed_3 : decode cX4_lastRed 3 = .ok (.iload_n 2, 1) := by decide +kernel
theorem dX4_lastRed_4 : decode cX4_lastRed 4 = .ok (.iconst 1, 1) := by decide +kernel
theorem dX4_lastRed_5 : decode cX4_lastRed 5 = .ok (.if_icmp .lt 22, 3) := by decide +kernel
theorem dX4_lastRed_8 : decode cX4_lastRed 8 = .ok (.aload_n 0, 1) := by decide +kernel
theorem dX4_lastRed_9 : decode cX4_lastRed 9 = .ok (.iload_n 2, 1) := by decide +kernel
theorem dX4_lastRed_10 : decode cX4_lastRed 10 = .ok (.iload_n 1, 1) := by decide +kernel
theorem dX4_lastRed_11 : decode cX4_lastRed 11 = .ok (.invokevirtual 142, 3) := by decide +kernel
theorem dX4_lastRed_14 : decode cX4_lastRed 14 = .ok (.ifCond .eq 7, 3) := by decide +kernel
theorem dX4_lastRed_17 : decode cX4_lastRed 17 = .ok (.iload_n 2, 1) := by decide +kernel
theorem dX4_lastRed_18 : decode cX4_lastRed 18 = .ok (.iconst 1, 1) := by decide +kernel
theorem dX4_lastRed_19 : decode cX4_lastRed 19 = .ok (.isub, 1) := by decide +kernel
theorem dX4_lastRed_20 : decode cX4_lastRed 20 = .ok (.ireturn, 1) := by decide +kernel
theorem dX4_lastRed_21 : decode cX4_lastRed 21 = .ok (.iinc 2 (-1), 3) := by decide +kernel
theorem dX4_lastRed_24 : decode cX4_lastRed 24 = .ok (.goto (-21), 3) := by decide +kernel
theorem dX4_lastRed_27 : decode cX4_lastRed 27 = .ok (.iconst (-1), 1) := by decide +kernel
theorem dX4_lastRed_28 : decode cX4_lastRed 28 = .ok (.ireturn, 1) := by decide +kernel
theorem dX4_felt_0 : decode cX4_felt 0 = .ok (.iconst 0, 1) := by decide +kernel
theorem dX4_felt_1 : decode cX4_felt 1 = .ok (.istore_n 2, 1) := by decide +kernel
theorem dX4_felt_2 : decode cX4_felt 2 = .ok (.iconst 1, 1) := by decide +kernel
theorem dX4_felt_3 : decode cX4_felt 3 = .ok (.istore_n 3, 1) := by decide +kernel
theorem dX4_felt_4 : decode cX4_felt 4 = .ok (.iload_n 3, 1) := by decide +kernel
theorem dX4_felt_5 : decode cX4_felt 5 = .ok (.bipush 40, 2) := by decide +kernel
theorem dX4_felt_7 : decode cX4_felt 7 = .ok (.if_icmp .gt 18, 3) := by decide +kernel
theorem dX4_felt_10 : decode cX4_felt 10 = .ok (.iload_n 2, 1) := by decide +kernel
theorem dX4_felt_11 : decode cX4_felt 11 = .ok (.aload_n 0, 1) := by decide +kernel
theorem dX4_felt_12 : decode cX4_felt 12 = .ok (.iload_n 3, 1) := by decide +kernel
theorem dX4_felt_13 : decode cX4_felt 13 = .ok (.iload_n 1, 1) := by decide +kernel
theorem dX4_felt_14 : decode cX4_felt 14 = .ok (.invokevirtual 139, 3) := by decide +kernel
theorem dX4_felt_17 : decode cX4_felt 17 = .ok (.iadd, 1) := by decide +kernel
theorem dX4_felt_18 : decode cX4_felt 18 = .ok (.istore_n 2, 1) := by decide +kernel
theorem dX4_felt_19 : decode cX4_felt 19 = .ok (.iinc 3 1, 3) := by decide +kernel
theorem dX4_felt_22 : decode cX4_felt 22 = .ok (.goto (-18), 3) := by decide +kernel
theorem dX4_felt_25 : decode cX4_felt 25 = .ok (.iload_n 2, 1) := by decide +kernel
theorem dX4_felt_26 : decode cX4_felt 26 = .ok (.ireturn, 1) := by decide +kernel
theorem dX4_feltByOthers_0 : decode cX4_feltByOthers 0 = .ok (.iconst 0, 1) := by decide +kernel
theorem dX4_feltByOthers_1 : decode cX4_feltByOthers 1 = .ok (.istore_n 2, 1) := by decide +kernel
theorem dX4_feltByOthers_2 : decode cX4_feltByOthers 2 = .ok (.iconst 0, 1) := by decide +kernel
theorem dX4_feltByOthers_3 : decode cX4_feltByOthers 3 = .ok (.istore_n 3, 1) := by decide +kernel
theorem dX4_feltByOthers_4 : decode cX4_feltByOthers 4 = .ok (.iload_n 3, 1) := by decide +kernel
theorem dX4_feltByOthers_5 : decode cX4_feltByOthers 5 = .ok (.aload_n 0, 1) := by decide +kernel
theorem dX4_feltByOthers_6 : decode cX4_feltByOthers 6 = .ok (.getfield 28, 3) := by decide +kernel
theorem dX4_feltByOthers_9 : decode cX4_feltByOthers 9 = .ok (.if_icmp .ge 26, 3) := by decide +kernel
theorem dX4_feltByOthers_12 : decode cX4_feltByOthers 12 = .ok (.iload_n 2, 1) := by decide +kernel
theorem dX4_feltByOthers_13 : decode cX4_feltByOthers 13 = .ok (.iload_n 3, 1) := by decide +kernel
theorem dX4_feltByOthers_14 : decode cX4_feltByOthers 14 = .ok (.iload_n 1, 1) := by decide +kernel
theorem dX4_feltByOthers_15 : decode cX4_feltByOthers 15 = .ok (.if_icmp .ne 7, 3) := by decide +kernel
theorem dX4_feltByOthers_18 : decode cX4_feltByOthers 18 = .ok (.iconst 0, 1) := by decide +kernel
theorem dX4_feltByOthers_19 : decode cX4_feltByOthers 19 = .ok (.goto 8, 3) := by decide +kernel
theorem dX4_feltByOthers_22 : decode cX4_feltByOthers 22 = .ok (.aload_n 0, 1) := by decide +kernel
theorem dX4_feltByOthers_23 : decode cX4_feltByOthers 23 = .ok (.iload_n 3, 1) := by decide +kernel
theorem dX4_feltByOthers_24 : decode cX4_feltByOthers 24 = .ok (.invokevirtual 148, 3) := by decide +kernel
theorem dX4_feltByOthers_27 : decode cX4_feltByOthers 27 = .ok (.iadd, 1) := by decide +kernel
theorem dX4_feltByOthers_28 : decode cX4_feltByOthers 28 = .ok (.istore_n 2, 1) := by decide +kernel
theorem dX4_feltByOthers_29 : decode cX4_feltByOthers 29 = .ok (.iinc 3 1, 3) := by decide +kernel
theorem dX4_feltByOthers_32 : decode cX4_feltByOthers 32 = .ok (.goto (-28), 3) := by decide +kernel
theorem dX4_feltByOthers_35 : decode cX4_feltByOthers 35 = .ok (.iload_n 2, 1) := by decide +kernel
theorem dX4_feltByOthers_36 : decode cX4_feltByOthers 36 = .ok (.ireturn, 1) := by decide +kernel
theorem dX4_redBits_0 : decode cX4_redBits 0 = .ok (.iconst 0, 1) := by decide +kernel
theorem dX4_redBits_1 : decode cX4_redBits 1 = .ok (.istore_n 2, 1) := by decide +kernel
theorem dX4_redBits_2 : decode cX4_redBits 2 = .ok (.iconst 0, 1) := by decide +kernel
theorem dX4_redBits_3 : decode cX4_redBits 3 = .ok (.istore_n 3, 1) := by decide +kernel
theorem dX4_redBits_4 : decode cX4_redBits 4 = .ok (.iload_n 3, 1) := by decide +kernel
theorem dX4_redBits_5 : decode cX4_redBits 5 = .ok (.aload_n 0, 1) := by decide +kernel
theorem dX4_redBits_6 : decode cX4_redBits 6 = .ok (.getfield 28, 3) := by decide +kernel
theorem dX4_redBits_9 : decode cX4_redBits 9 = .ok (.if_icmp .ge 28, 3) := by decide +kernel
theorem dX4_redBits_12 : decode cX4_redBits 12 = .ok (.iload_n 2, 1) := by decide +kernel
theorem dX4_redBits_13 : decode cX4_redBits 13 = .ok (.aload_n 0, 1) := by decide +kernel
theorem dX4_redBits_14 : decode cX4_redBits 14 = .ok (.iload_n 1, 1) := by decide +kernel
theorem dX4_redBits_15 : decode cX4_redBits 15 = .ok (.iload_n 3, 1) := by decide +kernel
theorem dX4_redBits_16 : decode cX4_redBits 16 = .ok (.invokevirtual 142, 3) := by decide +kernel
theorem dX4_redBits_19 : decode cX4_redBits 19 = .ok (.ifCond .eq 9, 3) := by decide +kernel
theorem dX4_redBits_22 : decode cX4_redBits 22 = .ok (.iconst 1, 1) := by decide +kernel
theorem dX4_redBits_23 : decode cX4_redBits 23 = .ok (.iload_n 3, 1) := by decide +kernel
theorem dX4_redBits_24 : decode cX4_redBits 24 = .ok (.ishl, 1) := by decide +kernel
theorem dX4_redBits_25 : decode cX4_redBits 25 = .ok (.goto 4, 3) := by decide +kernel
theorem dX4_redBits_28 : decode cX4_redBits 28 = .ok (.iconst 0, 1) := by decide +kernel
theorem dX4_redBits_29 : decode cX4_redBits 29 = .ok (.ior, 1) := by decide +kernel
theorem dX4_redBits_30 : decode cX4_redBits 30 = .ok (.istore_n 2, 1) := by decide +kernel
theorem dX4_redBits_31 : decode cX4_redBits 31 = .ok (.iinc 3 1, 3) := by decide +kernel
theorem dX4_redBits_34 : decode cX4_redBits 34 = .ok (.goto (-30), 3) := by decide +kernel
theorem dX4_redBits_37 : decode cX4_redBits 37 = .ok (.iload_n 2, 1) := by decide +kernel
theorem dX4_redBits_38 : decode cX4_redBits 38 = .ok (.ireturn, 1) := by decide +kernel
theorem dX4_everRedBits_0 : decode cX4_everRedBits 0 = .ok (.iconst 0, 1) := by decide +kernel
theorem dX4_everRedBits_1 : decode cX4_everRedBits 1 = .ok (.istore_n 1, 1) := by decide +kernel
theorem dX4_everRedBits_2 : decode cX4_everRedBits 2 = .ok (.iconst 1, 1) := by decide +kernel
theorem dX4_everRedBits_3 : decode cX4_everRedBits 3 = .ok (.istore_n 2, 1) := by decide +kernel
theorem dX4_everRedBits_4 : decode cX4_everRedBits 4 = .ok (.iload_n 2, 1) := by decide +kernel
theorem dX4_everRedBits_5 : decode cX4_everRedBits 5 = .ok (.bipush 40, 2) := by decide +kernel
theorem dX4_everRedBits_7 : decode cX4_everRedBits 7 = .ok (.if_icmp .gt 17, 3) := by decide +kernel
theorem dX4_everRedBits_10 : decode cX4_everRedBits 10 = .ok (.iload_n 1, 1) := by decide +kernel
theorem dX4_everRedBits_11 : decode cX4_everRedBits 11 = .ok (.aload_n 0, 1) := by decide +kernel
theorem dX4_everRedBits_12 : decode cX4_everRedBits 12 = .ok (.iload_n 2, 1) := by decide +kernel
theorem dX4_everRedBits_13 : decode cX4_everRedBits 13 = .ok (.invokevirtual 151, 3) := by decide +kernel
theorem dX4_everRedBits_16 : decode cX4_everRedBits 16 = .ok (.ior, 1) := by decide +kernel
theorem dX4_everRedBits_17 : decode cX4_everRedBits 17 = .ok (.istore_n 1, 1) := by decide +kernel
theorem dX4_everRedBits_18 : decode cX4_everRedBits 18 = .ok (.iinc 2 1, 3) := by decide +kernel
theorem dX4_everRedBits_21 : decode cX4_everRedBits 21 = .ok (.goto (-17), 3) := by decide +kernel
theorem dX4_everRedBits_24 : decode cX4_everRedBits 24 = .ok (.iload_n 1, 1) := by decide +kernel
theorem dX4_everRedBits_25 : decode cX4_everRedBits 25 = .ok (.ireturn, 1) := by decide +kernel
theorem dX4_warmthOfAll_0 : decode cX4_warmthOfAll 0 = .ok (.iconst 0, 1) := by decide +kernel
theorem dX4_warmthOfAll_1 : decode cX4_warmthOfAll 1 = .ok (.istore_n 2, 1) := by decide +kernel
theorem dX4_warmthOfAll_2 : decode cX4_warmthOfAll 2 = .ok (.iconst 0, 1) := by decide +kernel
theorem dX4_warmthOfAll_3 : decode cX4_warmthOfAll 3 = .ok (.istore_n 3, 1) := by decide +kernel
theorem dX4_warmthOfAll_4 : decode cX4_warmthOfAll 4 = .ok (.iload_n 3, 1) := by decide +kernel
theorem dX4_warmthOfAll_5 : decode cX4_warmthOfAll 5 = .ok (.aload_n 0, 1) := by decide +kernel
theorem dX4_warmthOfAll_6 : decode cX4_warmthOfAll 6 = .ok (.getfield 28, 3) := by decide +kernel
theorem dX4_warmthOfAll_9 : decode cX4_warmthOfAll 9 = .ok (.if_icmp .ge 18, 3) := by decide +kernel
theorem dX4_warmthOfAll_12 : decode cX4_warmthOfAll 12 = .ok (.iload_n 2, 1) := by decide +kernel
theorem dX4_warmthOfAll_13 : decode cX4_warmthOfAll 13 = .ok (.aload_n 0, 1) := by decide +kernel
theorem dX4_warmthOfAll_14 : decode cX4_warmthOfAll 14 = .ok (.iload_n 1, 1) := by decide +kernel
theorem dX4_warmthOfAll_15 : decode cX4_warmthOfAll 15 = .ok (.iload_n 3, 1) := by decide +kernel
theorem dX4_warmthOfAll_16 : decode cX4_warmthOfAll 16 = .ok (.invokevirtual 139, 3) := by decide +kernel
theorem dX4_warmthOfAll_19 : decode cX4_warmthOfAll 19 = .ok (.iadd, 1) := by decide +kernel
theorem dX4_warmthOfAll_20 : decode cX4_warmthOfAll 20 = .ok (.istore_n 2, 1) := by decide +kernel
theorem dX4_warmthOfAll_21 : decode cX4_warmthOfAll 21 = .ok (.iinc 3 1, 3) := by decide +kernel
theorem dX4_warmthOfAll_24 : decode cX4_warmthOfAll 24 = .ok (.goto (-20), 3) := by decide +kernel
theorem dX4_warmthOfAll_27 : decode cX4_warmthOfAll 27 = .ok (.iload_n 2, 1) := by decide +kernel
theorem dX4_warmthOfAll_28 : decode cX4_warmthOfAll 28 = .ok (.ireturn, 1) := by decide +kernel
theorem dX4_hottestBits_0 : decode cX4_hottestBits 0 = .ok (.iconst 0, 1) := by decide +kernel
theorem dX4_hottestBits_1 : decode cX4_hottestBits 1 = .ok (.istore_n 2, 1) := by decide +kernel
theorem dX4_hottestBits_2 : decode cX4_hottestBits 2 = .ok (.iconst 0, 1) := by decide +kernel
theorem dX4_hottestBits_3 : decode cX4_hottestBits 3 = .ok (.istore_n 3, 1) := by decide +kernel
theorem dX4_hottestBits_4 : decode cX4_hottestBits 4 = .ok (.iload_n 3, 1) := by decide +kernel
theorem dX4_hottestBits_5 : decode cX4_hottestBits 5 = .ok (.aload_n 0, 1) := by decide +kernel
theorem dX4_hottestBits_6 : decode cX4_hottestBits 6 = .ok (.getfield 28, 3) := by decide +kernel
theorem dX4_hottestBits_9 : decode cX4_hottestBits 9 = .ok (.if_icmp .ge 31, 3) := by decide +kernel
theorem dX4_hottestBits_12 : decode cX4_hottestBits 12 = .ok (.iload_n 2, 1) := by decide +kernel
theorem dX4_hottestBits_13 : decode cX4_hottestBits 13 = .ok (.aload_n 0, 1) := by decide +kernel
theorem dX4_hottestBits_14 : decode cX4_hottestBits 14 = .ok (.iload_n 1, 1) := by decide +kernel
theorem dX4_hottestBits_15 : decode cX4_hottestBits 15 = .ok (.iload_n 3, 1) := by decide +kernel
theorem dX4_hottestBits_16 : decode cX4_hottestBits 16 = .ok (.invokevirtual 139, 3) := by decide +kernel
theorem dX4_hottestBits_19 : decode cX4_hottestBits 19 = .ok (.sipush 400, 3) := by decide +kernel
theorem dX4_hottestBits_22 : decode cX4_hottestBits 22 = .ok (.if_icmp .lt 9, 3) := by decide +kernel
theorem dX4_hottestBits_25 : decode cX4_hottestBits 25 = .ok (.iconst 1, 1) := by decide +kernel
theorem dX4_hottestBits_26 : decode cX4_hottestBits 26 = .ok (.iload_n 3, 1) := by decide +kernel
theorem dX4_hottestBits_27 : decode cX4_hottestBits 27 = .ok (.ishl, 1) := by decide +kernel
theorem dX4_hottestBits_28 : decode cX4_hottestBits 28 = .ok (.goto 4, 3) := by decide +kernel
theorem dX4_hottestBits_31 : decode cX4_hottestBits 31 = .ok (.iconst 0, 1) := by decide +kernel
theorem dX4_hottestBits_32 : decode cX4_hottestBits 32 = .ok (.ior, 1) := by decide +kernel
theorem dX4_hottestBits_33 : decode cX4_hottestBits 33 = .ok (.istore_n 2, 1) := by decide +kernel
theorem dX4_hottestBits_34 : decode cX4_hottestBits 34 = .ok (.iinc 3 1, 3) := by decide +kernel
theorem dX4_hottestBits_37 : decode cX4_hottestBits 37 = .ok (.goto (-33), 3) := by decide +kernel
theorem dX4_hottestBits_40 : decode cX4_hottestBits 40 = .ok (.iload_n 2, 1) := by decide +kernel
theorem dX4_hottestBits_41 : decode cX4_hottestBits 41 = .ok (.ireturn, 1) := by decide +kernel
theorem dX5_init_0 : decode cX5_init 0 = .ok (.aload_n 0, 1) := by decide +kernel
theorem dX5_init_1 : decode cX5_init 1 = .ok (.invokespecial 3, 3) := by decide +kernel
theorem dX5_init_4 : decode cX5_init 4 = .ok (.aload_n 0, 1) := by decide +kernel
theorem dX5_init_5 : decode cX5_init 5 = .ok (.iconst 4, 1) := by decide +kernel
theorem dX5_init_6 : decode cX5_init 6 = .ok (.newarray .int, 2) := by decide +kernel
theorem dX5_init_8 : decode cX5_init 8 = .ok (.dup, 1) := by decide +kernel
theorem dX5_init_9 : decode cX5_init 9 = .ok (.iconst 0, 1) := by decide +kernel
theorem dX5_init_10 : decode cX5_init 10 = .ok (.iconst (-1), 1) := by decide +kernel
theorem dX5_init_11 : decode cX5_init 11 = .ok (.iastore, 1) := by decide +kernel
theorem dX5_init_12 : decode cX5_init 12 = .ok (.dup, 1) := by decide +kernel
theorem dX5_init_13 : decode cX5_init 13 = .ok (.iconst 1, 1) := by decide +kernel
theorem dX5_init_14 : decode cX5_init 14 = .ok (.iconst (-1), 1) := by decide +kernel
theorem dX5_init_15 : decode cX5_init 15 = .ok (.iastore, 1) := by decide +kernel
theorem dX5_init_16 : decode cX5_init 16 = .ok (.dup, 1) := by decide +kernel
theorem dX5_init_17 : decode cX5_init 17 = .ok (.iconst 2, 1) := by decide +kernel
theorem dX5_init_18 : decode cX5_init 18 = .ok (.iconst (-1), 1) := by decide +kernel
theorem dX5_init_19 : decode cX5_init 19 = .ok (.iastore, 1) := by decide +kernel
theorem dX5_init_20 : decode cX5_init 20 = .ok (.dup, 1) := by decide +kernel
theorem dX5_init_21 : decode cX5_init 21 = .ok (.iconst 3, 1) := by decide +kernel
theorem dX5_init_22 : decode cX5_init 22 = .ok (.iconst (-1), 1) := by decide +kernel
theorem dX5_init_23 : decode cX5_init 23 = .ok (.iastore, 1) := by decide +kernel
theorem dX5_init_24 : decode cX5_init 24 = .ok (.putfield 11, 3) := by decide +kernel
theorem dX5_init_27 : decode cX5_init 27 = .ok (.aload_n 0, 1) := by decide +kernel
theorem dX5_init_28 : decode cX5_init 28 = .ok (.iconst 4, 1) := by decide +kernel
theorem dX5_init_29 : decode cX5_init 29 = .ok (.newarray .int, 2) := by decide +kernel
theorem dX5_init_31 : decode cX5_init 31 = .ok (.putfield 15, 3) := by decide +kernel
theorem dX5_init_34 : decode cX5_init 34 = .ok (.aload_n 0, 1) := by decide +kernel
theorem dX5_init_35 : decode cX5_init 35 = .ok (.sipush 160, 3) := by decide +kernel
theorem dX5_init_38 : decode cX5_init 38 = .ok (.newarray .int, 2) := by decide +kernel
theorem dX5_init_40 : decode cX5_init 40 = .ok (.putfield 18, 3) := by decide +kernel
theorem dX5_init_43 : decode cX5_init 43 = .ok (.return_, 1) := by decide +kernel
theorem dX5_has_0 : decode cX5_has 0 = .ok (.iload_n 1, 1) := by decide +kernel
theorem dX5_has_1 : decode cX5_has 1 = .ok (.ifCond .lt 12, 3) := by decide +kernel
theorem dX5_has_4 : decode cX5_has 4 = .ok (.iload_n 1, 1) := by decide +kernel
theorem dX5_has_5 : decode cX5_has 5 = .ok (.iconst 4, 1) := by decide +kernel
theorem dX5_has_6 : decode cX5_has 6 = .ok (.if_icmp .ge 7, 3) := by decide +kernel
theorem dX5_has_9 : decode cX5_has 9 = .ok (.iconst 1, 1) := by decide +kernel
theorem dX5_has_10 : decode cX5_has 10 = .ok (.goto 4, 3) := by decide +kernel
theorem dX5_has_13 : decode cX5_has 13 = .ok (.iconst 0, 1) := by decide +kernel
theorem dX5_has_14 : decode cX5_has 14 = .ok (.ireturn, 1) := by decide +kernel
theorem dX5_isMissing_0 : decode cX5_isMissing 0 = .ok (.aload_n 0, 1) := by decide +kernel
theorem dX5_isMissing_1 : decode cX5_isMissing 1 = .ok (.iload_n 1, 1) := by decide +kernel
theorem dX5_isMissing_2 : decode cX5_isMissing 2 = .ok (.invokevirtual 21, 3) := by decide +kernel
theorem dX5_isMissing_5 : decode cX5_isMissing 5 = .ok (.ifCond .eq 13, 3) := by decide +kernel
theorem dX5_isMissing_8 : decode cX5_isMissing 8 = .ok (.aload_n 0, 1) := by decide +kernel
theorem dX5_isMissing_9 : decode cX5_isMissing 9 = .ok (.getfield 11, 3) := by decide +kernel
theorem dX5_isMissing_12 : decode cX5_isMissing 12 = .ok (.iload_n 1, 1) := by decide +kernel
theorem dX5_isMissing_13 : decode cX5_isMissing 13 = .ok (.iaload, 1) := by decide +kernel
theorem dX5_isMissing_14 : decode cX5_isMissing 14 = .ok (.iconst (-1), 1) := by decide +kernel
theorem dX5_isMissing_15 : decode cX5_isMissing 15 = .ok (.if_icmp .ne 7, 3) := by decide +kernel
theorem dX5_isMissing_18 : decode cX5_isMissing 18 = .ok (.iconst 1, 1) := by decide +kernel
theorem dX5_isMissing_19 : decode cX5_isMissing 19 = .ok (.goto 4, 3) := by decide +kernel
theorem dX5_isMissing_22 : decode cX5_isMissing 22 = .ok (.iconst 0, 1) := by decide +kernel
theorem dX5_isMissing_23 : decode cX5_isMissing 23 = .ok (.ireturn, 1) := by decide +kernel
theorem dX5_holds_0 : decode cX5_holds 0 = .ok (.aload_n 0, 1) := by decide +kernel
theorem dX5_holds_1 : decode cX5_holds 1 = .ok (.iload_n 1, 1) := by decide +kernel
theorem dX5_holds_2 : decode cX5_holds 2 = .ok (.invokevirtual 21, 3) := by decide +kernel
theorem dX5_holds_5 : decode cX5_holds 5 = .ok (.ifCond .eq 31, 3) := by decide +kernel
theorem dX5_holds_8 : decode cX5_holds 8 = .ok (.iload_n 2, 1) := by decide +kernel
theorem dX5_holds_9 : decode cX5_holds 9 = .ok (.ifCond .lt 27, 3) := by decide +kernel
theorem dX5_holds_12 : decode cX5_holds 12 = .ok (.iload_n 3, 1) := by decide +kernel
theorem dX5_holds_13 : decode cX5_holds 13 = .ok (.ifCond .lt 23, 3) := by decide +kernel
theorem dX5_holds_16 : decode cX5_holds 16 = .ok (.iload_n 2, 1) := by decide +kernel
theorem dX5_holds_17 : decode cX5_holds 17 = .ok (.i2l, 1) := by decide +kernel
theorem dX5_holds_18 : decode cX5_holds 18 = .ok (.iload_n 3, 1) := by decide +kernel
theorem dX5_holds_19 : decode cX5_holds 19 = .ok (.i2l, 1) := by decide +kernel
theorem dX5_holds_20 : decode cX5_holds 20 = .ok (.ladd, 1) := by decide +kernel
theorem dX5_holds_21 : decode cX5_holds 21 = .ok (.aload_n 0, 1) := by decide +kernel
theorem dX5_holds_22 : decode cX5_holds 22 = .ok (.getfield 15, 3) := by decide +kernel
theorem dX5_holds_25 : decode cX5_holds 25 = .ok (.iload_n 1, 1) := by decide +kernel
theorem dX5_holds_26 : decode cX5_holds 26 = .ok (.iaload, 1) := by decide +kernel
theorem dX5_holds_27 : decode cX5_holds 27 = .ok (.i2l, 1) := by decide +kernel
theorem dX5_holds_28 : decode cX5_holds 28 = .ok (.lcmp, 1) := by decide +kernel
theorem dX5_holds_29 : decode cX5_holds 29 = .ok (.ifCond .gt 7, 3) := by decide +kernel
theorem dX5_holds_32 : decode cX5_holds 32 = .ok (.iconst 1, 1) := by decide +kernel
theorem dX5_holds_33 : decode cX5_holds 33 = .ok (.goto 4, 3) := by decide +kernel
theorem dX5_holds_36 : decode cX5_holds 36 = .ok (.iconst 0, 1) := by decide +kernel
theorem dX5_holds_37 : decode cX5_holds 37 = .ok (.ireturn, 1) := by decide +kernel
theorem dX5_become_0 : decode cX5_become 0 = .ok (.aload_n 0, 1) := by decide +kernel
theorem dX5_become_1 : decode cX5_become 1 = .ok (.iload_n 1, 1) := by decide +kernel
theorem dX5_become_2 : decode cX5_become 2 = .ok (.invokevirtual 21, 3) := by decide +kernel
theorem dX5_become_5 : decode cX5_become 5 = .ok (.ifCond .eq 13, 3) := by decide +kernel
theorem dX5_become_8 : decode cX5_become 8 = .ok (.iload_n 3, 1) := by decide +kernel
theorem dX5_become_9 : decode cX5_become 9 = .ok (.ifCond .lt 9, 3) := by decide +kernel
theorem dX5_become_12 : decode cX5_become 12 = .ok (.iload_n 3, 1) := by decide +kernel
theorem dX5_become_13 : decode cX5_become 13 = .ok (.bipush 40, 2) := by decide +kernel
theorem dX5_become_15 : decode cX5_become 15 = .ok (.if_icmp .le 4, 3) := by decide +kernel
theorem dX5_become_18 : decode cX5_become 18 = .ok (.return_, 1) := by decide +kernel
theorem dX5_become_19 : decode cX5_become 19 = .ok (.aload_n 0, 1) := by decide +kernel
theorem dX5_become_20 : decode cX5_become 20 = .ok (.getfield 11, 3) := by decide +kernel
theorem dX5_become_23 : decode cX5_become 23 = .ok (.iload_n 1, 1) := by decide +kernel
theorem dX5_become_24 : decode cX5_become 24 = .ok (.iload_n 2, 1) := by decide +kernel
theorem dX5_become_25 : decode cX5_become 25 = .ok (.iastore, 1) := by decide +kernel
theorem dX5_become_26 : decode cX5_become 26 = .ok (.aload_n 0, 1) := by decide +kernel
theorem dX5_become_27 : decode cX5_become 27 = .ok (.getfield 15, 3) := by decide +kernel
theorem dX5_become_30 : decode cX5_become 30 = .ok (.iload_n 1, 1) := by decide +kernel
theorem dX5_become_31 : decode cX5_become 31 = .ok (.iload_n 3, 1) := by decide +kernel
theorem dX5_become_32 : decode cX5_become 32 = .ok (.iastore, 1) := by decide +kernel
theorem dX5_become_33 : decode cX5_become 33 = .ok (.iconst 0, 1) := by decide +kernel
theorem dX5_become_34 : decode cX5_become 34 = .ok (.istore 4, 2) := by decide +kernel
theorem dX5_become_36 : decode cX5_become 36 = .ok (.iload 4, 2) := by decide +kernel
theorem dX5_become_38 : decode cX5_become 38 = .ok (.iload_n 3, 1) := by decide +kernel
theorem dX5_become_39 : decode cX5_become 39 = .ok (.if_icmp .ge 22, 3) := by decide +kernel
theorem dX5_become_42 : decode cX5_become 42 = .ok (.aload_n 0, 1) := by decide +kernel
theorem dX5_become_43 : decode cX5_become 43 = .ok (.getfield 18, 3) := by decide +kernel
theorem dX5_become_46 : decode cX5_become 46 = .ok (.iload_n 1, 1) := by decide +kernel
theorem dX5_become_47 : decode cX5_become 47 = .ok (.bipush 40, 2) := by decide +kernel
theorem dX5_become_49 : decode cX5_become 49 = .ok (.imul, 1) := by decide +kernel
theorem dX5_become_50 : decode cX5_become 50 = .ok (.iload 4, 2) := by decide +kernel
theorem dX5_become_52 : decode cX5_become 52 = .ok (.iadd, 1) := by decide +kernel
theorem dX5_become_53 : decode cX5_become 53 = .ok (.iconst 0, 1) := by decide +kernel
theorem dX5_become_54 : decode cX5_become 54 = .ok (.iastore, 1) := by decide +kernel
theorem dX5_become_55 : decode cX5_become 55 = .ok (.iinc 4 1, 3) := by decide +kernel
theorem dX5_become_58 : decode cX5_become 58 = .ok (.goto (-22), 3) := by decide +kernel
theorem dX5_become_61 : decode cX5_become 61 = .ok (.return_, 1) := by decide +kernel
theorem dX5_get_0 : decode cX5_get 0 = .ok (.aload_n 0, 1) := by decide +kernel
theorem dX5_get_1 : decode cX5_get 1 = .ok (.iload_n 1, 1) := by decide +kernel
theorem dX5_get_2 : decode cX5_get 2 = .ok (.iload_n 2, 1) := by decide +kernel
theorem dX5_get_3 : decode cX5_get 3 = .ok (.iconst 1, 1) := by decide +kernel
theorem dX5_get_4 : decode cX5_get 4 = .ok (.invokevirtual 25, 3) := by decide +kernel
theorem dX5_get_7 : decode cX5_get 7 = .ok (.ifCond .eq 17, 3) := by decide +kernel
theorem dX5_get_10 : decode cX5_get 10 = .ok (.aload_n 0, 1) := by decide +kernel
theorem dX5_get_11 : decode cX5_get 11 = .ok (.getfield 18, 3) := by decide +kernel
theorem dX5_get_14 : decode cX5_get 14 = .ok (.iload_n 1, 1) := by decide +kernel
theorem dX5_get_15 : decode cX5_get 15 = .ok (.bipush 40, 2) := by decide +kernel
theorem dX5_get_17 : decode cX5_get 17 = .ok (.imul, 1) := by decide +kernel
theorem dX5_get_18 : decode cX5_get 18 = .ok (.iload_n 2, 1) := by decide +kernel
theorem dX5_get_19 : decode cX5_get 19 = .ok (.iadd, 1) := by decide +kernel
theorem dX5_get_20 : decode cX5_get 20 = .ok (.iaload, 1) := by decide +kernel
theorem dX5_get_21 : decode cX5_get 21 = .ok (.goto 4, 3) := by decide +kernel
theorem dX5_get_24 : decode cX5_get 24 = .ok (.iconst 0, 1) := by decide +kernel
theorem dX5_get_25 : decode cX5_get 25 = .ok (.ireturn, 1) := by decide +kernel
theorem dX5_put_0 : decode cX5_put 0 = .ok (.aload_n 0, 1) := by decide +kernel
theorem dX5_put_1 : decode cX5_put 1 = .ok (.iload_n 1, 1) := by decide +kernel
theorem dX5_put_2 : decode cX5_put 2 = .ok (.iload_n 2, 1) := by decide +kernel
theorem dX5_put_3 : decode cX5_put 3 = .ok (.iconst 1, 1) := by decide +kernel
theorem dX5_put_4 : decode cX5_put 4 = .ok (.invokevirtual 25, 3) := by decide +kernel
theorem dX5_put_7 : decode cX5_put 7 = .ok (.ifCond .eq 44, 3) := by decide +kernel
theorem dX5_put_10 : decode cX5_put 10 = .ok (.aload_n 0, 1) := by decide +kernel
theorem dX5_put_11 : decode cX5_put 11 = .ok (.getfield 18, 3) := by decide +kernel
theorem dX5_put_14 : decode cX5_put 14 = .ok (.iload_n 1, 1) := by decide +kernel
theorem dX5_put_15 : decode cX5_put 15 = .ok (.bipush 40, 2) := by decide +kernel
theorem dX5_put_17 : decode cX5_put 17 = .ok (.imul, 1) := by decide +kernel
theorem dX5_put_18 : decode cX5_put 18 = .ok (.iload_n 2, 1) := by decide +kernel
theorem dX5_put_19 : decode cX5_put 19 = .ok (.iadd, 1) := by decide +kernel
theorem dX5_put_20 : decode cX5_put 20 = .ok (.aload_n 0, 1) := by decide +kernel
theorem dX5_put_21 : decode cX5_put 21 = .ok (.getfield 11, 3) := by decide +kernel
theorem dX5_put_24 : decode cX5_put 24 = .ok (.iload_n 1, 1) := by decide +kernel
theorem dX5_put_25 : decode cX5_put 25 = .ok (.iaload, 1) := by decide +kernel
theorem dX5_put_26 : decode cX5_put 26 = .ok (.ifCond .ne 8, 3) := by decide +kernel
theorem dX5_put_29 : decode cX5_put 29 = .ok (.iload_n 3, 1) := by decide +kernel
theorem dX5_put_30 : decode cX5_put 30 = .ok (.i2b, 1) := by decide +kernel
theorem dX5_put_31 : decode cX5_put 31 = .ok (.goto 19, 3) := by decide +kernel
theorem dX5_put_34 : decode cX5_put 34 = .ok (.aload_n 0, 1) := by decide +kernel
theorem dX5_put_35 : decode cX5_put 35 = .ok (.getfield 11, 3) := by decide +kernel
theorem dX5_put_38 : decode cX5_put 38 = .ok (.iload_n 1, 1) := by decide +kernel
theorem dX5_put_39 : decode cX5_put 39 = .ok (.iaload, 1) := by decide +kernel
theorem dX5_put_40 : decode cX5_put 40 = .ok (.iconst 1, 1) := by decide +kernel
theorem dX5_put_41 : decode cX5_put 41 = .ok (.if_icmp .ne 8, 3) := by decide +kernel
theorem dX5_put_44 : decode cX5_put 44 = .ok (.iload_n 3, 1) := by decide +kernel
theorem dX5_put_45 : decode cX5_put 45 = .ok (.i2s, 1) := by decide +kernel
theorem dX5_put_46 : decode cX5_put 46 = .ok (.goto 4, 3) := by decide +kernel
theorem dX5_put_49 : decode cX5_put 49 = .ok (.iload_n 3, 1) := by decide +kernel
theorem dX5_put_50 : decode cX5_put 50 = .ok (.iastore, 1) := by decide +kernel
theorem dX5_put_51 : decode cX5_put 51 = .ok (.return_, 1) := by decide +kernel
theorem dX5_carry_0 : decode cX5_carry 0 = .ok (.aload_n 0, 1) := by decide +kernel
theorem dX5_carry_1 : decode cX5_carry 1 = .ok (.iload_n 1, 1) := by decide +kernel
theorem dX5_carry_2 : decode cX5_carry 2 = .ok (.iload_n 2, 1) := by decide +kernel
theorem dX5_carry_3 : decode cX5_carry 3 = .ok (.iload 5, 2) := by decide +kernel
theorem dX5_carry_5 : decode cX5_carry 5 = .ok (.invokevirtual 25, 3) := by decide +kernel
theorem dX5_carry_8 : decode cX5_carry 8 = .ok (.ifCond .eq 41, 3) := by decide +kernel
theorem dX5_carry_11 : decode cX5_carry 11 = .ok (.aload_n 0, 1) := by decide +kernel
theorem dX5_carry_12 : decode cX5_carry 12 = .ok (.iload_n 3, 1) := by decide +kernel
theorem dX5_carry_13 : decode cX5_carry 13 = .ok (.iload 4, 2) := by decide +kernel
theorem dX5_carry_15 : decode cX5_carry 15 = .ok (.iload 5, 2) := by decide +kernel
theorem dX5_carry_17 : decode cX5_carry 17 = .ok (.invokevirtual 25, 3) := by decide +kernel
theorem dX5_carry_20 : decode cX5_carry 20 = .ok (.ifCond .eq 29, 3) := by decide +kernel
theorem dX5_carry_23 : decode cX5_carry 23 = .ok (.aload_n 0, 1) := by decide +kernel
theorem dX5_carry_24 : decode cX5_carry 24 = .ok (.getfield 18, 3) := by decide +kernel
theorem dX5_carry_27 : decode cX5_carry 27 = .ok (.iload_n 1, 1) := by decide +kernel
theorem dX5_carry_28 : decode cX5_carry 28 = .ok (.bipush 40, 2) := by decide +kernel
theorem dX5_carry_30 : decode cX5_carry 30 = .ok (.imul, 1) := by decide +kernel
theorem dX5_carry_31 : decode cX5_carry 31 = .ok (.iload_n 2, 1) := by decide +kernel
theorem dX5_carry_32 : decode cX5_carry 32 = .ok (.iadd, 1) := by decide +kernel
theorem dX5_carry_33 : decode cX5_carry 33 = .ok (.aload_n 0, 1) := by decide +kernel
theorem dX5_carry_34 : decode cX5_carry 34 = .ok (.getfield 18, 3) := by decide +kernel
theorem dX5_carry_37 : decode cX5_carry 37 = .ok (.iload_n 3, 1) := by decide +kernel
theorem dX5_carry_38 : decode cX5_carry 38 = .ok (.bipush 40, 2) := by decide +kernel
theorem dX5_carry_40 : decode cX5_carry 40 = .ok (.imul, 1) := by decide +kernel
theorem dX5_carry_41 : decode cX5_carry 41 = .ok (.iload 4, 2) := by decide +kernel
theorem dX5_carry_43 : decode cX5_carry 43 = .ok (.iadd, 1) := by decide +kernel
theorem dX5_carry_44 : decode cX5_carry 44 = .ok (.iload 5, 2) := by decide +kernel
theorem dX5_carry_46 : decode cX5_carry 46 = .ok (.invokestatic 29, 3) := by decide +kernel
theorem dX5_carry_49 : decode cX5_carry 49 = .ok (.return_, 1) := by decide +kernel
theorem dX6_init_0 : decode cX6_init 0 = .ok (.aload_n 0, 1) := by decide +kernel
theorem dX6_init_1 : decode cX6_init 1 = .ok (.invokespecial 3, 3) := by decide +kernel
theorem dX6_init_4 : decode cX6_init 4 = .ok (.aload_n 0, 1) := by decide +kernel
theorem dX6_init_5 : decode cX6_init 5 = .ok (.sipush 960, 3) := by decide +kernel
theorem dX6_init_8 : decode cX6_init 8 = .ok (.newarray .int, 2) := by decide +kernel
theorem dX6_init_10 : decode cX6_init 10 = .ok (.putfield 9, 3) := by decide +kernel
theorem dX6_init_13 : decode cX6_init 13 = .ok (.aload_n 0, 1) := by decide +kernel
theorem dX6_init_14 : decode cX6_init 14 = .ok (.bipush 18, 2) := by decide +kernel
theorem dX6_init_16 : decode cX6_init 16 = .ok (.newarray .int, 2) := by decide +kernel
theorem dX6_init_18 : decode cX6_init 18 = .ok (.putfield 15, 3) := by decide +kernel
theorem dX6_init_21 : decode cX6_init 21 = .ok (.aload_n 0, 1) := by decide +kernel
theorem dX6_init_22 : decode cX6_init 22 = .ok (.bipush 64, 2) := by decide +kernel
theorem dX6_init_24 : decode cX6_init 24 = .ok (.newarray .int, 2) := by decide +kernel
theorem dX6_init_26 : decode cX6_init 26 = .ok (.putfield 18, 3) := by decide +kernel
theorem dX6_init_29 : decode cX6_init 29 = .ok (.aload_n 0, 1) := by decide +kernel
theorem dX6_init_30 : decode cX6_init 30 = .ok (.iconst 0, 1) := by decide +kernel
theorem dX6_init_31 : decode cX6_init 31 = .ok (.putfield 21, 3) := by decide +kernel
theorem dX6_init_34 : decode cX6_init 34 = .ok (.aload_n 0, 1) := by decide +kernel
theorem dX6_init_35 : decode cX6_init 35 = .ok (.iconst 0, 1) := by decide +kernel
theorem dX6_init_36 : decode cX6_init 36 = .ok (.putfield 25, 3) := by decide +kernel
theorem dX6_init_39 : decode cX6_init 39 = .ok (.return_, 1) := by decide +kernel
theorem dX6_beginNext_0 : decode cX6_beginNext 0 = .ok (.aload_n 0, 1) := by decide +kernel
theorem dX6_beginNext_1 : decode cX6_beginNext 1 = .ok (.iconst 0, 1) := by decide +kernel
theorem dX6_beginNext_2 : decode cX6_beginNext 2 = .ok (.putfield 21, 3) := by decide +kernel
theorem dX6_beginNext_5 : decode cX6_beginNext 5 = .ok (.return_, 1) := by decide +kernel
theorem dX6_write_0 : decode cX6_write 0 = .ok (.aload_n 0, 1) := by decide +kernel
theorem dX6_write_1 : decode cX6_write 1 = .ok (.getfield 25, 3) := by decide +kernel
theorem dX6_write_4 : decode cX6_write 4 = .ok (.sipush 160, 3) := by decide +kernel
theorem dX6_write_7 : decode cX6_write 7 = .ok (.imul, 1) := by decide +kernel
theorem dX6_write_8 : decode cX6_write 8 = .ok (.aload_n 0, 1) := by decide +kernel
theorem dX6_write_9 : decode cX6_write 9 = .ok (.getfield 21, 3) := by decide +kernel
theorem dX6_write_12 : decode cX6_write 12 = .ok (.iadd, 1) := by decide +kernel
theorem dX6_write_13 : decode cX6_write 13 = .ok (.istore_n 2, 1) := by decide +kernel
theorem dX6_write_14 : decode cX6_write 14 = .ok (.aload_n 0, 1) := by decide +kernel
theorem dX6_write_15 : decode cX6_write 15 = .ok (.getfield 25, 3) := by decide +kernel
theorem dX6_write_18 : decode cX6_write 18 = .ok (.ifCond .lt 46, 3) := by decide +kernel
theorem dX6_write_21 : decode cX6_write 21 = .ok (.aload_n 0, 1) := by decide +kernel
theorem dX6_write_22 : decode cX6_write 22 = .ok (.getfield 25, 3) := by decide +kernel
theorem dX6_write_25 : decode cX6_write 25 = .ok (.bipush 6, 2) := by decide +kernel
theorem dX6_write_27 : decode cX6_write 27 = .ok (.if_icmp .ge 37, 3) := by decide +kernel
theorem dX6_write_30 : decode cX6_write 30 = .ok (.aload_n 0, 1) := by decide +kernel
theorem dX6_write_31 : decode cX6_write 31 = .ok (.getfield 21, 3) := by decide +kernel
theorem dX6_write_34 : decode cX6_write 34 = .ok (.ifCond .lt 30, 3) := by decide +kernel
theorem dX6_write_37 : decode cX6_write 37 = .ok (.aload_n 0, 1) := by decide +kernel
theorem dX6_write_38 : decode cX6_write 38 = .ok (.getfield 21, 3) := by decide +kernel
theorem dX6_write_41 : decode cX6_write 41 = .ok (.sipush 160, 3) := by decide +kernel
theorem dX6_write_44 : decode cX6_write 44 = .ok (.if_icmp .ge 20, 3) := by decide +kernel
theorem dX6_write_47 : decode cX6_write 47 = .ok (.aload_n 0, 1) := by decide +kernel
theorem dX6_write_48 : decode cX6_write 48 = .ok (.getfield 9, 3) := by decide +kernel
theorem dX6_write_51 : decode cX6_write 51 = .ok (.iload_n 2, 1) := by decide +kernel
theorem dX6_write_52 : decode cX6_write 52 = .ok (.iload_n 1, 1) := by decide +kernel
theorem dX6_write_53 : decode cX6_write 53 = .ok (.iastore, 1) := by decide +kernel
theorem dX6_write_54 : decode cX6_write 54 = .ok (.aload_n 0, 1) := by decide +kernel
theorem dX6_write_55 : decode cX6_write 55 = .ok (.dup, 1) := by decide +kernel
theorem dX6_write_56 : decode cX6_write 56 = .ok (.getfield 21, 3) := by decide +kernel
theorem dX6_write_59 : decode cX6_write 59 = .ok (.iconst 1, 1) := by decide +kernel
theorem dX6_write_60 : decode cX6_write 60 = .ok (.iadd, 1) := by decide +kernel
theorem dX6_write_61 : decode cX6_write 61 = .ok (.putfield 21, 3) := by decide +kernel
theorem dX6_write_64 : decode cX6_write 64 = .ok (.return_, 1) := by decide +kernel
theorem dX6_endPart_0 : decode cX6_endPart 0 = .ok (.aload_n 0, 1) := by decide +kernel
theorem dX6_endPart_1 : decode cX6_endPart 1 = .ok (.getfield 25, 3) := by decide +kernel
theorem dX6_endPart_4 : decode cX6_endPart 4 = .ok (.ifCond .lt 47, 3) := by decide +kernel
theorem dX6_endPart_7 : decode cX6_endPart 7 = .ok (.aload_n 0, 1) := by decide +kernel
theorem dX6_endPart_8 : decode cX6_endPart 8 = .ok (.getfield 25, 3) := by decide +kernel
theorem dX6_endPart_11 : decode cX6_endPart 11 = .ok (.bipush 6, 2) := by decide +kernel
theorem dX6_endPart_13 : decode cX6_endPart 13 = .ok (.if_icmp .ge 38, 3) := by decide +kernel
theorem dX6_endPart_16 : decode cX6_endPart 16 = .ok (.iload_n 1, 1) := by decide +kernel
theorem dX6_endPart_17 : decode cX6_endPart 17 = .ok (.ifCond .lt 34, 3) := by decide +kernel
theorem dX6_endPart_20 : decode cX6_endPart 20 = .ok (.iload_n 1, 1) := by decide +kernel
theorem dX6_endPart_21 : decode cX6_endPart 21 = .ok (.iconst 3, 1) := by decide +kernel
theorem dX6_endPart_22 : decode cX6_endPart 22 = .ok (.if_icmp .ge 29, 3) := by decide +kernel
theorem dX6_endPart_25 : decode cX6_endPart 25 = .ok (.aload_n 0, 1) := by decide +kernel
theorem dX6_endPart_26 : decode cX6_endPart 26 = .ok (.getfield 15, 3) := by decide +kernel
theorem dX6_endPart_29 : decode cX6_endPart 29 = .ok (.aload_n 0, 1) := by decide +kernel
theorem dX6_endPart_30 : decode cX6_endPart 30 = .ok (.getfield 25, 3) := by decide +kernel
theorem dX6_endPart_33 : decode cX6_endPart 33 = .ok (.iconst 3, 1) := by decide +kernel
theorem dX6_endPart_34 : decode cX6_endPart 34 = .ok (.imul, 1) := by decide +kernel
theorem dX6_endPart_35 : decode cX6_endPart 35 = .ok (.iload_n 1, 1) := by decide +kernel
theorem dX6_endPart_36 : decode cX6_endPart 36 = .ok (.iadd, 1) := by decide +kernel
theorem dX6_endPart_37 : decode cX6_endPart 37 = .ok (.aload_n 0, 1) := by decide +kernel
theorem dX6_endPart_38 : decode cX6_endPart 38 = .ok (.getfield 25, 3) := by decide +kernel
theorem dX6_endPart_41 : decode cX6_endPart 41 = .ok (.sipush 160, 3) := by decide +kernel
theorem dX6_endPart_44 : decode cX6_endPart 44 = .ok (.imul, 1) := by decide +kernel
theorem dX6_endPart_45 : decode cX6_endPart 45 = .ok (.aload_n 0, 1) := by decide +kernel
theorem dX6_endPart_46 : decode cX6_endPart 46 = .ok (.getfield 21, 3) := by decide +kernel
theorem dX6_endPart_49 : decode cX6_endPart 49 = .ok (.iadd, 1) := by decide +kernel
theorem dX6_endPart_50 : decode cX6_endPart 50 = .ok (.iastore, 1) := by decide +kernel
theorem dX6_endPart_51 : decode cX6_endPart 51 = .ok (.return_, 1) := by decide +kernel
theorem dX6_keepNext_0 : decode cX6_keepNext 0 = .ok (.aload_n 0, 1) := by decide +kernel
theorem dX6_keepNext_1 : decode cX6_keepNext 1 = .ok (.getfield 25, 3) := by decide +kernel
theorem dX6_keepNext_4 : decode cX6_keepNext 4 = .ok (.bipush 6, 2) := by decide +kernel
theorem dX6_keepNext_6 : decode cX6_keepNext 6 = .ok (.if_icmp .ge 13, 3) := by decide +kernel
theorem dX6_keepNext_9 : decode cX6_keepNext 9 = .ok (.aload_n 0, 1) := by decide +kernel
theorem dX6_keepNext_10 : decode cX6_keepNext 10 = .ok (.dup, 1) := by decide +kernel
theorem dX6_keepNext_11 : decode cX6_keepNext 11 = .ok (.getfield 25, 3) := by decide +kernel
theorem dX6_keepNext_14 : decode cX6_keepNext 14 = .ok (.iconst 1, 1) := by decide +kernel
theorem dX6_keepNext_15 : decode cX6_keepNext 15 = .ok (.iadd, 1) := by decide +kernel
theorem dX6_keepNext_16 : decode cX6_keepNext 16 = .ok (.putfield 25, 3) := by decide +kernel
theorem dX6_keepNext_19 : decode cX6_keepNext 19 = .ok (.return_, 1) := by decide +kernel
theorem dX6_bounded_0 : decode cX6_bounded 0 = .ok (.iconst 0, 1) := by decide +kernel
theorem dX6_bounded_1 : decode cX6_bounded 1 = .ok (.bipush 99, 2) := by decide +kernel
theorem dX6_bounded_3 : decode cX6_bounded 3 = .ok (.aload_n 0, 1) := by decide +kernel
theorem dX6_bounded_4 : decode cX6_bounded 4 = .ok (.iload_n 1, 1) := by decide +kernel
theorem dX6_bounded_5 : decode cX6_bounded 5 = .ok (.iload_n 2, 1) := by decide +kernel
theorem dX6_bounded_6 : decode cX6_bounded 6 = .ok (.aload_n 3, 1) := by decide +kernel
theorem dX6_bounded_7 : decode cX6_bounded 7 = .ok (.invokevirtual 28, 3) := by decide +kernel
theorem dX6_bounded_10 : decode cX6_bounded 10 = .ok (.invokestatic 32, 3) := by decide +kernel
theorem dX6_bounded_13 : decode cX6_bounded 13 = .ok (.invokestatic 38, 3) := by decide +kernel
theorem dX6_bounded_16 : decode cX6_bounded 16 = .ok (.ireturn, 1) := by decide +kernel
theorem dX6_value_0 : decode cX6_value 0 = .ok (.iload_n 1, 1) := by decide +kernel
theorem dX6_value_1 : decode cX6_value 1 = .ok (.ifCond .lt 27, 3) := by decide +kernel
theorem dX6_value_4 : decode cX6_value 4 = .ok (.iload_n 1, 1) := by decide +kernel
theorem dX6_value_5 : decode cX6_value 5 = .ok (.aload_n 0, 1) := by decide +kernel
theorem dX6_value_6 : decode cX6_value 6 = .ok (.getfield 25, 3) := by decide +kernel
theorem dX6_value_9 : decode cX6_value 9 = .ok (.if_icmp .ge 19, 3) := by decide +kernel
theorem dX6_value_12 : decode cX6_value 12 = .ok (.iload_n 2, 1) := by decide +kernel
theorem dX6_value_13 : decode cX6_value 13 = .ok (.ifCond .lt 15, 3) := by decide +kernel
theorem dX6_value_16 : decode cX6_value 16 = .ok (.iload_n 2, 1) := by decide +kernel
theorem dX6_value_17 : decode cX6_value 17 = .ok (.iconst 3, 1) := by decide +kernel
theorem dX6_value_18 : decode cX6_value 18 = .ok (.if_icmp .ge 10, 3) := by decide +kernel
theorem dX6_value_21 : decode cX6_value 21 = .ok (.aload_n 3, 1) := by decide +kernel
theorem dX6_value_22 : decode cX6_value 22 = .ok (.arraylength, 1) := by decide +kernel
theorem dX6_value_23 : decode cX6_value 23 = .ok (.bipush 6, 2) := by decide +kernel
theorem dX6_value_25 : decode cX6_value 25 = .ok (.if_icmp .ge 5, 3) := by decide +kernel
theorem dX6_value_28 : decode cX6_value 28 = .ok (.iconst 0, 1) := by decide +kernel
theorem dX6_value_29 : decode cX6_value 29 = .ok (.ireturn, 1) := by decide +kernel
theorem dX6_value_30 : decode cX6_value 30 = .ok (.iload_n 2, 1) := by decide +kernel
theorem dX6_value_31 : decode cX6_value 31 = .ok (.ifCond .ne 11, 3) := by decide +kernel
theorem dX6_value_34 : decode cX6_value 34 = .ok (.iload_n 1, 1) := by decide +kernel
theorem dX6_value_35 : decode cX6_value 35 = .ok (.sipush 160, 3) := by decide +kernel
theorem dX6_value_38 : decode cX6_value 38 = .ok (.imul, 1) := by decide +kernel
theorem dX6_value_39 : decode cX6_value 39 = .ok (.goto 15, 3) := by decide +kernel
theorem dX6_value_42 : decode cX6_value 42 = .ok (.aload_n 0, 1) := by decide +kernel
theorem dX6_value_43 : decode cX6_value 43 = .ok (.getfield 15, 3) := by decide +kernel
theorem dX6_value_46 : decode cX6_value 46 = .ok (.iload_n 1, 1) := by decide +kernel
theorem dX6_value_47 : decode cX6_value 47 = .ok (.iconst 3, 1) := by decide +kernel
theorem dX6_value_48 : decode cX6_value 48 = .ok (.imul, 1) := by decide +kernel
theorem dX6_value_49 : decode cX6_value 49 = .ok (.iload_n 2, 1) := by decide +kernel
theorem dX6_value_50 : decode cX6_value 50 = .ok (.iadd, 1) := by decide +kernel
theorem dX6_value_51 : decode cX6_value 51 = .ok (.iconst 1, 1) := by decide +kernel
theorem dX6_value_52 : decode cX6_value 52 = .ok (.isub, 1) := by decide +kernel
theorem dX6_value_53 : decode cX6_value 53 = .ok (.iaload, 1) := by decide +kernel
theorem dX6_value_54 : decode cX6_value 54 = .ok (.istore 4, 2) := by decide +kernel
theorem dX6_value_56 : decode cX6_value 56 = .ok (.aload_n 0, 1) := by decide +kernel
theorem dX6_value_57 : decode cX6_value 57 = .ok (.getfield 15, 3) := by decide +kernel
theorem dX6_value_60 : decode cX6_value 60 = .ok (.iload_n 1, 1) := by decide +kernel
theorem dX6_value_61 : decode cX6_value 61 = .ok (.iconst 3, 1) := by decide +kernel
theorem dX6_value_62 : decode cX6_value 62 = .ok (.imul, 1) := by decide +kernel
theorem dX6_value_63 : decode cX6_value 63 = .ok (.iload_n 2, 1) := by decide +kernel
theorem dX6_value_64 : decode cX6_value 64 = .ok (.iadd, 1) := by decide +kernel
theorem dX6_value_65 : decode cX6_value 65 = .ok (.iaload, 1) := by decide +kernel
theorem dX6_value_66 : decode cX6_value 66 = .ok (.aload_n 0, 1) := by decide +kernel
theorem dX6_value_67 : decode cX6_value 67 = .ok (.getfield 9, 3) := by decide +kernel
theorem dX6_value_70 : decode cX6_value 70 = .ok (.arraylength, 1) := by decide +kernel
theorem dX6_value_71 : decode cX6_value 71 = .ok (.invokestatic 32, 3) := by decide +kernel
theorem dX6_value_74 : decode cX6_value 74 = .ok (.istore 5, 2) := by decide +kernel
theorem dX6_value_76 : decode cX6_value 76 = .ok (.iconst (-1), 1) := by decide +kernel
theorem dX6_value_77 : decode cX6_value 77 = .ok (.istore 6, 2) := by decide +kernel
theorem dX6_value_79 : decode cX6_value 79 = .ok (.iload 4, 2) := by decide +kernel
theorem dX6_value_81 : decode cX6_value 81 = .ok (.istore 7, 2) := by decide +kernel
theorem dX6_value_83 : decode cX6_value 83 = .ok (.iload 7, 2) := by decide +kernel
theorem dX6_value_85 : decode cX6_value 85 = .ok (.iload 5, 2) := by decide +kernel
theorem dX6_value_87 : decode cX6_value 87 = .ok (.if_icmp .ge 162, 3) := by decide +kernel
theorem dX6_value_90 : decode cX6_value 90 = .ok (.iload 6, 2) := by decide +kernel
theorem dX6_value_92 : decode cX6_value 92 = .ok (.iconst 1, 1) := by decide +kernel
theorem dX6_value_93 : decode cX6_value 93 = .ok (.iadd, 1) := by decide +kernel
theorem dX6_value_94 : decode cX6_value 94 = .ok (.bipush 64, 2) := by decide +kernel
theorem dX6_value_96 : decode cX6_value 96 = .ok (.if_icmp .ge 153, 3) := by decide +kernel
theorem dX6_value_99 : decode cX6_value 99 = .ok (.aload_n 0, 1) := by decide +kernel
theorem dX6_value_100 : decode cX6_value 100 = .ok (.getfield 9, 3) := by decide +kernel
theorem dX6_value_103 : decode cX6_value 103 = .ok (.iload 7, 2) := by decide +kernel
theorem dX6_value_105 : decode cX6_value 105 = .ok (.iaload, 1) := by decide +kernel
theorem dX6_value_106 : decode cX6_value 106 = .ok (.istore 8, 2) := by decide +kernel
theorem dX6_value_108 : decode cX6_value 108 = .ok (.iload 8, 2) := by decide +kernel
theorem dX6_value_110 : decode cX6_value 110 = .ok (.bipush (-6), 2) := by decide +kernel
theorem dX6_value_112 : decode cX6_value 112 = .ok (.if_icmp .lt 32, 3) := by decide +kernel
theorem dX6_value_115 : decode cX6_value 115 = .ok (.iinc 6 1, 3) := by decide +kernel
theorem dX6_value_118 : decode cX6_value 118 = .ok (.aload_n 0, 1) := by decide +kernel
theorem dX6_value_119 : decode cX6_value 119 = .ok (.getfield 18, 3) := by decide +kernel
theorem dX6_value_122 : decode cX6_value 122 = .ok (.iload 6, 2) := by decide +kernel
theorem dX6_value_124 : decode cX6_value 124 = .ok (.iload 8, 2) := by decide +kernel
theorem dX6_value_126 : decode cX6_value 126 = .ok (.ifCond .lt 8, 3) := by decide +kernel
theorem dX6_value_129 : decode cX6_value 129 = .ok (.iload 8, 2) := by decide +kernel
theorem dX6_value_131 : decode cX6_value 131 = .ok (.goto 9, 3) := by decide +kernel
theorem dX6_value_134 : decode cX6_value 134 = .ok (.aload_n 3, 1) := by decide +kernel
theorem dX6_value_135 : decode cX6_value 135 = .ok (.iconst (-1), 1) := by decide +kernel
theorem dX6_value_136 : decode cX6_value 136 = .ok (.iload 8, 2) := by decide +kernel
theorem dX6_value_138 : decode cX6_value 138 = .ok (.isub, 1) := by decide +kernel
theorem dX6_value_139 : decode cX6_value 139 = .ok (.iaload, 1) := by decide +kernel
theorem dX6_value_140 : decode cX6_value 140 = .ok (.iastore, 1) := by decide +kernel
theorem dX6_value_141 : decode cX6_value 141 = .ok (.goto 102, 3) := by decide +kernel
theorem dX6_value_144 : decode cX6_value 144 = .ok (.iload 6, 2) := by decide +kernel
theorem dX6_value_146 : decode cX6_value 146 = .ok (.ifCond .lt 60, 3) := by decide +kernel
theorem dX6_value_149 : decode cX6_value 149 = .ok (.iload 8, 2) := by decide +kernel
theorem dX6_value_151 : decode cX6_value 151 = .ok (.bipush (-9), 2) := by decide +kernel
theorem dX6_value_153 : decode cX6_value 153 = .ok (.if_icmp .eq 10, 3) := by decide +kernel
theorem dX6_value_156 : decode cX6_value 156 = .ok (.iload 8, 2) := by decide +kernel
theorem dX6_value_158 : decode cX6_value 158 = .ok (.bipush (-18), 2) := by decide +kernel
theorem dX6_value_160 : decode cX6_value 160 = .ok (.if_icmp .ne 46, 3) := by decide +kernel
theorem dX6_value_163 : decode cX6_value 163 = .ok (.aload_n 0, 1) := by decide +kernel
theorem dX6_value_164 : decode cX6_value 164 = .ok (.getfield 18, 3) := by decide +kernel
theorem dX6_value_167 : decode cX6_value 167 = .ok (.iload 6, 2) := by decide +kernel
theorem dX6_value_169 : decode cX6_value 169 = .ok (.iload 8, 2) := by decide +kernel
theorem dX6_value_171 : decode cX6_value 171 = .ok (.bipush (-18), 2) := by decide +kernel
theorem dX6_value_173 : decode cX6_value 173 = .ok (.if_icmp .ne 14, 3) := by decide +kernel
theorem dX6_value_176 : decode cX6_value 176 = .ok (.aload_n 0, 1) := by decide +kernel
theorem dX6_value_177 : decode cX6_value 177 = .ok (.getfield 18, 3) := by decide +kernel
theorem dX6_value_180 : decode cX6_value 180 = .ok (.iload 6, 2) := by decide +kernel
theorem dX6_value_182 : decode cX6_value 182 = .ok (.iaload, 1) := by decide +kernel
theorem dX6_value_183 : decode cX6_value 183 = .ok (.ineg, 1) := by decide +kernel
theorem dX6_value_184 : decode cX6_value 184 = .ok (.goto 18, 3) := by decide +kernel
theorem dX6_value_187 : decode cX6_value 187 = .ok (.aload_n 0, 1) := by decide +kernel
theorem dX6_value_188 : decode cX6_value 188 = .ok (.getfield 18, 3) := by decide +kernel
theorem dX6_value_191 : decode cX6_value 191 = .ok (.iload 6, 2) := by decide +kernel
theorem dX6_value_193 : decode cX6_value 193 = .ok (.iaload, 1) := by decide +kernel
theorem dX6_value_194 : decode cX6_value 194 = .ok (.ifCond .ne 7, 3) := by decide +kernel
theorem dX6_value_197 : decode cX6_value 197 = .ok (.iconst 1, 1) := by decide +kernel
theorem dX6_value_198 : decode cX6_value 198 = .ok (.goto 4, 3) := by decide +kernel
theorem dX6_value_201 : decode cX6_value 201 = .ok (.iconst 0, 1) := by decide +kernel
theorem dX6_value_202 : decode cX6_value 202 = .ok (.iastore, 1) := by decide +kernel
theorem dX6_value_203 : decode cX6_value 203 = .ok (.goto 40, 3) := by decide +kernel
theorem dX6_value_206 : decode cX6_value 206 = .ok (.iload 6, 2) := by decide +kernel
theorem dX6_value_208 : decode cX6_value 208 = .ok (.iconst 1, 1) := by decide +kernel
theorem dX6_value_209 : decode cX6_value 209 = .ok (.if_icmp .lt 34, 3) := by decide +kernel
theorem dX6_value_212 : decode cX6_value 212 = .ok (.iinc 6 (-1), 3) := by decide +kernel
theorem dX6_value_215 : decode cX6_value 215 = .ok (.aload_n 0, 1) := by decide +kernel
theorem dX6_value_216 : decode cX6_value 216 = .ok (.getfield 18, 3) := by decide +kernel
theorem dX6_value_219 : decode cX6_value 219 = .ok (.iload 6, 2) := by decide +kernel
theorem dX6_value_221 : decode cX6_value 221 = .ok (.iload 8, 2) := by decide +kernel
theorem dX6_value_223 : decode cX6_value 223 = .ok (.aload_n 0, 1) := by decide +kernel
theorem dX6_value_224 : decode cX6_value 224 = .ok (.getfield 18, 3) := by decide +kernel
theorem dX6_value_227 : decode cX6_value 227 = .ok (.iload 6, 2) := by decide +kernel
theorem dX6_value_229 : decode cX6_value 229 = .ok (.iaload, 1) := by decide +kernel
theorem dX6_value_230 : decode cX6_value 230 = .ok (.aload_n 0, 1) := by decide +kernel
theorem dX6_value_231 : decode cX6_value 231 = .ok (.getfield 18, 3) := by decide +kernel
theorem dX6_value_234 : decode cX6_value 234 = .ok (.iload 6, 2) := by decide +kernel
theorem dX6_value_236 : decode cX6_value 236 = .ok (.iconst 1, 1) := by decide +kernel
theorem dX6_value_237 : decode cX6_value 237 = .ok (.iadd, 1) := by decide +kernel
theorem dX6_value_238 : decode cX6_value 238 = .ok (.iaload, 1) := by decide +kernel
theorem dX6_value_239 : decode cX6_value 239 = .ok (.invokestatic 45, 3) := by decide +kernel
theorem dX6_value_242 : decode cX6_value 242 = .ok (.iastore, 1) := by decide +kernel
theorem dX6_value_243 : decode cX6_value 243 = .ok (.iinc 7 1, 3) := by decide +kernel
theorem dX6_value_246 : decode cX6_value 246 = .ok (.goto (-163), 3) := by decide +kernel
theorem dX6_value_249 : decode cX6_value 249 = .ok (.iload 6, 2) := by decide +kernel
theorem dX6_value_251 : decode cX6_value 251 = .ok (.ifCond .lt 12, 3) := by decide +kernel
theorem dX6_value_254 : decode cX6_value 254 = .ok (.aload_n 0, 1) := by decide +kernel
theorem dX6_value_255 : decode cX6_value 255 = .ok (.getfield 18, 3) := by decide +kernel
theorem dX6_value_258 : decode cX6_value 258 = .ok (.iconst 0, 1) := by decide +kernel
theorem dX6_value_259 : decode cX6_value 259 = .ok (.iaload, 1) := by decide +kernel
theorem dX6_value_260 : decode cX6_value 260 = .ok (.goto 4, 3) := by decide +kernel
theorem dX6_value_263 : decode cX6_value 263 = .ok (.iconst 0, 1) := by decide +kernel
theorem dX6_value_264 : decode cX6_value 264 = .ok (.ireturn, 1) := by decide +kernel
theorem dX6_joined_0 : decode cX6_joined 0 = .ok (.iload_n 0, 1) := by decide +kernel
theorem dX6_joined_1 : decode cX6_joined 1 = .ok (.tableswitch 121 (-17) (-7) #[117, 113, 109, 98, 87, 121, 121, 121, 121, 73, 59], 59) := by decide +kernel
theorem dX6_joined_60 : decode cX6_joined 60 = .ok (.iload_n 1, 1) := by decide +kernel
theorem dX6_joined_61 : decode cX6_joined 61 = .ok (.ifCond .ne 7, 3) := by decide +kernel
theorem dX6_joined_64 : decode cX6_joined 64 = .ok (.iload_n 2, 1) := by decide +kernel
theorem dX6_joined_65 : decode cX6_joined 65 = .ok (.ifCond .eq 7, 3) := by decide +kernel
theorem dX6_joined_68 : decode cX6_joined 68 = .ok (.iconst 1, 1) := by decide +kernel
theorem dX6_joined_69 : decode cX6_joined 69 = .ok (.goto 4, 3) := by decide +kernel
theorem dX6_joined_72 : decode cX6_joined 72 = .ok (.iconst 0, 1) := by decide +kernel
theorem dX6_joined_73 : decode cX6_joined 73 = .ok (.ireturn, 1) := by decide +kernel
theorem dX6_joined_74 : decode cX6_joined 74 = .ok (.iload_n 1, 1) := by decide +kernel
theorem dX6_joined_75 : decode cX6_joined 75 = .ok (.ifCond .eq 11, 3) := by decide +kernel
theorem dX6_joined_78 : decode cX6_joined 78 = .ok (.iload_n 2, 1) := by decide +kernel
theorem dX6_joined_79 : decode cX6_joined 79 = .ok (.ifCond .eq 7, 3) := by decide +kernel
theorem dX6_joined_82 : decode cX6_joined 82 = .ok (.iconst 1, 1) := by decide +kernel
theorem dX6_joined_83 : decode cX6_joined 83 = .ok (.goto 4, 3) := by decide +kernel
theorem dX6_joined_86 : decode cX6_joined 86 = .ok (.iconst 0, 1) := by decide +kernel
theorem dX6_joined_87 : decode cX6_joined 87 = .ok (.ireturn, 1) := by decide +kernel
theorem dX6_joined_88 : decode cX6_joined 88 = .ok (.iload_n 1, 1) := by decide +kernel
theorem dX6_joined_89 : decode cX6_joined 89 = .ok (.iload_n 2, 1) := by decide +kernel
theorem dX6_joined_90 : decode cX6_joined 90 = .ok (.if_icmp .ge 7, 3) := by decide +kernel
theorem dX6_joined_93 : decode cX6_joined 93 = .ok (.iconst 1, 1) := by decide +kernel
theorem dX6_joined_94 : decode cX6_joined 94 = .ok (.goto 4, 3) := by decide +kernel
theorem dX6_joined_97 : decode cX6_joined 97 = .ok (.iconst 0, 1) := by decide +kernel
theorem dX6_joined_98 : decode cX6_joined 98 = .ok (.ireturn, 1) := by decide +kernel
theorem dX6_joined_99 : decode cX6_joined 99 = .ok (.iload_n 1, 1) := by decide +kernel
theorem dX6_joined_100 : decode cX6_joined 100 = .ok (.iload_n 2, 1) := by decide +kernel
theorem dX6_joined_101 : decode cX6_joined 101 = .ok (.if_icmp .ne 7, 3) := by decide +kernel
theorem dX6_joined_104 : decode cX6_joined 104 = .ok (.iconst 1, 1) := by decide +kernel
theorem dX6_joined_105 : decode cX6_joined 105 = .ok (.goto 4, 3) := by decide +kernel
theorem dX6_joined_108 : decode cX6_joined 108 = .ok (.iconst 0, 1) := by decide +kernel
theorem dX6_joined_109 : decode cX6_joined 109 = .ok (.ireturn, 1) := by decide +kernel
theorem dX6_joined_110 : decode cX6_joined 110 = .ok (.iload_n 1, 1) := by decide +kernel
theorem dX6_joined_111 : decode cX6_joined 111 = .ok (.iload_n 2, 1) := by decide +kernel
theorem dX6_joined_112 : decode cX6_joined 112 = .ok (.iadd, 1) := by decide +kernel
theorem dX6_joined_113 : decode cX6_joined 113 = .ok (.ireturn, 1) := by decide +kernel
theorem dX6_joined_114 : decode cX6_joined 114 = .ok (.iload_n 1, 1) := by decide +kernel
theorem dX6_joined_115 : decode cX6_joined 115 = .ok (.iload_n 2, 1) := by decide +kernel
theorem dX6_joined_116 : decode cX6_joined 116 = .ok (.isub, 1) := by decide +kernel
theorem dX6_joined_117 : decode cX6_joined 117 = .ok (.ireturn, 1) := by decide +kernel
theorem dX6_joined_118 : decode cX6_joined 118 = .ok (.iload_n 1, 1) := by decide +kernel
theorem dX6_joined_119 : decode cX6_joined 119 = .ok (.iload_n 2, 1) := by decide +kernel
theorem dX6_joined_120 : decode cX6_joined 120 = .ok (.imul, 1) := by decide +kernel
theorem dX6_joined_121 : decode cX6_joined 121 = .ok (.ireturn, 1) := by decide +kernel
theorem dX6_joined_122 : decode cX6_joined 122 = .ok (.iconst 0, 1) := by decide +kernel
theorem dX6_joined_123 : decode cX6_joined 123 = .ok (.ireturn, 1) := by decide +kernel
theorem dX7_init_0 : decode cX7_init 0 = .ok (.aload_n 0, 1) := by decide +kernel
theorem dX7_init_1 : decode cX7_init 1 = .ok (.invokespecial 3, 3) := by decide +kernel
theorem dX7_init_4 : decode cX7_init 4 = .ok (.aload_n 0, 1) := by decide +kernel
theorem dX7_init_5 : decode cX7_init 5 = .ok (.iconst (-1), 1) := by decide +kernel
theorem dX7_init_6 : decode cX7_init 6 = .ok (.putfield 9, 3) := by decide +kernel
theorem dX7_init_9 : decode cX7_init 9 = .ok (.aload_n 0, 1) := by decide +kernel
theorem dX7_init_10 : decode cX7_init 10 = .ok (.iconst (-1), 1) := by decide +kernel
theorem dX7_init_11 : decode cX7_init 11 = .ok (.putfield 15, 3) := by decide +kernel
theorem dX7_init_14 : decode cX7_init 14 = .ok (.aload_n 0, 1) := by decide +kernel
theorem dX7_init_15 : decode cX7_init 15 = .ok (.iconst 0, 1) := by decide +kernel
theorem dX7_init_16 : decode cX7_init 16 = .ok (.putfield 18, 3) := by decide +kernel
theorem dX7_init_19 : decode cX7_init 19 = .ok (.aload_n 0, 1) := by decide +kernel
theorem dX7_init_20 : decode cX7_init 20 = .ok (.iconst (-1), 1) := by decide +kernel
theorem dX7_init_21 : decode cX7_init 21 = .ok (.putfield 21, 3) := by decide +kernel
theorem dX7_init_24 : decode cX7_init 24 = .ok (.aload_n 0, 1) := by decide +kernel
theorem dX7_init_25 : decode cX7_init 25 = .ok (.iconst (-1), 1) := by decide +kernel
theorem dX7_init_26 : decode cX7_init 26 = .ok (.putfield 24, 3) := by decide +kernel
theorem dX7_init_29 : decode cX7_init 29 = .ok (.aload_n 0, 1) := by decide +kernel
theorem dX7_init_30 : decode cX7_init 30 = .ok (.iconst (-1), 1) := by decide +kernel
theorem dX7_init_31 : decode cX7_init 31 = .ok (.putfield 27, 3) := by decide +kernel
theorem dX7_init_34 : decode cX7_init 34 = .ok (.aload_n 0, 1) := by decide +kernel
theorem dX7_init_35 : decode cX7_init 35 = .ok (.iconst 0, 1) := by decide +kernel
theorem dX7_init_36 : decode cX7_init 36 = .ok (.putfield 30, 3) := by decide +kernel
theorem dX7_init_39 : decode cX7_init 39 = .ok (.aload_n 0, 1) := by decide +kernel
theorem dX7_init_40 : decode cX7_init 40 = .ok (.iconst 0, 1) := by decide +kernel
theorem dX7_init_41 : decode cX7_init 41 = .ok (.putfield 33, 3) := by decide +kernel
theorem dX7_init_44 : decode cX7_init 44 = .ok (.aload_n 0, 1) := by decide +kernel
theorem dX7_init_45 : decode cX7_init 45 = .ok (.iconst 5, 1) := by decide +kernel
theorem dX7_init_46 : decode cX7_init 46 = .ok (.newarray .int, 2) := by decide +kernel
theorem dX7_init_48 : decode cX7_init 48 = .ok (.putfield 36, 3) := by decide +kernel
theorem dX7_init_51 : decode cX7_init 51 = .ok (.aload_n 0, 1) := by decide +kernel
theorem dX7_init_52 : decode cX7_init 52 = .ok (.iconst 0, 1) := by decide +kernel
theorem dX7_init_53 : decode cX7_init 53 = .ok (.putfield 40, 3) := by decide +kernel
theorem dX7_init_56 : decode cX7_init 56 = .ok (.return_, 1) := by decide +kernel
theorem dX7_clear_0 : decode cX7_clear 0 = .ok (.aload_n 0, 1) := by decide +kernel
theorem dX7_clear_1 : decode cX7_clear 1 = .ok (.iconst (-1), 1) := by decide +kernel
theorem dX7_clear_2 : decode cX7_clear 2 = .ok (.putfield 9, 3) := by decide +kernel
theorem dX7_clear_5 : decode cX7_clear 5 = .ok (.aload_n 0, 1) := by decide +kernel
theorem dX7_clear_6 : decode cX7_clear 6 = .ok (.iconst (-1), 1) := by decide +kernel
theorem dX7_clear_7 : decode cX7_clear 7 = .ok (.putfield 21, 3) := by decide +kernel
theorem dX7_clear_10 : decode cX7_clear 10 = .ok (.aload_n 0, 1) := by decide +kernel
theorem dX7_clear_11 : decode cX7_clear 11 = .ok (.iconst (-1), 1) := by decide +kernel
theorem dX7_clear_12 : decode cX7_clear 12 = .ok (.putfield 27, 3) := by decide +kernel
theorem dX7_clear_15 : decode cX7_clear 15 = .ok (.aload_n 0, 1) := by decide +kernel
theorem dX7_clear_16 : decode cX7_clear 16 = .ok (.iconst 0, 1) := by decide +kernel
theorem dX7_clear_17 : decode cX7_clear 17 = .ok (.putfield 40, 3) := by decide +kernel
theorem dX7_clear_20 : decode cX7_clear 20 = .ok (.return_, 1) := by decide +kernel
theorem dX7_stop_0 : decode cX7_stop 0 = .ok (.aload_n 0, 1) := by decide +kernel
theorem dX7_stop_1 : decode cX7_stop 1 = .ok (.iload_n 1, 1) := by decide +kernel
theorem dX7_stop_2 : decode cX7_stop 2 = .ok (.putfield 9, 3) := by decide +kernel
theorem dX7_stop_5 : decode cX7_stop 5 = .ok (.aload_n 0, 1) := by decide +kernel
theorem dX7_stop_6 : decode cX7_stop 6 = .ok (.iload_n 2, 1) := by decide +kernel
theorem dX7_stop_7 : decode cX7_stop 7 = .ok (.putfield 15, 3) := by decide +kernel
theorem dX7_stop_10 : decode cX7_stop 10 = .ok (.aload_n 0, 1) := by decide +kernel
theorem dX7_stop_11 : decode cX7_stop 11 = .ok (.iload_n 3, 1) := by decide +kernel
theorem dX7_stop_12 : decode cX7_stop 12 = .ok (.putfield 18, 3) := by decide +kernel
theorem dX7_stop_15 : decode cX7_stop 15 = .ok (.return_, 1) := by decide +kernel
theorem dX7_blind_0 : decode cX7_blind 0 = .ok (.aload_n 0, 1) := by decide +kernel
theorem dX7_blind_1 : decode cX7_blind 1 = .ok (.iload_n 1, 1) := by decide +kernel
theorem dX7_blind_2 : decode cX7_blind 2 = .ok (.putfield 21, 3) := by decide +kernel
theorem dX7_blind_5 : decode cX7_blind 5 = .ok (.aload_n 0, 1) := by decide +kernel
theorem dX7_blind_6 : decode cX7_blind 6 = .ok (.iload_n 2, 1) := by decide +kernel
theorem dX7_blind_7 : decode cX7_blind 7 = .ok (.putfield 24, 3) := by decide +kernel
theorem dX7_blind_10 : decode cX7_blind 10 = .ok (.return_, 1) := by decide +kernel
theorem dX7_addCause_0 : decode cX7_addCause 0 = .ok (.aload_n 0, 1) := by decide +kernel
theorem dX7_addCause_1 : decode cX7_addCause 1 = .ok (.iload_n 1, 1) := by decide +kernel
theorem dX7_addCause_2 : decode cX7_addCause 2 = .ok (.putfield 27, 3) := by decide +kernel
theorem dX7_addCause_5 : decode cX7_addCause 5 = .ok (.aload_n 0, 1) := by decide +kernel
theorem dX7_addCause_6 : decode cX7_addCause 6 = .ok (.iload_n 2, 1) := by decide +kernel
theorem dX7_addCause_7 : decode cX7_addCause 7 = .ok (.putfield 30, 3) := by decide +kernel
theorem dX7_addCause_10 : decode cX7_addCause 10 = .ok (.aload_n 0, 1) := by decide +kernel
theorem dX7_addCause_11 : decode cX7_addCause 11 = .ok (.iload_n 3, 1) := by decide +kernel
theorem dX7_addCause_12 : decode cX7_addCause 12 = .ok (.putfield 33, 3) := by decide +kernel
theorem dX7_addCause_15 : decode cX7_addCause 15 = .ok (.return_, 1) := by decide +kernel
theorem dX7_drawLots_0 : decode cX7_drawLots 0 = .ok (.iload_n 1, 1) := by decide +kernel
theorem dX7_drawLots_1 : decode cX7_drawLots 1 = .ok (.i2l, 1) := by decide +kernel
theorem dX7_drawLots_2 : decode cX7_drawLots 2 = .ok (.lconst 1, 1) := by decide +kernel
theorem dX7_drawLots_3 : decode cX7_drawLots 3 = .ok (.ladd, 1) := by decide +kernel
theorem dX7_drawLots_4 : decode cX7_drawLots 4 = .ok (.lstore_n 3, 1) := by decide +kernel
theorem dX7_drawLots_5 : decode cX7_drawLots 5 = .ok (.iconst 0, 1) := by decide +kernel
theorem dX7_drawLots_6 : decode cX7_drawLots 6 = .ok (.istore 5, 2) := by decide +kernel
theorem dX7_drawLots_8 : decode cX7_drawLots 8 = .ok (.iload 5, 2) := by decide +kernel
theorem dX7_drawLots_10 : decode cX7_drawLots 10 = .ok (.iconst 5, 1) := by decide +kernel
theorem dX7_drawLots_11 : decode cX7_drawLots 11 = .ok (.if_icmp .ge 32, 3) := by decide +kernel
theorem dX7_drawLots_14 : decode cX7_drawLots 14 = .ok (.lload_n 3, 1) := by decide +kernel
theorem dX7_drawLots_15 : decode cX7_drawLots 15 = .ok (.ldc2_w 43, 3) := by decide +kernel
theorem dX7_drawLots_18 : decode cX7_drawLots 18 = .ok (.lmul, 1) := by decide +kernel
theorem dX7_drawLots_19 : decode cX7_drawLots 19 = .ok (.ldc2_w 45, 3) := by decide +kernel
theorem dX7_drawLots_22 : decode cX7_drawLots 22 = .ok (.lrem, 1) := by decide +kernel
theorem dX7_drawLots_23 : decode cX7_drawLots 23 = .ok (.lstore_n 3, 1) := by decide +kernel
theorem dX7_drawLots_24 : decode cX7_drawLots 24 = .ok (.aload_n 0, 1) := by decide +kernel
theorem dX7_drawLots_25 : decode cX7_drawLots 25 = .ok (.getfield 36, 3) := by decide +kernel
theorem dX7_drawLots_28 : decode cX7_drawLots 28 = .ok (.iload 5, 2) := by decide +kernel
theorem dX7_drawLots_30 : decode cX7_drawLots 30 = .ok (.lload_n 3, 1) := by decide +kernel
theorem dX7_drawLots_31 : decode cX7_drawLots 31 = .ok (.ldc2_w 47, 3) := by decide +kernel
theorem dX7_drawLots_34 : decode cX7_drawLots 34 = .ok (.lrem, 1) := by decide +kernel
theorem dX7_drawLots_35 : decode cX7_drawLots 35 = .ok (.l2i, 1) := by decide +kernel
theorem dX7_drawLots_36 : decode cX7_drawLots 36 = .ok (.iastore, 1) := by decide +kernel
theorem dX7_drawLots_37 : decode cX7_drawLots 37 = .ok (.iinc 5 1, 3) := by decide +kernel
theorem dX7_drawLots_40 : decode cX7_drawLots 40 = .ok (.goto (-32), 3) := by decide +kernel
theorem dX7_drawLots_43 : decode cX7_drawLots 43 = .ok (.aload_n 0, 1) := by decide +kernel
theorem dX7_drawLots_44 : decode cX7_drawLots 44 = .ok (.iload_n 2, 1) := by decide +kernel
theorem dX7_drawLots_45 : decode cX7_drawLots 45 = .ok (.putfield 40, 3) := by decide +kernel
theorem dX7_drawLots_48 : decode cX7_drawLots 48 = .ok (.return_, 1) := by decide +kernel
theorem dX7_isDoing_0 : decode cX7_isDoing 0 = .ok (.iload_n 1, 1) := by decide +kernel
theorem dX7_isDoing_1 : decode cX7_isDoing 1 = .ok (.aload_n 0, 1) := by decide +kernel
theorem dX7_isDoing_2 : decode cX7_isDoing 2 = .ok (.getfield 9, 3) := by decide +kernel
theorem dX7_isDoing_5 : decode cX7_isDoing 5 = .ok (.if_icmp .ne 34, 3) := by decide +kernel
theorem dX7_isDoing_8 : decode cX7_isDoing 8 = .ok (.iload_n 2, 1) := by decide +kernel
theorem dX7_isDoing_9 : decode cX7_isDoing 9 = .ok (.aload_n 0, 1) := by decide +kernel
theorem dX7_isDoing_10 : decode cX7_isDoing 10 = .ok (.getfield 15, 3) := by decide +kernel
theorem dX7_isDoing_13 : decode cX7_isDoing 13 = .ok (.if_icmp .ne 26, 3) := by decide +kernel
theorem dX7_isDoing_16 : decode cX7_isDoing 16 = .ok (.iload_n 3, 1) := by decide +kernel
theorem dX7_isDoing_17 : decode cX7_isDoing 17 = .ok (.aload_n 0, 1) := by decide +kernel
theorem dX7_isDoing_18 : decode cX7_isDoing 18 = .ok (.getfield 18, 3) := by decide +kernel
theorem dX7_isDoing_21 : decode cX7_isDoing 21 = .ok (.if_icmp .lt 18, 3) := by decide +kernel
theorem dX7_isDoing_24 : decode cX7_isDoing 24 = .ok (.iload_n 3, 1) := by decide +kernel
theorem dX7_isDoing_25 : decode cX7_isDoing 25 = .ok (.aload_n 0, 1) := by decide +kernel
theorem dX7_isDoing_26 : decode cX7_isDoing 26 = .ok (.getfield 18, 3) := by decide +kernel
theorem dX7_isDoing_29 : decode cX7_isDoing 29 = .ok (.iload 4, 2) := by decide +kernel
theorem dX7_isDoing_31 : decode cX7_isDoing 31 = .ok (.iadd, 1) := by decide +kernel
theorem dX7_isDoing_32 : decode cX7_isDoing 32 = .ok (.if_icmp .ge 7, 3) := by decide +kernel
theorem dX7_isDoing_35 : decode cX7_isDoing 35 = .ok (.iconst 1, 1) := by decide +kernel
theorem dX7_isDoing_36 : decode cX7_isDoing 36 = .ok (.goto 4, 3) := by decide +kernel
theorem dX7_isDoing_39 : decode cX7_isDoing 39 = .ok (.iconst 0, 1) := by decide +kernel
theorem dX7_isDoing_40 : decode cX7_isDoing 40 = .ok (.ireturn, 1) := by decide +kernel
theorem dX7_hides_0 : decode cX7_hides 0 = .ok (.aload_n 0, 1) := by decide +kernel
theorem dX7_hides_1 : decode cX7_hides 1 = .ok (.iload_n 1, 1) := by decide +kernel
theorem dX7_hides_2 : decode cX7_hides 2 = .ok (.iconst 0, 1) := by decide +kernel
theorem dX7_hides_3 : decode cX7_hides 3 = .ok (.iload_n 2, 1) := by decide +kernel
theorem dX7_hides_4 : decode cX7_hides 4 = .ok (.bipush 10, 2) := by decide +kernel
theorem dX7_hides_6 : decode cX7_hides 6 = .ok (.invokevirtual 49, 3) := by decide +kernel
theorem dX7_hides_9 : decode cX7_hides 9 = .ok (.ireturn, 1) := by decide +kernel
theorem dX7_isBlind_0 : decode cX7_isBlind 0 = .ok (.iload_n 1, 1) := by decide +kernel
theorem dX7_isBlind_1 : decode cX7_isBlind 1 = .ok (.aload_n 0, 1) := by decide +kernel
theorem dX7_isBlind_2 : decode cX7_isBlind 2 = .ok (.getfield 21, 3) := by decide +kernel
theorem dX7_isBlind_5 : decode cX7_isBlind 5 = .ok (.if_icmp .ne 23, 3) := by decide +kernel
theorem dX7_isBlind_8 : decode cX7_isBlind 8 = .ok (.aload_n 0, 1) := by decide +kernel
theorem dX7_isBlind_9 : decode cX7_isBlind 9 = .ok (.getfield 24, 3) := by decide +kernel
theorem dX7_isBlind_12 : decode cX7_isBlind 12 = .ok (.iconst 5, 1) := by decide +kernel
theorem dX7_isBlind_13 : decode cX7_isBlind 13 = .ok (.if_icmp .eq 11, 3) := by decide +kernel
theorem dX7_isBlind_16 : decode cX7_isBlind 16 = .ok (.aload_n 0, 1) := by decide +kernel
theorem dX7_isBlind_17 : decode cX7_isBlind 17 = .ok (.getfield 24, 3) := by decide +kernel
theorem dX7_isBlind_20 : decode cX7_isBlind 20 = .ok (.iload_n 2, 1) := by decide +kernel
theorem dX7_isBlind_21 : decode cX7_isBlind 21 = .ok (.if_icmp .ne 7, 3) := by decide +kernel
theorem dX7_isBlind_24 : decode cX7_isBlind 24 = .ok (.iconst 1, 1) := by decide +kernel
theorem dX7_isBlind_25 : decode cX7_isBlind 25 = .ok (.goto 4, 3) := by decide +kernel
theorem dX7_isBlind_28 : decode cX7_isBlind 28 = .ok (.iconst 0, 1) := by decide +kernel
theorem dX7_isBlind_29 : decode cX7_isBlind 29 = .ok (.ireturn, 1) := by decide +kernel
theorem dX7_warmsSo_0 : decode cX7_warmsSo 0 = .ok (.aload_n 0, 1) := by decide +kernel
theorem dX7_warmsSo_1 : decode cX7_warmsSo 1 = .ok (.iload_n 1, 1) := by decide +kernel
theorem dX7_warmsSo_2 : decode cX7_warmsSo 2 = .ok (.iconst 2, 1) := by decide +kernel
theorem dX7_warmsSo_3 : decode cX7_warmsSo 3 = .ok (.iload_n 2, 1) := by decide +kernel
theorem dX7_warmsSo_4 : decode cX7_warmsSo 4 = .ok (.bipush 40, 2) := by decide +kernel
theorem dX7_warmsSo_6 : decode cX7_warmsSo 6 = .ok (.invokevirtual 49, 3) := by decide +kernel
theorem dX7_warmsSo_9 : decode cX7_warmsSo 9 = .ok (.ifCond .eq 7, 3) := by decide +kernel
theorem dX7_warmsSo_12 : decode cX7_warmsSo 12 = .ok (.iload_n 3, 1) := by decide +kernel
theorem dX7_warmsSo_13 : decode cX7_warmsSo 13 = .ok (.iconst 2, 1) := by decide +kernel
theorem dX7_warmsSo_14 : decode cX7_warmsSo 14 = .ok (.idiv, 1) := by decide +kernel
theorem dX7_warmsSo_15 : decode cX7_warmsSo 15 = .ok (.ireturn, 1) := by decide +kernel
theorem dX7_warmsSo_16 : decode cX7_warmsSo 16 = .ok (.aload_n 0, 1) := by decide +kernel
theorem dX7_warmsSo_17 : decode cX7_warmsSo 17 = .ok (.iload_n 1, 1) := by decide +kernel
theorem dX7_warmsSo_18 : decode cX7_warmsSo 18 = .ok (.iconst 3, 1) := by decide +kernel
theorem dX7_warmsSo_19 : decode cX7_warmsSo 19 = .ok (.iload_n 2, 1) := by decide +kernel
theorem dX7_warmsSo_20 : decode cX7_warmsSo 20 = .ok (.bipush 10, 2) := by decide +kernel
theorem dX7_warmsSo_22 : decode cX7_warmsSo 22 = .ok (.invokevirtual 49, 3) := by decide +kernel
theorem dX7_warmsSo_25 : decode cX7_warmsSo 25 = .ok (.ifCond .eq 16, 3) := by decide +kernel
theorem dX7_warmsSo_28 : decode cX7_warmsSo 28 = .ok (.iconst 0, 1) := by decide +kernel
theorem dX7_warmsSo_29 : decode cX7_warmsSo 29 = .ok (.iload_n 3, 1) := by decide +kernel
theorem dX7_warmsSo_30 : decode cX7_warmsSo 30 = .ok (.iconst 2, 1) := by decide +kernel
theorem dX7_warmsSo_31 : decode cX7_warmsSo 31 = .ok (.iload 4, 2) := by decide +kernel
theorem dX7_warmsSo_33 : decode cX7_warmsSo 33 = .ok (.imul, 1) := by decide +kernel
theorem dX7_warmsSo_34 : decode cX7_warmsSo 34 = .ok (.isub, 1) := by decide +kernel
theorem dX7_warmsSo_35 : decode cX7_warmsSo 35 = .ok (.invokestatic 53, 3) := by decide +kernel
theorem dX7_warmsSo_38 : decode cX7_warmsSo 38 = .ok (.goto 4, 3) := by decide +kernel
theorem dX7_warmsSo_41 : decode cX7_warmsSo 41 = .ok (.iload_n 3, 1) := by decide +kernel
theorem dX7_warmsSo_42 : decode cX7_warmsSo 42 = .ok (.ireturn, 1) := by decide +kernel
theorem dX7_coolsSo_0 : decode cX7_coolsSo 0 = .ok (.aload_n 0, 1) := by decide +kernel
theorem dX7_coolsSo_1 : decode cX7_coolsSo 1 = .ok (.iload_n 1, 1) := by decide +kernel
theorem dX7_coolsSo_2 : decode cX7_coolsSo 2 = .ok (.iconst 1, 1) := by decide +kernel
theorem dX7_coolsSo_3 : decode cX7_coolsSo 3 = .ok (.iload_n 2, 1) := by decide +kernel
theorem dX7_coolsSo_4 : decode cX7_coolsSo 4 = .ok (.iconst 5, 1) := by decide +kernel
theorem dX7_coolsSo_5 : decode cX7_coolsSo 5 = .ok (.invokevirtual 49, 3) := by decide +kernel
theorem dX7_coolsSo_8 : decode cX7_coolsSo 8 = .ok (.ifCond .eq 10, 3) := by decide +kernel
theorem dX7_coolsSo_11 : decode cX7_coolsSo 11 = .ok (.iload_n 3, 1) := by decide +kernel
theorem dX7_coolsSo_12 : decode cX7_coolsSo 12 = .ok (.bipush 15, 2) := by decide +kernel
theorem dX7_coolsSo_14 : decode cX7_coolsSo 14 = .ok (.iadd, 1) := by decide +kernel
theorem dX7_coolsSo_15 : decode cX7_coolsSo 15 = .ok (.goto 4, 3) := by decide +kernel
theorem dX7_coolsSo_18 : decode cX7_coolsSo 18 = .ok (.iload_n 3, 1) := by decide +kernel
theorem dX7_coolsSo_19 : decode cX7_coolsSo 19 = .ok (.ireturn, 1) := by decide +kernel
theorem dX7_causedTo_0 : decode cX7_causedTo 0 = .ok (.iload_n 1, 1) := by decide +kernel
theorem dX7_causedTo_1 : decode cX7_causedTo 1 = .ok (.aload_n 0, 1) := by decide +kernel
theorem dX7_causedTo_2 : decode cX7_causedTo 2 = .ok (.getfield 27, 3) := by decide +kernel
theorem dX7_causedTo_5 : decode cX7_causedTo 5 = .ok (.if_icmp .ne 18, 3) := by decide +kernel
theorem dX7_causedTo_8 : decode cX7_causedTo 8 = .ok (.iload_n 2, 1) := by decide +kernel
theorem dX7_causedTo_9 : decode cX7_causedTo 9 = .ok (.aload_n 0, 1) := by decide +kernel
theorem dX7_causedTo_10 : decode cX7_causedTo 10 = .ok (.getfield 30, 3) := by decide +kernel
theorem dX7_causedTo_13 : decode cX7_causedTo 13 = .ok (.if_icmp .ne 10, 3) := by decide +kernel
theorem dX7_causedTo_16 : decode cX7_causedTo 16 = .ok (.aload_n 0, 1) := by decide +kernel
theorem dX7_causedTo_17 : decode cX7_causedTo 17 = .ok (.getfield 33, 3) := by decide +kernel
theorem dX7_causedTo_20 : decode cX7_causedTo 20 = .ok (.goto 4, 3) := by decide +kernel
theorem dX7_causedTo_23 : decode cX7_causedTo 23 = .ok (.iconst 0, 1) := by decide +kernel
theorem dX7_causedTo_24 : decode cX7_causedTo 24 = .ok (.istore_n 3, 1) := by decide +kernel
theorem dX7_causedTo_25 : decode cX7_causedTo 25 = .ok (.aload_n 0, 1) := by decide +kernel
theorem dX7_causedTo_26 : decode cX7_causedTo 26 = .ok (.iload_n 1, 1) := by decide +kernel
theorem dX7_causedTo_27 : decode cX7_causedTo 27 = .ok (.iconst 2, 1) := by decide +kernel
theorem dX7_causedTo_28 : decode cX7_causedTo 28 = .ok (.iload_n 2, 1) := by decide +kernel
theorem dX7_causedTo_29 : decode cX7_causedTo 29 = .ok (.iconst 1, 1) := by decide +kernel
theorem dX7_causedTo_30 : decode cX7_causedTo 30 = .ok (.invokevirtual 49, 3) := by decide +kernel
theorem dX7_causedTo_33 : decode cX7_causedTo 33 = .ok (.ifCond .eq 10, 3) := by decide +kernel
theorem dX7_causedTo_36 : decode cX7_causedTo 36 = .ok (.iload_n 3, 1) := by decide +kernel
theorem dX7_causedTo_37 : decode cX7_causedTo 37 = .ok (.bipush 30, 2) := by decide +kernel
theorem dX7_causedTo_39 : decode cX7_causedTo 39 = .ok (.iadd, 1) := by decide +kernel
theorem dX7_causedTo_40 : decode cX7_causedTo 40 = .ok (.goto 4, 3) := by decide +kernel
theorem dX7_causedTo_43 : decode cX7_causedTo 43 = .ok (.iload_n 3, 1) := by decide +kernel
theorem dX7_causedTo_44 : decode cX7_causedTo 44 = .ok (.ireturn, 1) := by decide +kernel
theorem dX7_drawnTo_0 : decode cX7_drawnTo 0 = .ok (.iload_n 1, 1) := by decide +kernel
theorem dX7_drawnTo_1 : decode cX7_drawnTo 1 = .ok (.ifCond .lt 25, 3) := by decide +kernel
theorem dX7_drawnTo_4 : decode cX7_drawnTo 4 = .ok (.iload_n 1, 1) := by decide +kernel
theorem dX7_drawnTo_5 : decode cX7_drawnTo 5 = .ok (.iconst 5, 1) := by decide +kernel
theorem dX7_drawnTo_6 : decode cX7_drawnTo 6 = .ok (.if_icmp .ge 20, 3) := by decide +kernel
theorem dX7_drawnTo_9 : decode cX7_drawnTo 9 = .ok (.aload_n 0, 1) := by decide +kernel
theorem dX7_drawnTo_10 : decode cX7_drawnTo 10 = .ok (.getfield 36, 3) := by decide +kernel
theorem dX7_drawnTo_13 : decode cX7_drawnTo 13 = .ok (.iload_n 1, 1) := by decide +kernel
theorem dX7_drawnTo_14 : decode cX7_drawnTo 14 = .ok (.iaload, 1) := by decide +kernel
theorem dX7_drawnTo_15 : decode cX7_drawnTo 15 = .ok (.iload_n 2, 1) := by decide +kernel
theorem dX7_drawnTo_16 : decode cX7_drawnTo 16 = .ok (.if_icmp .ne 10, 3) := by decide +kernel
theorem dX7_drawnTo_19 : decode cX7_drawnTo 19 = .ok (.aload_n 0, 1) := by decide +kernel
theorem dX7_drawnTo_20 : decode cX7_drawnTo 20 = .ok (.getfield 40, 3) := by decide +kernel
theorem dX7_drawnTo_23 : decode cX7_drawnTo 23 = .ok (.goto 4, 3) := by decide +kernel
theorem dX7_drawnTo_26 : decode cX7_drawnTo 26 = .ok (.iconst 0, 1) := by decide +kernel
theorem dX7_drawnTo_27 : decode cX7_drawnTo 27 = .ok (.ireturn, 1) := by decide +kernel
theorem dX8_spelled_0 : decode cX8_spelled 0 = .ok (.iload_n 0, 1) := by decide +kernel
theorem dX8_spelled_1 : decode cX8_spelled 1 = .ok (.tableswitch 99 (-12) (-1) #[96, 93, 90, 87, 84, 81, 78, 75, 72, 69, 66, 63], 63) := by decide +kernel
theorem dX8_spelled_64 : decode cX8_spelled 64 = .ok (.ldc 9, 2) := by decide +kernel
theorem dX8_spelled_66 : decode cX8_spelled 66 = .ok (.areturn, 1) := by decide +kernel
theorem dX8_spelled_67 : decode cX8_spelled 67 = .ok (.ldc 11, 2) := by decide +kernel
theorem dX8_spelled_69 : decode cX8_spelled 69 = .ok (.areturn, 1) := by decide +kernel
theorem dX8_spelled_70 : decode cX8_spelled 70 = .ok (.ldc 13, 2) := by decide +kernel
theorem dX8_spelled_72 : decode cX8_spelled 72 = .ok (.areturn, 1) := by decide +kernel
theorem dX8_spelled_73 : decode cX8_spelled 73 = .ok (.ldc 15, 2) := by decide +kernel
theorem dX8_spelled_75 : decode cX8_spelled 75 = .ok (.areturn, 1) := by decide +kernel
theorem dX8_spelled_76 : decode cX8_spelled 76 = .ok (.ldc 17, 2) := by decide +kernel
theorem dX8_spelled_78 : decode cX8_spelled 78 = .ok (.areturn, 1) := by decide +kernel
theorem dX8_spelled_79 : decode cX8_spelled 79 = .ok (.ldc 19, 2) := by decide +kernel
theorem dX8_spelled_81 : decode cX8_spelled 81 = .ok (.areturn, 1) := by decide +kernel
theorem dX8_spelled_82 : decode cX8_spelled 82 = .ok (.ldc 21, 2) := by decide +kernel
theorem dX8_spelled_84 : decode cX8_spelled 84 = .ok (.areturn, 1) := by decide +kernel
theorem dX8_spelled_85 : decode cX8_spelled 85 = .ok (.ldc 23, 2) := by decide +kernel
theorem dX8_spelled_87 : decode cX8_spelled 87 = .ok (.areturn, 1) := by decide +kernel
theorem dX8_spelled_88 : decode cX8_spelled 88 = .ok (.ldc 25, 2) := by decide +kernel
theorem dX8_spelled_90 : decode cX8_spelled 90 = .ok (.areturn, 1) := by decide +kernel
theorem dX8_spelled_91 : decode cX8_spelled 91 = .ok (.ldc 27, 2) := by decide +kernel
theorem dX8_spelled_93 : decode cX8_spelled 93 = .ok (.areturn, 1) := by decide +kernel
theorem dX8_spelled_94 : decode cX8_spelled 94 = .ok (.ldc 29, 2) := by decide +kernel
theorem dX8_spelled_96 : decode cX8_spelled 96 = .ok (.areturn, 1) := by decide +kernel
theorem dX8_spelled_97 : decode cX8_spelled 97 = .ok (.ldc 31, 2) := by decide +kernel
theorem dX8_spelled_99 : decode cX8_spelled 99 = .ok (.areturn, 1) := by decide +kernel
theorem dX8_spelled_100 : decode cX8_spelled 100 = .ok (.ldc 33, 2) := by decide +kernel
theorem dX8_spelled_102 : decode cX8_spelled 102 = .ok (.areturn, 1) := by decide +kernel
theorem dX8_signOf_0 : decode cX8_signOf 0 = .ok (.iload_n 0, 1) := by decide +kernel
theorem dX8_signOf_1 : decode cX8_signOf 1 = .ok (.tableswitch 127 40 61 #[103, 106, 118, 112, 127, 115, 127, 127, 127, 127, 127, 127, 127, 127, 127, 127, 127, 127, 127, 109, 121, 124], 103) := by decide +kernel
theorem dX8_signOf_104 : decode cX8_signOf 104 = .ok (.bipush (-20), 2) := by decide +kernel
theorem dX8_signOf_106 : decode cX8_signOf 106 = .ok (.ireturn, 1) := by decide +kernel
theorem dX8_signOf_107 : decode cX8_signOf 107 = .ok (.bipush (-21), 2) := by decide +kernel
theorem dX8_signOf_109 : decode cX8_signOf 109 = .ok (.ireturn, 1) := by decide +kernel
theorem dX8_signOf_110 : decode cX8_signOf 110 = .ok (.bipush (-22), 2) := by decide +kernel
theorem dX8_signOf_112 : decode cX8_signOf 112 = .ok (.ireturn, 1) := by decide +kernel
theorem dX8_signOf_113 : decode cX8_signOf 113 = .ok (.bipush (-15), 2) := by decide +kernel
theorem dX8_signOf_115 : decode cX8_signOf 115 = .ok (.ireturn, 1) := by decide +kernel
theorem dX8_signOf_116 : decode cX8_signOf 116 = .ok (.bipush (-16), 2) := by decide +kernel
theorem dX8_signOf_118 : decode cX8_signOf 118 = .ok (.ireturn, 1) := by decide +kernel
theorem dX8_signOf_119 : decode cX8_signOf 119 = .ok (.bipush (-17), 2) := by decide +kernel
theorem dX8_signOf_121 : decode cX8_signOf 121 = .ok (.ireturn, 1) := by decide +kernel
theorem dX8_signOf_122 : decode cX8_signOf 122 = .ok (.bipush (-13), 2) := by decide +kernel
theorem dX8_signOf_124 : decode cX8_signOf 124 = .ok (.ireturn, 1) := by decide +kernel
theorem dX8_signOf_125 : decode cX8_signOf 125 = .ok (.bipush (-14), 2) := by decide +kernel
theorem dX8_signOf_127 : decode cX8_signOf 127 = .ok (.ireturn, 1) := by decide +kernel
theorem dX8_signOf_128 : decode cX8_signOf 128 = .ok (.bipush (-24), 2) := by decide +kernel
theorem dX8_signOf_130 : decode cX8_signOf 130 = .ok (.ireturn, 1) := by decide +kernel
theorem dX8_keyOf_0 : decode cX8_keyOf 0 = .ok (.iload_n 0, 1) := by decide +kernel
theorem dX8_keyOf_1 : decode cX8_keyOf 1 = .ok (.ifCond .ne 8, 3) := by decide +kernel
theorem dX8_keyOf_4 : decode cX8_keyOf 4 = .ok (.bipush (-10), 2) := by decide +kernel
theorem dX8_keyOf_6 : decode cX8_keyOf 6 = .ok (.goto 15, 3) := by decide +kernel
theorem dX8_keyOf_9 : decode cX8_keyOf 9 = .ok (.iload_n 0, 1) := by decide +kernel
theorem dX8_keyOf_10 : decode cX8_keyOf 10 = .ok (.iconst 1, 1) := by decide +kernel
theorem dX8_keyOf_11 : decode cX8_keyOf 11 = .ok (.if_icmp .ne 8, 3) := by decide +kernel
theorem dX8_keyOf_14 : decode cX8_keyOf 14 = .ok (.bipush (-11), 2) := by decide +kernel
theorem dX8_keyOf_16 : decode cX8_keyOf 16 = .ok (.goto 5, 3) := by decide +kernel
theorem dX8_keyOf_19 : decode cX8_keyOf 19 = .ok (.bipush (-12), 2) := by decide +kernel
theorem dX8_keyOf_21 : decode cX8_keyOf 21 = .ok (.ireturn, 1) := by decide +kernel
theorem dX8_isName_0 : decode cX8_isName 0 = .ok (.iload_n 0, 1) := by decide +kernel
theorem dX8_isName_1 : decode cX8_isName 1 = .ok (.ifCond .ge 13, 3) := by decide +kernel
theorem dX8_isName_4 : decode cX8_isName 4 = .ok (.iload_n 0, 1) := by decide +kernel
theorem dX8_isName_5 : decode cX8_isName 5 = .ok (.bipush (-6), 2) := by decide +kernel
theorem dX8_isName_7 : decode cX8_isName 7 = .ok (.if_icmp .lt 7, 3) := by decide +kernel
theorem dX8_isName_10 : decode cX8_isName 10 = .ok (.iconst 1, 1) := by decide +kernel
theorem dX8_isName_11 : decode cX8_isName 11 = .ok (.goto 4, 3) := by decide +kernel
theorem dX8_isName_14 : decode cX8_isName 14 = .ok (.iconst 0, 1) := by decide +kernel
theorem dX8_isName_15 : decode cX8_isName 15 = .ok (.ireturn, 1) := by decide +kernel
theorem dX8_isLetter_0 : decode cX8_isLetter 0 = .ok (.iload_n 0, 1) := by decide +kernel
theorem dX8_isLetter_1 : decode cX8_isLetter 1 = .ok (.bipush 97, 2) := by decide +kernel
theorem dX8_isLetter_3 : decode cX8_isLetter 3 = .ok (.if_icmp .lt 13, 3) := by decide +kernel
theorem dX8_isLetter_6 : decode cX8_isLetter 6 = .ok (.iload_n 0, 1) := by decide +kernel
theorem dX8_isLetter_7 : decode cX8_isLetter 7 = .ok (.bipush 122, 2) := by decide +kernel
theorem dX8_isLetter_9 : decode cX8_isLetter 9 = .ok (.if_icmp .gt 7, 3) := by decide +kernel
theorem dX8_isLetter_12 : decode cX8_isLetter 12 = .ok (.iconst 1, 1) := by decide +kernel
theorem dX8_isLetter_13 : decode cX8_isLetter 13 = .ok (.goto 4, 3) := by decide +kernel
theorem dX8_isLetter_16 : decode cX8_isLetter 16 = .ok (.iconst 0, 1) := by decide +kernel
theorem dX8_isLetter_17 : decode cX8_isLetter 17 = .ok (.ireturn, 1) := by decide +kernel
theorem dX8_isDigit_0 : decode cX8_isDigit 0 = .ok (.iload_n 0, 1) := by decide +kernel
theorem dX8_isDigit_1 : decode cX8_isDigit 1 = .ok (.bipush 48, 2) := by decide +kernel
theorem dX8_isDigit_3 : decode cX8_isDigit 3 = .ok (.if_icmp .lt 13, 3) := by decide +kernel
theorem dX8_isDigit_6 : decode cX8_isDigit 6 = .ok (.iload_n 0, 1) := by decide +kernel
theorem dX8_isDigit_7 : decode cX8_isDigit 7 = .ok (.bipush 57, 2) := by decide +kernel
theorem dX8_isDigit_9 : decode cX8_isDigit 9 = .ok (.if_icmp .gt 7, 3) := by decide +kernel
theorem dX8_isDigit_12 : decode cX8_isDigit 12 = .ok (.iconst 1, 1) := by decide +kernel
theorem dX8_isDigit_13 : decode cX8_isDigit 13 = .ok (.goto 4, 3) := by decide +kernel
theorem dX8_isDigit_16 : decode cX8_isDigit 16 = .ok (.iconst 0, 1) := by decide +kernel
theorem dX8_isDigit_17 : decode cX8_isDigit 17 = .ok (.ireturn, 1) := by decide +kernel
theorem dX8_isBlank_0 : decode cX8_isBlank 0 = .ok (.iload_n 0, 1) := by decide +kernel
theorem dX8_isBlank_1 : decode cX8_isBlank 1 = .ok (.bipush 32, 2) := by decide +kernel
theorem dX8_isBlank_3 : decode cX8_isBlank 3 = .ok (.if_icmp .eq 9, 3) := by decide +kernel
theorem dX8_isBlank_6 : decode cX8_isBlank 6 = .ok (.iload_n 0, 1) := by decide +kernel
theorem dX8_isBlank_7 : decode cX8_isBlank 7 = .ok (.bipush 10, 2) := by decide +kernel
theorem dX8_isBlank_9 : decode cX8_isBlank 9 = .ok (.if_icmp .ne 7, 3) := by decide +kernel
theorem dX8_isBlank_12 : decode cX8_isBlank 12 = .ok (.iconst 1, 1) := by decide +kernel
theorem dX8_isBlank_13 : decode cX8_isBlank 13 = .ok (.goto 4, 3) := by decide +kernel
theorem dX8_isBlank_16 : decode cX8_isBlank 16 = .ok (.iconst 0, 1) := by decide +kernel
theorem dX8_isBlank_17 : decode cX8_isBlank 17 = .ok (.ireturn, 1) := by decide +kernel
theorem dJ6_bitCount_0f7a4_0 : decode cJ6_bitCount_0f7a4 0 = .ok (.iload_n 0, 1) := by decide +kernel
theorem dJ6_bitCount_0f7a4_1 : decode cJ6_bitCount_0f7a4 1 = .ok (.iload_n 0, 1) := by decide +kernel
theorem dJ6_bitCount_0f7a4_2 : decode cJ6_bitCount_0f7a4 2 = .ok (.iconst 1, 1) := by decide +kernel
theorem dJ6_bitCount_0f7a4_3 : decode cJ6_bitCount_0f7a4 3 = .ok (.iushr, 1) := by decide +kernel
theorem dJ6_bitCount_0f7a4_4 : decode cJ6_bitCount_0f7a4 4 = .ok (.ldc_w 265, 3) := by decide +kernel
theorem dJ6_bitCount_0f7a4_7 : decode cJ6_bitCount_0f7a4 7 = .ok (.iand, 1) := by decide +kernel
theorem dJ6_bitCount_0f7a4_8 : decode cJ6_bitCount_0f7a4 8 = .ok (.isub, 1) := by decide +kernel
theorem dJ6_bitCount_0f7a4_9 : decode cJ6_bitCount_0f7a4 9 = .ok (.istore_n 0, 1) := by decide +kernel
theorem dJ6_bitCount_0f7a4_10 : decode cJ6_bitCount_0f7a4 10 = .ok (.iload_n 0, 1) := by decide +kernel
theorem dJ6_bitCount_0f7a4_11 : decode cJ6_bitCount_0f7a4 11 = .ok (.ldc_w 266, 3) := by decide +kernel
theorem dJ6_bitCount_0f7a4_14 : decode cJ6_bitCount_0f7a4 14 = .ok (.iand, 1) := by decide +kernel
theorem dJ6_bitCount_0f7a4_15 : decode cJ6_bitCount_0f7a4 15 = .ok (.iload_n 0, 1) := by decide +kernel
theorem dJ6_bitCount_0f7a4_16 : decode cJ6_bitCount_0f7a4 16 = .ok (.iconst 2, 1) := by decide +kernel
theorem dJ6_bitCount_0f7a4_17 : decode cJ6_bitCount_0f7a4 17 = .ok (.iushr, 1) := by decide +kernel
theorem dJ6_bitCount_0f7a4_18 : decode cJ6_bitCount_0f7a4 18 = .ok (.ldc_w 266, 3) := by decide +kernel
theorem dJ6_bitCount_0f7a4_21 : decode cJ6_bitCount_0f7a4 21 = .ok (.iand, 1) := by decide +kernel
theorem dJ6_bitCount_0f7a4_22 : decode cJ6_bitCount_0f7a4 22 = .ok (.iadd, 1) := by decide +kernel
theorem dJ6_bitCount_0f7a4_23 : decode cJ6_bitCount_0f7a4 23 = .ok (.istore_n 0, 1) := by decide +kernel
theorem dJ6_bitCount_0f7a4_24 : decode cJ6_bitCount_0f7a4 24 = .ok (.iload_n 0, 1) := by decide +kernel
theorem dJ6_bitCount_0f7a4_25 : decode cJ6_bitCount_0f7a4 25 = .ok (.iload_n 0, 1) := by decide +kernel
theorem dJ6_bitCount_0f7a4_26 : decode cJ6_bitCount_0f7a4 26 = .ok (.iconst 4, 1) := by decide +kernel
theorem dJ6_bitCount_0f7a4_27 : decode cJ6_bitCount_0f7a4 27 = .ok (.iushr, 1) := by decide +kernel
theorem dJ6_bitCount_0f7a4_28 : decode cJ6_bitCount_0f7a4 28 = .ok (.iadd, 1) := by decide +kernel
theorem dJ6_bitCount_0f7a4_29 : decode cJ6_bitCount_0f7a4 29 = .ok (.ldc_w 267, 3) := by decide +kernel
theorem dJ6_bitCount_0f7a4_32 : decode cJ6_bitCount_0f7a4 32 = .ok (.iand, 1) := by decide +kernel
theorem dJ6_bitCount_0f7a4_33 : decode cJ6_bitCount_0f7a4 33 = .ok (.istore_n 0, 1) := by decide +kernel
theorem dJ6_bitCount_0f7a4_34 : decode cJ6_bitCount_0f7a4 34 = .ok (.iload_n 0, 1) := by decide +kernel
theorem dJ6_bitCount_0f7a4_35 : decode cJ6_bitCount_0f7a4 35 = .ok (.iload_n 0, 1) := by decide +kernel
theorem dJ6_bitCount_0f7a4_36 : decode cJ6_bitCount_0f7a4 36 = .ok (.bipush 8, 2) := by decide +kernel
theorem dJ6_bitCount_0f7a4_38 : decode cJ6_bitCount_0f7a4 38 = .ok (.iushr, 1) := by decide +kernel
theorem dJ6_bitCount_0f7a4_39 : decode cJ6_bitCount_0f7a4 39 = .ok (.iadd, 1) := by decide +kernel
theorem dJ6_bitCount_0f7a4_40 : decode cJ6_bitCount_0f7a4 40 = .ok (.istore_n 0, 1) := by decide +kernel
theorem dJ6_bitCount_0f7a4_41 : decode cJ6_bitCount_0f7a4 41 = .ok (.iload_n 0, 1) := by decide +kernel
theorem dJ6_bitCount_0f7a4_42 : decode cJ6_bitCount_0f7a4 42 = .ok (.iload_n 0, 1) := by decide +kernel
theorem dJ6_bitCount_0f7a4_43 : decode cJ6_bitCount_0f7a4 43 = .ok (.bipush 16, 2) := by decide +kernel
theorem dJ6_bitCount_0f7a4_45 : decode cJ6_bitCount_0f7a4 45 = .ok (.iushr, 1) := by decide +kernel
theorem dJ6_bitCount_0f7a4_46 : decode cJ6_bitCount_0f7a4 46 = .ok (.iadd, 1) := by decide +kernel
theorem dJ6_bitCount_0f7a4_47 : decode cJ6_bitCount_0f7a4 47 = .ok (.istore_n 0, 1) := by decide +kernel
theorem dJ6_bitCount_0f7a4_48 : decode cJ6_bitCount_0f7a4 48 = .ok (.iload_n 0, 1) := by decide +kernel
theorem dJ6_bitCount_0f7a4_49 : decode cJ6_bitCount_0f7a4 49 = .ok (.bipush 63, 2) := by decide +kernel
theorem dJ6_bitCount_0f7a4_51 : decode cJ6_bitCount_0f7a4 51 = .ok (.iand, 1) := by decide +kernel
theorem dJ6_bitCount_0f7a4_52 : decode cJ6_bitCount_0f7a4 52 = .ok (.ireturn, 1) := by decide +kernel
theorem dJ9_max_7cf53_0 : decode cJ9_max_7cf53 0 = .ok (.iload_n 0, 1) := by decide +kernel
theorem dJ9_max_7cf53_1 : decode cJ9_max_7cf53 1 = .ok (.iload_n 1, 1) := by decide +kernel
theorem dJ9_max_7cf53_2 : decode cJ9_max_7cf53 2 = .ok (.if_icmp .lt 7, 3) := by decide +kernel
theorem dJ9_max_7cf53_5 : decode cJ9_max_7cf53 5 = .ok (.iload_n 0, 1) := by decide +kernel
theorem dJ9_max_7cf53_6 : decode cJ9_max_7cf53 6 = .ok (.goto 4, 3) := by decide +kernel
theorem dJ9_max_7cf53_9 : decode cJ9_max_7cf53 9 = .ok (.iload_n 1, 1) := by decide +kernel
theorem dJ9_max_7cf53_10 : decode cJ9_max_7cf53 10 = .ok (.ireturn, 1) := by decide +kernel
theorem dJ9_min_7cf53_0 : decode cJ9_min_7cf53 0 = .ok (.iload_n 0, 1) := by decide +kernel
theorem dJ9_min_7cf53_1 : decode cJ9_min_7cf53 1 = .ok (.iload_n 1, 1) := by decide +kernel
theorem dJ9_min_7cf53_2 : decode cJ9_min_7cf53 2 = .ok (.if_icmp .gt 7, 3) := by decide +kernel
theorem dJ9_min_7cf53_5 : decode cJ9_min_7cf53 5 = .ok (.iload_n 0, 1) := by decide +kernel
theorem dJ9_min_7cf53_6 : decode cJ9_min_7cf53 6 = .ok (.goto 4, 3) := by decide +kernel
theorem dJ9_min_7cf53_9 : decode cJ9_min_7cf53 9 = .ok (.iload_n 1, 1) := by decide +kernel
theorem dJ9_min_7cf53_10 : decode cJ9_min_7cf53 10 = .ok (.ireturn, 1) := by decide +kernel
theorem dJ0_length_8abf5_0 : decode cJ0_length_8abf5 0 = .ok (.aload_n 0, 1) := by decide +kernel
theorem dJ0_length_8abf5_1 : decode cJ0_length_8abf5 1 = .ok (.getfield 9, 3) := by decide +kernel
theorem dJ0_length_8abf5_4 : decode cJ0_length_8abf5 4 = .ok (.arraylength, 1) := by decide +kernel
theorem dJ0_length_8abf5_5 : decode cJ0_length_8abf5 5 = .ok (.aload_n 0, 1) := by decide +kernel
theorem dJ0_length_8abf5_6 : decode cJ0_length_8abf5 6 = .ok (.invokevirtual 335, 3) := by decide +kernel
theorem dJ0_length_8abf5_9 : decode cJ0_length_8abf5 9 = .ok (.ishr, 1) := by decide +kernel
theorem dJ0_length_8abf5_10 : decode cJ0_length_8abf5 10 = .ok (.ireturn, 1) := by decide +kernel
theorem dJ0_charAt_5068e_0 : decode cJ0_charAt_5068e 0 = .ok (.aload_n 0, 1) := by decide +kernel
theorem dJ0_charAt_5068e_1 : decode cJ0_charAt_5068e 1 = .ok (.invokevirtual 492, 3) := by decide +kernel
theorem dJ0_charAt_5068e_4 : decode cJ0_charAt_5068e 4 = .ok (.ifCond .eq 12, 3) := by decide +kernel
theorem dJ0_charAt_5068e_7 : decode cJ0_charAt_5068e 7 = .ok (.aload_n 0, 1) := by decide +kernel
theorem dJ0_charAt_5068e_8 : decode cJ0_charAt_5068e 8 = .ok (.getfield 9, 3) := by decide +kernel
theorem dJ0_charAt_5068e_11 : decode cJ0_charAt_5068e 11 = .ok (.iload_n 1, 1) := by decide +kernel
theorem dJ0_charAt_5068e_12 : decode cJ0_charAt_5068e 12 = .ok (.invokestatic 495, 3) := by decide +kernel
theorem dJ0_charAt_5068e_15 : decode cJ0_charAt_5068e 15 = .ok (.ireturn, 1) := by decide +kernel
theorem dJ0_charAt_5068e_16 : decode cJ0_charAt_5068e 16 = .ok (.aload_n 0, 1) := by decide +kernel
theorem dJ0_charAt_5068e_17 : decode cJ0_charAt_5068e 17 = .ok (.getfield 9, 3) := by decide +kernel
theorem dJ0_charAt_5068e_20 : decode cJ0_charAt_5068e 20 = .ok (.iload_n 1, 1) := by decide +kernel
theorem dJ0_charAt_5068e_21 : decode cJ0_charAt_5068e 21 = .ok (.invokestatic 498, 3) := by decide +kernel
theorem dJ0_charAt_5068e_24 : decode cJ0_charAt_5068e 24 = .ok (.ireturn, 1) := by decide +kernel
theorem dJ0_coder_7d493_0 : decode cJ0_coder_7d493 0 = .ok (.getstatic 38, 3) := by decide +kernel
theorem dJ0_coder_7d493_3 : decode cJ0_coder_7d493 3 = .ok (.ifCond .eq 10, 3) := by decide +kernel
theorem dJ0_coder_7d493_6 : decode cJ0_coder_7d493 6 = .ok (.aload_n 0, 1) := by decide +kernel
theorem dJ0_coder_7d493_7 : decode cJ0_coder_7d493 7 = .ok (.getfield 15, 3) := by decide +kernel
theorem dJ0_coder_7d493_10 : decode cJ0_coder_7d493 10 = .ok (.goto 4, 3) := by decide +kernel
theorem dJ0_coder_7d493_13 : decode cJ0_coder_7d493 13 = .ok (.iconst 1, 1) := by decide +kernel
theorem dJ0_coder_7d493_14 : decode cJ0_coder_7d493 14 = .ok (.ireturn, 1) := by decide +kernel
theorem dJ0_isLatin1_aae02_0 : decode cJ0_isLatin1_aae02 0 = .ok (.getstatic 38, 3) := by decide +kernel
theorem dJ0_isLatin1_aae02_3 : decode cJ0_isLatin1_aae02 3 = .ok (.ifCond .eq 14, 3) := by decide +kernel
theorem dJ0_isLatin1_aae02_6 : decode cJ0_isLatin1_aae02 6 = .ok (.aload_n 0, 1) := by decide +kernel
theorem dJ0_isLatin1_aae02_7 : decode cJ0_isLatin1_aae02 7 = .ok (.getfield 15, 3) := by decide +kernel
theorem dJ0_isLatin1_aae02_10 : decode cJ0_isLatin1_aae02 10 = .ok (.ifCond .ne 7, 3) := by decide +kernel
theorem dJ0_isLatin1_aae02_13 : decode cJ0_isLatin1_aae02 13 = .ok (.iconst 1, 1) := by decide +kernel
theorem dJ0_isLatin1_aae02_14 : decode cJ0_isLatin1_aae02 14 = .ok (.goto 4, 3) := by decide +kernel
theorem dJ0_isLatin1_aae02_17 : decode cJ0_isLatin1_aae02 17 = .ok (.iconst 0, 1) := by decide +kernel
theorem dJ0_isLatin1_aae02_18 : decode cJ0_isLatin1_aae02 18 = .ok (.ireturn, 1) := by decide +kernel
theorem dJ0_checkIndex_df160_0 : decode cJ0_checkIndex_df160 0 = .ok (.iload_n 0, 1) := by decide +kernel
theorem dJ0_checkIndex_df160_1 : decode cJ0_checkIndex_df160 1 = .ok (.iload_n 1, 1) := by decide +kernel
theorem dJ0_checkIndex_df160_2 : decode cJ0_checkIndex_df160 2 = .ok (.getstatic 1053, 3) := by decide +kernel
theorem dJ0_checkIndex_df160_5 : decode cJ0_checkIndex_df160 5 = .ok (.invokestatic 1059, 3) := by decide +kernel
theorem dJ0_checkIndex_df160_8 : decode cJ0_checkIndex_df160 8 = .ok (.pop, 1) := by decide +kernel
theorem dJ0_checkIndex_df160_9 : decode cJ0_checkIndex_df160 9 = .ok (.return_, 1) := by decide +kernel
theorem dJ1_charAt_3b067_0 : decode cJ1_charAt_3b067 0 = .ok (.iload_n 1, 1) := by decide +kernel
theorem dJ1_charAt_3b067_1 : decode cJ1_charAt_3b067 1 = .ok (.aload_n 0, 1) := by decide +kernel
theorem dJ1_charAt_3b067_2 : decode cJ1_charAt_3b067 2 = .ok (.arraylength, 1) := by decide +kernel
theorem dJ1_charAt_3b067_3 : decode cJ1_charAt_3b067 3 = .ok (.invokestatic 9, 3) := by decide +kernel
theorem dJ1_charAt_3b067_6 : decode cJ1_charAt_3b067 6 = .ok (.aload_n 0, 1) := by decide +kernel
theorem dJ1_charAt_3b067_7 : decode cJ1_charAt_3b067 7 = .ok (.iload_n 1, 1) := by decide +kernel
theorem dJ1_charAt_3b067_8 : decode cJ1_charAt_3b067 8 = .ok (.baload, 1) := by decide +kernel
theorem dJ1_charAt_3b067_9 : decode cJ1_charAt_3b067 9 = .ok (.sipush 255, 3) := by decide +kernel
theorem dJ1_charAt_3b067_12 : decode cJ1_charAt_3b067 12 = .ok (.iand, 1) := by decide +kernel
theorem dJ1_charAt_3b067_13 : decode cJ1_charAt_3b067 13 = .ok (.i2c, 1) := by decide +kernel
theorem dJ1_charAt_3b067_14 : decode cJ1_charAt_3b067 14 = .ok (.ireturn, 1) := by decide +kernel
theorem dJ2_getChar_3b067_0 : decode cJ2_getChar_3b067 0 = .ok (.getstatic 44, 3) := by decide +kernel
theorem dJ2_getChar_3b067_3 : decode cJ2_getChar_3b067 3 = .ok (.ifCond .ne 25, 3) := by decide +kernel
theorem dJ2_getChar_3b067_6 : decode cJ2_getChar_3b067 6 = .ok (.iload_n 1, 1) := by decide +kernel
theorem dJ2_getChar_3b067_7 : decode cJ2_getChar_3b067 7 = .ok (.ifCond .lt 11, 3) := by decide +kernel
theorem dJ2_getChar_3b067_10 : decode cJ2_getChar_3b067 10 = .ok (.iload_n 1, 1) := by decide +kernel
theorem dJ2_getChar_3b067_11 : decode cJ2_getChar_3b067 11 = .ok (.aload_n 0, 1) := by decide +kernel
theorem dJ2_getChar_3b067_12 : decode cJ2_getChar_3b067 12 = .ok (.invokestatic 48, 3) := by decide +kernel
theorem dJ2_getChar_3b067_15 : decode cJ2_getChar_3b067 15 = .ok (.if_icmp .lt 13, 3) := by decide +kernel
theorem dJ2_getChar_3b067_18 : decode cJ2_getChar_3b067 18 = .ok (.new 52, 3) := by decide +kernel
theorem dJ2_getChar_3b067_21 : decode cJ2_getChar_3b067 21 = .ok (.dup, 1) := by decide +kernel
theorem dJ2_getChar_3b067_22 : decode cJ2_getChar_3b067 22 = .ok (.ldc 54, 2) := by decide +kernel
theorem dJ2_getChar_3b067_24 : decode cJ2_getChar_3b067 24 = .ok (.invokespecial 56, 3) := by decide +kernel
theorem dJ2_getChar_3b067_27 : decode cJ2_getChar_3b067 27 = .ok (.athrow, 1) := by decide +kernel
theorem dJ2_getChar_3b067_28 : decode cJ2_getChar_3b067 28 = .ok (.iload_n 1, 1) := by decide +kernel
theorem dJ2_getChar_3b067_29 : decode cJ2_getChar_3b067 29 = .ok (.iconst 1, 1) := by decide +kernel
theorem dJ2_getChar_3b067_30 : decode cJ2_getChar_3b067 30 = .ok (.ishl, 1) := by decide +kernel
theorem dJ2_getChar_3b067_31 : decode cJ2_getChar_3b067 31 = .ok (.istore_n 1, 1) := by decide +kernel
theorem dJ2_getChar_3b067_32 : decode cJ2_getChar_3b067 32 = .ok (.aload_n 0, 1) := by decide +kernel
theorem dJ2_getChar_3b067_33 : decode cJ2_getChar_3b067 33 = .ok (.iload_n 1, 1) := by decide +kernel
theorem dJ2_getChar_3b067_34 : decode cJ2_getChar_3b067 34 = .ok (.iinc 1 1, 3) := by decide +kernel
theorem dJ2_getChar_3b067_37 : decode cJ2_getChar_3b067 37 = .ok (.baload, 1) := by decide +kernel
theorem dJ2_getChar_3b067_38 : decode cJ2_getChar_3b067 38 = .ok (.sipush 255, 3) := by decide +kernel
theorem dJ2_getChar_3b067_41 : decode cJ2_getChar_3b067 41 = .ok (.iand, 1) := by decide +kernel
theorem dJ2_getChar_3b067_42 : decode cJ2_getChar_3b067 42 = .ok (.getstatic 59, 3) := by decide +kernel
theorem dJ2_getChar_3b067_45 : decode cJ2_getChar_3b067 45 = .ok (.ishl, 1) := by decide +kernel
theorem dJ2_getChar_3b067_46 : decode cJ2_getChar_3b067 46 = .ok (.aload_n 0, 1) := by decide +kernel
theorem dJ2_getChar_3b067_47 : decode cJ2_getChar_3b067 47 = .ok (.iload_n 1, 1) := by decide +kernel
theorem dJ2_getChar_3b067_48 : decode cJ2_getChar_3b067 48 = .ok (.baload, 1) := by decide +kernel
theorem dJ2_getChar_3b067_49 : decode cJ2_getChar_3b067 49 = .ok (.sipush 255, 3) := by decide +kernel
theorem dJ2_getChar_3b067_52 : decode cJ2_getChar_3b067 52 = .ok (.iand, 1) := by decide +kernel
theorem dJ2_getChar_3b067_53 : decode cJ2_getChar_3b067 53 = .ok (.getstatic 63, 3) := by decide +kernel
theorem dJ2_getChar_3b067_56 : decode cJ2_getChar_3b067 56 = .ok (.ishl, 1) := by decide +kernel
theorem dJ2_getChar_3b067_57 : decode cJ2_getChar_3b067 57 = .ok (.ior, 1) := by decide +kernel
theorem dJ2_getChar_3b067_58 : decode cJ2_getChar_3b067 58 = .ok (.i2c, 1) := by decide +kernel
theorem dJ2_getChar_3b067_59 : decode cJ2_getChar_3b067 59 = .ok (.ireturn, 1) := by decide +kernel
theorem dJ2_length_9d52b_0 : decode cJ2_length_9d52b 0 = .ok (.aload_n 0, 1) := by decide +kernel
theorem dJ2_length_9d52b_1 : decode cJ2_length_9d52b 1 = .ok (.arraylength, 1) := by decide +kernel
theorem dJ2_length_9d52b_2 : decode cJ2_length_9d52b 2 = .ok (.iconst 1, 1) := by decide +kernel
theorem dJ2_length_9d52b_3 : decode cJ2_length_9d52b 3 = .ok (.ishr, 1) := by decide +kernel
theorem dJ2_length_9d52b_4 : decode cJ2_length_9d52b 4 = .ok (.ireturn, 1) := by decide +kernel
theorem dJ2_charAt_3b067_0 : decode cJ2_charAt_3b067 0 = .ok (.iload_n 1, 1) := by decide +kernel
theorem dJ2_charAt_3b067_1 : decode cJ2_charAt_3b067 1 = .ok (.aload_n 0, 1) := by decide +kernel
theorem dJ2_charAt_3b067_2 : decode cJ2_charAt_3b067 2 = .ok (.invokestatic 67, 3) := by decide +kernel
theorem dJ2_charAt_3b067_5 : decode cJ2_charAt_3b067 5 = .ok (.aload_n 0, 1) := by decide +kernel
theorem dJ2_charAt_3b067_6 : decode cJ2_charAt_3b067 6 = .ok (.iload_n 1, 1) := by decide +kernel
theorem dJ2_charAt_3b067_7 : decode cJ2_charAt_3b067 7 = .ok (.invokestatic 71, 3) := by decide +kernel
theorem dJ2_charAt_3b067_10 : decode cJ2_charAt_3b067 10 = .ok (.ireturn, 1) := by decide +kernel
theorem dJ2_checkIndex_2214a_0 : decode cJ2_checkIndex_2214a 0 = .ok (.iload_n 0, 1) := by decide +kernel
theorem dJ2_checkIndex_2214a_1 : decode cJ2_checkIndex_2214a 1 = .ok (.aload_n 1, 1) := by decide +kernel
theorem dJ2_checkIndex_2214a_2 : decode cJ2_checkIndex_2214a 2 = .ok (.invokestatic 48, 3) := by decide +kernel
theorem dJ2_checkIndex_2214a_5 : decode cJ2_checkIndex_2214a 5 = .ok (.invokestatic 414, 3) := by decide +kernel
theorem dJ2_checkIndex_2214a_8 : decode cJ2_checkIndex_2214a 8 = .ok (.return_, 1) := by decide +kernel
theorem dJ3_checkIndex_8e157_0 : decode cJ3_checkIndex_8e157 0 = .ok (.iload_n 0, 1) := by decide +kernel
theorem dJ3_checkIndex_8e157_1 : decode cJ3_checkIndex_8e157 1 = .ok (.ifCond .lt 8, 3) := by decide +kernel
theorem dJ3_checkIndex_8e157_4 : decode cJ3_checkIndex_8e157 4 = .ok (.iload_n 0, 1) := by decide +kernel
theorem dJ3_checkIndex_8e157_5 : decode cJ3_checkIndex_8e157 5 = .ok (.iload_n 1, 1) := by decide +kernel
theorem dJ3_checkIndex_8e157_6 : decode cJ3_checkIndex_8e157 6 = .ok (.if_icmp .lt 10, 3) := by decide +kernel
theorem dJ3_checkIndex_8e157_9 : decode cJ3_checkIndex_8e157 9 = .ok (.aload_n 2, 1) := by decide +kernel
theorem dJ3_checkIndex_8e157_10 : decode cJ3_checkIndex_8e157 10 = .ok (.iload_n 0, 1) := by decide +kernel
theorem dJ3_checkIndex_8e157_11 : decode cJ3_checkIndex_8e157 11 = .ok (.iload_n 1, 1) := by decide +kernel
theorem dJ3_checkIndex_8e157_12 : decode cJ3_checkIndex_8e157 12 = .ok (.invokestatic 95, 3) := by decide +kernel
theorem dJ3_checkIndex_8e157_15 : decode cJ3_checkIndex_8e157 15 = .ok (.athrow, 1) := by decide +kernel
theorem dJ3_checkIndex_8e157_16 : decode cJ3_checkIndex_8e157 16 = .ok (.iload_n 0, 1) := by decide +kernel
theorem dJ3_checkIndex_8e157_17 : decode cJ3_checkIndex_8e157 17 = .ok (.ireturn, 1) := by decide +kernel
theorem dX9_init_0 : decode cX9_init 0 = .ok (.aload_n 0, 1) := by decide +kernel
theorem dX9_init_1 : decode cX9_init 1 = .ok (.invokespecial 1, 3) := by decide +kernel
theorem dX9_init_4 : decode cX9_init 4 = .ok (.aload_n 0, 1) := by decide +kernel
theorem dX9_init_5 : decode cX9_init 5 = .ok (.new 7, 3) := by decide +kernel
theorem dX9_init_8 : decode cX9_init 8 = .ok (.dup, 1) := by decide +kernel
theorem dX9_init_9 : decode cX9_init 9 = .ok (.invokespecial 9, 3) := by decide +kernel
theorem dX9_init_12 : decode cX9_init 12 = .ok (.putfield 10, 3) := by decide +kernel
theorem dX9_init_15 : decode cX9_init 15 = .ok (.aload_n 0, 1) := by decide +kernel
theorem dX9_init_16 : decode cX9_init 16 = .ok (.new 16, 3) := by decide +kernel
theorem dX9_init_19 : decode cX9_init 19 = .ok (.dup, 1) := by decide +kernel
theorem dX9_init_20 : decode cX9_init 20 = .ok (.aload_n 0, 1) := by decide +kernel
theorem dX9_init_21 : decode cX9_init 21 = .ok (.getfield 10, 3) := by decide +kernel
theorem dX9_init_24 : decode cX9_init 24 = .ok (.invokespecial 18, 3) := by decide +kernel
theorem dX9_init_27 : decode cX9_init 27 = .ok (.putfield 21, 3) := by decide +kernel
theorem dX9_init_30 : decode cX9_init 30 = .ok (.aload_n 0, 1) := by decide +kernel
theorem dX9_init_31 : decode cX9_init 31 = .ok (.new 25, 3) := by decide +kernel
theorem dX9_init_34 : decode cX9_init 34 = .ok (.dup, 1) := by decide +kernel
theorem dX9_init_35 : decode cX9_init 35 = .ok (.invokespecial 27, 3) := by decide +kernel
theorem dX9_init_38 : decode cX9_init 38 = .ok (.putfield 28, 3) := by decide +kernel
theorem dX9_init_41 : decode cX9_init 41 = .ok (.aload_n 0, 1) := by decide +kernel
theorem dX9_init_42 : decode cX9_init 42 = .ok (.new 32, 3) := by decide +kernel
theorem dX9_init_45 : decode cX9_init 45 = .ok (.dup, 1) := by decide +kernel
theorem dX9_init_46 : decode cX9_init 46 = .ok (.aload_n 0, 1) := by decide +kernel
theorem dX9_init_47 : decode cX9_init 47 = .ok (.getfield 10, 3) := by decide +kernel
theorem dX9_init_50 : decode cX9_init 50 = .ok (.aload_n 0, 1) := by decide +kernel
theorem dX9_init_51 : decode cX9_init 51 = .ok (.getfield 28, 3) := by decide +kernel
theorem dX9_init_54 : decode cX9_init 54 = .ok (.invokespecial 34, 3) := by decide +kernel
theorem dX9_init_57 : decode cX9_init 57 = .ok (.putfield 37, 3) := by decide +kernel
theorem dX9_init_60 : decode cX9_init 60 = .ok (.aload_n 0, 1) := by decide +kernel
theorem dX9_init_61 : decode cX9_init 61 = .ok (.new 41, 3) := by decide +kernel
theorem dX9_init_64 : decode cX9_init 64 = .ok (.dup, 1) := by decide +kernel
theorem dX9_init_65 : decode cX9_init 65 = .ok (.invokespecial 43, 3) := by decide +kernel
theorem dX9_init_68 : decode cX9_init 68 = .ok (.putfield 44, 3) := by decide +kernel
theorem dX9_init_71 : decode cX9_init 71 = .ok (.aload_n 0, 1) := by decide +kernel
theorem dX9_init_72 : decode cX9_init 72 = .ok (.new 41, 3) := by decide +kernel
theorem dX9_init_75 : decode cX9_init 75 = .ok (.dup, 1) := by decide +kernel
theorem dX9_init_76 : decode cX9_init 76 = .ok (.invokespecial 43, 3) := by decide +kernel
theorem dX9_init_79 : decode cX9_init 79 = .ok (.putfield 48, 3) := by decide +kernel
theorem dX9_init_82 : decode cX9_init 82 = .ok (.aload_n 0, 1) := by decide +kernel
theorem dX9_init_83 : decode cX9_init 83 = .ok (.new 41, 3) := by decide +kernel
theorem dX9_init_86 : decode cX9_init 86 = .ok (.dup, 1) := by decide +kernel
theorem dX9_init_87 : decode cX9_init 87 = .ok (.invokespecial 43, 3) := by decide +kernel
theorem dX9_init_90 : decode cX9_init 90 = .ok (.putfield 51, 3) := by decide +kernel
theorem dX9_init_93 : decode cX9_init 93 = .ok (.aload_n 0, 1) := by decide +kernel
theorem dX9_init_94 : decode cX9_init 94 = .ok (.new 54, 3) := by decide +kernel
theorem dX9_init_97 : decode cX9_init 97 = .ok (.dup, 1) := by decide +kernel
theorem dX9_init_98 : decode cX9_init 98 = .ok (.invokespecial 56, 3) := by decide +kernel
theorem dX9_init_101 : decode cX9_init 101 = .ok (.putfield 57, 3) := by decide +kernel
theorem dX9_init_104 : decode cX9_init 104 = .ok (.aload_n 0, 1) := by decide +kernel
theorem dX9_init_105 : decode cX9_init 105 = .ok (.iconst 0, 1) := by decide +kernel
theorem dX9_init_106 : decode cX9_init 106 = .ok (.putfield 61, 3) := by decide +kernel
theorem dX9_init_109 : decode cX9_init 109 = .ok (.iconst 0, 1) := by decide +kernel
theorem dX9_init_110 : decode cX9_init 110 = .ok (.istore_n 1, 1) := by decide +kernel
theorem dX9_init_111 : decode cX9_init 111 = .ok (.iload_n 1, 1) := by decide +kernel
theorem dX9_init_112 : decode cX9_init 112 = .ok (.ldc 65, 2) := by decide +kernel
theorem dX9_init_114 : decode cX9_init 114 = .ok (.invokevirtual 67, 3) := by decide +kernel
theorem dX9_init_117 : decode cX9_init 117 = .ok (.if_icmp .ge 22, 3) := by decide +kernel
theorem dX9_init_120 : decode cX9_init 120 = .ok (.aload_n 0, 1) := by decide +kernel
theorem dX9_init_121 : decode cX9_init 121 = .ok (.getfield 21, 3) := by decide +kernel
theorem dX9_init_124 : decode cX9_init 124 = .ok (.ldc 65, 2) := by decide +kernel
theorem dX9_init_126 : decode cX9_init 126 = .ok (.iload_n 1, 1) := by decide +kernel
theorem dX9_init_127 : decode cX9_init 127 = .ok (.invokevirtual 73, 3) := by decide +kernel
theorem dX9_init_130 : decode cX9_init 130 = .ok (.invokevirtual 77, 3) := by decide +kernel
theorem dX9_init_133 : decode cX9_init 133 = .ok (.iinc 1 1, 3) := by decide +kernel
theorem dX9_init_136 : decode cX9_init 136 = .ok (.goto (-25), 3) := by decide +kernel
theorem dX9_init_139 : decode cX9_init 139 = .ok (.aload_n 0, 1) := by decide +kernel
theorem dX9_init_140 : decode cX9_init 140 = .ok (.getfield 21, 3) := by decide +kernel
theorem dX9_init_143 : decode cX9_init 143 = .ok (.invokevirtual 81, 3) := by decide +kernel
theorem dX9_init_146 : decode cX9_init 146 = .ok (.pop, 1) := by decide +kernel
theorem dX9_init_147 : decode cX9_init 147 = .ok (.return_, 1) := by decide +kernel
theorem dX9_count_0 : decode cX9_count 0 = .ok (.iload_n 1, 1) := by decide +kernel
theorem dX9_count_1 : decode cX9_count 1 = .ok (.tableswitch 75 0 4 #[35, 43, 51, 59, 67], 35) := by decide +kernel
theorem dX9_count_36 : decode cX9_count 36 = .ok (.aload_n 0, 1) := by decide +kernel
theorem dX9_count_37 : decode cX9_count 37 = .ok (.getfield 44, 3) := by decide +kernel
theorem dX9_count_40 : decode cX9_count 40 = .ok (.getfield 84, 3) := by decide +kernel
theorem dX9_count_43 : decode cX9_count 43 = .ok (.ireturn, 1) := by decide +kernel
theorem dX9_count_44 : decode cX9_count 44 = .ok (.aload_n 0, 1) := by decide +kernel
theorem dX9_count_45 : decode cX9_count 45 = .ok (.getfield 44, 3) := by decide +kernel
theorem dX9_count_48 : decode cX9_count 48 = .ok (.getfield 88, 3) := by decide +kernel
theorem dX9_count_51 : decode cX9_count 51 = .ok (.ireturn, 1) := by decide +kernel
theorem dX9_count_52 : decode cX9_count 52 = .ok (.aload_n 0, 1) := by decide +kernel
theorem dX9_count_53 : decode cX9_count 53 = .ok (.getfield 10, 3) := by decide +kernel
theorem dX9_count_56 : decode cX9_count 56 = .ok (.getfield 91, 3) := by decide +kernel
theorem dX9_count_59 : decode cX9_count 59 = .ok (.ireturn, 1) := by decide +kernel
theorem dX9_count_60 : decode cX9_count 60 = .ok (.aload_n 0, 1) := by decide +kernel
theorem dX9_count_61 : decode cX9_count 61 = .ok (.getfield 44, 3) := by decide +kernel
theorem dX9_count_64 : decode cX9_count 64 = .ok (.getfield 94, 3) := by decide +kernel
theorem dX9_count_67 : decode cX9_count 67 = .ok (.ireturn, 1) := by decide +kernel
theorem dX9_count_68 : decode cX9_count 68 = .ok (.aload_n 0, 1) := by decide +kernel
theorem dX9_count_69 : decode cX9_count 69 = .ok (.getfield 21, 3) := by decide +kernel
theorem dX9_count_72 : decode cX9_count 72 = .ok (.invokevirtual 97, 3) := by decide +kernel
theorem dX9_count_75 : decode cX9_count 75 = .ok (.ireturn, 1) := by decide +kernel
theorem dX9_count_76 : decode cX9_count 76 = .ok (.bipush (-2), 2) := by decide +kernel
theorem dX9_count_78 : decode cX9_count 78 = .ok (.ireturn, 1) := by decide +kernel
theorem dX9_feed_0 : decode cX9_feed 0 = .ok (.iload_n 2, 1) := by decide +kernel
theorem dX9_feed_1 : decode cX9_feed 1 = .ok (.invokestatic 100, 3) := by decide +kernel
theorem dX9_feed_4 : decode cX9_feed 4 = .ok (.ifCond .eq 38, 3) := by decide +kernel
theorem dX9_feed_7 : decode cX9_feed 7 = .ok (.iload_n 3, 1) := by decide +kernel
theorem dX9_feed_8 : decode cX9_feed 8 = .ok (.invokestatic 100, 3) := by decide +kernel
theorem dX9_feed_11 : decode cX9_feed 11 = .ok (.ifCond .eq 31, 3) := by decide +kernel
theorem dX9_feed_14 : decode cX9_feed 14 = .ok (.iload 4, 2) := by decide +kernel
theorem dX9_feed_16 : decode cX9_feed 16 = .ok (.invokestatic 100, 3) := by decide +kernel
theorem dX9_feed_19 : decode cX9_feed 19 = .ok (.ifCond .eq 23, 3) := by decide +kernel
theorem dX9_feed_22 : decode cX9_feed 22 = .ok (.iload 5, 2) := by decide +kernel
theorem dX9_feed_24 : decode cX9_feed 24 = .ok (.invokestatic 100, 3) := by decide +kernel
theorem dX9_feed_27 : decode cX9_feed 27 = .ok (.ifCond .eq 15, 3) := by decide +kernel
theorem dX9_feed_30 : decode cX9_feed 30 = .ok (.iload 6, 2) := by decide +kernel
theorem dX9_feed_32 : decode cX9_feed 32 = .ok (.invokestatic 100, 3) := by decide +kernel
theorem dX9_feed_35 : decode cX9_feed 35 = .ok (.ifCond .eq 7, 3) := by decide +kernel
theorem dX9_feed_38 : decode cX9_feed 38 = .ok (.iconst 1, 1) := by decide +kernel
theorem dX9_feed_39 : decode cX9_feed 39 = .ok (.goto 4, 3) := by decide +kernel
theorem dX9_feed_42 : decode cX9_feed 42 = .ok (.iconst 0, 1) := by decide +kernel
theorem dX9_feed_43 : decode cX9_feed 43 = .ok (.istore 7, 2) := by decide +kernel
theorem dX9_feed_45 : decode cX9_feed 45 = .ok (.iload_n 1, 1) := by decide +kernel
theorem dX9_feed_46 : decode cX9_feed 46 = .ok (.iconst 1, 1) := by decide +kernel
theorem dX9_feed_47 : decode cX9_feed 47 = .ok (.if_icmp .lt 13, 3) := by decide +kernel
theorem dX9_feed_50 : decode cX9_feed 50 = .ok (.iload_n 1, 1) := by decide +kernel
theorem dX9_feed_51 : decode cX9_feed 51 = .ok (.iconst 5, 1) := by decide +kernel
theorem dX9_feed_52 : decode cX9_feed 52 = .ok (.if_icmp .gt 8, 3) := by decide +kernel
theorem dX9_feed_55 : decode cX9_feed 55 = .ok (.iload 7, 2) := by decide +kernel
theorem dX9_feed_57 : decode cX9_feed 57 = .ok (.ifCond .ne 6, 3) := by decide +kernel
theorem dX9_feed_60 : decode cX9_feed 60 = .ok (.bipush (-2), 2) := by decide +kernel
theorem dX9_feed_62 : decode cX9_feed 62 = .ok (.ireturn, 1) := by decide +kernel
theorem dX9_feed_63 : decode cX9_feed 63 = .ok (.aload_n 0, 1) := by decide +kernel
theorem dX9_feed_64 : decode cX9_feed 64 = .ok (.getfield 21, 3) := by decide +kernel
theorem dX9_feed_67 : decode cX9_feed 67 = .ok (.invokevirtual 97, 3) := by decide +kernel
theorem dX9_feed_70 : decode cX9_feed 70 = .ok (.iload_n 1, 1) := by decide +kernel
theorem dX9_feed_71 : decode cX9_feed 71 = .ok (.iadd, 1) := by decide +kernel
theorem dX9_feed_72 : decode cX9_feed 72 = .ok (.sipush 160, 3) := by decide +kernel
theorem dX9_feed_75 : decode cX9_feed 75 = .ok (.if_icmp .le 6, 3) := by decide +kernel
theorem dX9_feed_78 : decode cX9_feed 78 = .ok (.bipush (-4), 2) := by decide +kernel
theorem dX9_feed_80 : decode cX9_feed 80 = .ok (.ireturn, 1) := by decide +kernel
theorem dX9_feed_81 : decode cX9_feed 81 = .ok (.iconst 0, 1) := by decide +kernel
theorem dX9_feed_82 : decode cX9_feed 82 = .ok (.istore 8, 2) := by decide +kernel
theorem dX9_feed_84 : decode cX9_feed 84 = .ok (.iload 8, 2) := by decide +kernel
theorem dX9_feed_86 : decode cX9_feed 86 = .ok (.iload_n 1, 1) := by decide +kernel
theorem dX9_feed_87 : decode cX9_feed 87 = .ok (.if_icmp .ge 59, 3) := by decide +kernel
theorem dX9_feed_90 : decode cX9_feed 90 = .ok (.aload_n 0, 1) := by decide +kernel
theorem dX9_feed_91 : decode cX9_feed 91 = .ok (.getfield 21, 3) := by decide +kernel
theorem dX9_feed_94 : decode cX9_feed 94 = .ok (.iload 8, 2) := by decide +kernel
theorem dX9_feed_96 : decode cX9_feed 96 = .ok (.ifCond .ne 7, 3) := by decide +kernel
theorem dX9_feed_99 : decode cX9_feed 99 = .ok (.iload_n 2, 1) := by decide +kernel
theorem dX9_feed_100 : decode cX9_feed 100 = .ok (.goto 37, 3) := by decide +kernel
theorem dX9_feed_103 : decode cX9_feed 103 = .ok (.iload 8, 2) := by decide +kernel
theorem dX9_feed_105 : decode cX9_feed 105 = .ok (.iconst 1, 1) := by decide +kernel
theorem dX9_feed_106 : decode cX9_feed 106 = .ok (.if_icmp .ne 7, 3) := by decide +kernel
theorem dX9_feed_109 : decode cX9_feed 109 = .ok (.iload_n 3, 1) := by decide +kernel
theorem dX9_feed_110 : decode cX9_feed 110 = .ok (.goto 27, 3) := by decide +kernel
theorem dX9_feed_113 : decode cX9_feed 113 = .ok (.iload 8, 2) := by decide +kernel
theorem dX9_feed_115 : decode cX9_feed 115 = .ok (.iconst 2, 1) := by decide +kernel
theorem dX9_feed_116 : decode cX9_feed 116 = .ok (.if_icmp .ne 8, 3) := by decide +kernel
theorem dX9_feed_119 : decode cX9_feed 119 = .ok (.iload 4, 2) := by decide +kernel
theorem dX9_feed_121 : decode cX9_feed 121 = .ok (.goto 16, 3) := by decide +kernel
theorem dX9_feed_124 : decode cX9_feed 124 = .ok (.iload 8, 2) := by decide +kernel
theorem dX9_feed_126 : decode cX9_feed 126 = .ok (.iconst 3, 1) := by decide +kernel
theorem dX9_feed_127 : decode cX9_feed 127 = .ok (.if_icmp .ne 8, 3) := by decide +kernel
theorem dX9_feed_130 : decode cX9_feed 130 = .ok (.iload 5, 2) := by decide +kernel
theorem dX9_feed_132 : decode cX9_feed 132 = .ok (.goto 5, 3) := by decide +kernel
theorem dX9_feed_135 : decode cX9_feed 135 = .ok (.iload 6, 2) := by decide +kernel
theorem dX9_feed_137 : decode cX9_feed 137 = .ok (.invokevirtual 77, 3) := by decide +kernel
theorem dX9_feed_140 : decode cX9_feed 140 = .ok (.iinc 8 1, 3) := by decide +kernel
theorem dX9_feed_143 : decode cX9_feed 143 = .ok (.goto (-59), 3) := by decide +kernel
theorem dX9_feed_146 : decode cX9_feed 146 = .ok (.aload_n 0, 1) := by decide +kernel
theorem dX9_feed_147 : decode cX9_feed 147 = .ok (.getfield 21, 3) := by decide +kernel
theorem dX9_feed_150 : decode cX9_feed 150 = .ok (.invokevirtual 97, 3) := by decide +kernel
theorem dX9_feed_153 : decode cX9_feed 153 = .ok (.ireturn, 1) := by decide +kernel
theorem dX9_text_0 : decode cX9_text 0 = .ok (.aload_n 0, 1) := by decide +kernel
theorem dX9_text_1 : decode cX9_text 1 = .ok (.getfield 10, 3) := by decide +kernel
theorem dX9_text_4 : decode cX9_text 4 = .ok (.getfield 91, 3) := by decide +kernel
theorem dX9_text_7 : decode cX9_text 7 = .ok (.bipush 6, 2) := by decide +kernel
theorem dX9_text_9 : decode cX9_text 9 = .ok (.if_icmp .lt 6, 3) := by decide +kernel
theorem dX9_text_12 : decode cX9_text 12 = .ok (.bipush (-4), 2) := by decide +kernel
theorem dX9_text_14 : decode cX9_text 14 = .ok (.ireturn, 1) := by decide +kernel
theorem dX9_text_15 : decode cX9_text 15 = .ok (.aload_n 0, 1) := by decide +kernel
theorem dX9_text_16 : decode cX9_text 16 = .ok (.getfield 21, 3) := by decide +kernel
theorem dX9_text_19 : decode cX9_text 19 = .ok (.invokevirtual 81, 3) := by decide +kernel
theorem dX9_text_22 : decode cX9_text 22 = .ok (.istore_n 1, 1) := by decide +kernel
theorem dX9_text_23 : decode cX9_text 23 = .ok (.iload_n 1, 1) := by decide +kernel
theorem dX9_text_24 : decode cX9_text 24 = .ok (.ifCond .lt 10, 3) := by decide +kernel
theorem dX9_text_27 : decode cX9_text 27 = .ok (.bipush (-100), 2) := by decide +kernel
theorem dX9_text_29 : decode cX9_text 29 = .ok (.iload_n 1, 1) := by decide +kernel
theorem dX9_text_30 : decode cX9_text 30 = .ok (.isub, 1) := by decide +kernel
theorem dX9_text_31 : decode cX9_text 31 = .ok (.goto 12, 3) := by decide +kernel
theorem dX9_text_34 : decode cX9_text 34 = .ok (.aload_n 0, 1) := by decide +kernel
theorem dX9_text_35 : decode cX9_text 35 = .ok (.getfield 10, 3) := by decide +kernel
theorem dX9_text_38 : decode cX9_text 38 = .ok (.getfield 91, 3) := by decide +kernel
theorem dX9_text_41 : decode cX9_text 41 = .ok (.iconst 1, 1) := by decide +kernel
theorem dX9_text_42 : decode cX9_text 42 = .ok (.isub, 1) := by decide +kernel
theorem dX9_text_43 : decode cX9_text 43 = .ok (.ireturn, 1) := by decide +kernel
theorem dX9_force_0 : decode cX9_force 0 = .ok (.iload_n 1, 1) := by decide +kernel
theorem dX9_force_1 : decode cX9_force 1 = .ok (.ifCond .lt 14, 3) := by decide +kernel
theorem dX9_force_4 : decode cX9_force 4 = .ok (.iload_n 1, 1) := by decide +kernel
theorem dX9_force_5 : decode cX9_force 5 = .ok (.aload_n 0, 1) := by decide +kernel
theorem dX9_force_6 : decode cX9_force 6 = .ok (.getfield 10, 3) := by decide +kernel
theorem dX9_force_9 : decode cX9_force 9 = .ok (.getfield 91, 3) := by decide +kernel
theorem dX9_force_12 : decode cX9_force 12 = .ok (.if_icmp .lt 6, 3) := by decide +kernel
theorem dX9_force_15 : decode cX9_force 15 = .ok (.bipush (-2), 2) := by decide +kernel
theorem dX9_force_17 : decode cX9_force 17 = .ok (.ireturn, 1) := by decide +kernel
theorem dX9_force_18 : decode cX9_force 18 = .ok (.aload_n 0, 1) := by decide +kernel
theorem dX9_force_19 : decode cX9_force 19 = .ok (.getfield 44, 3) := by decide +kernel
theorem dX9_force_22 : decode cX9_force 22 = .ok (.getfield 94, 3) := by decide +kernel
theorem dX9_force_25 : decode cX9_force 25 = .ok (.istore_n 2, 1) := by decide +kernel
theorem dX9_force_26 : decode cX9_force 26 = .ok (.aload_n 0, 1) := by decide +kernel
theorem dX9_force_27 : decode cX9_force 27 = .ok (.getfield 44, 3) := by decide +kernel
theorem dX9_force_30 : decode cX9_force 30 = .ok (.iload_n 1, 1) := by decide +kernel
theorem dX9_force_31 : decode cX9_force 31 = .ok (.putfield 94, 3) := by decide +kernel
theorem dX9_force_34 : decode cX9_force 34 = .ok (.iload_n 2, 1) := by decide +kernel
theorem dX9_force_35 : decode cX9_force 35 = .ok (.ireturn, 1) := by decide +kernel
theorem dX9_asks_0 : decode cX9_asks 0 = .ok (.iload_n 1, 1) := by decide +kernel
theorem dX9_asks_1 : decode cX9_asks 1 = .ok (.iconst 2, 1) := by decide +kernel
theorem dX9_asks_2 : decode cX9_asks 2 = .ok (.invokestatic 104, 3) := by decide +kernel
theorem dX9_asks_5 : decode cX9_asks 5 = .ok (.ifCond .eq 56, 3) := by decide +kernel
theorem dX9_asks_8 : decode cX9_asks 8 = .ok (.iload_n 2, 1) := by decide +kernel
theorem dX9_asks_9 : decode cX9_asks 9 = .ok (.sipush 400, 3) := by decide +kernel
theorem dX9_asks_12 : decode cX9_asks 12 = .ok (.invokestatic 104, 3) := by decide +kernel
theorem dX9_asks_15 : decode cX9_asks 15 = .ok (.ifCond .eq 46, 3) := by decide +kernel
theorem dX9_asks_18 : decode cX9_asks 18 = .ok (.iload_n 3, 1) := by decide +kernel
theorem dX9_asks_19 : decode cX9_asks 19 = .ok (.bipush 49, 2) := by decide +kernel
theorem dX9_asks_21 : decode cX9_asks 21 = .ok (.invokestatic 104, 3) := by decide +kernel
theorem dX9_asks_24 : decode cX9_asks 24 = .ok (.ifCond .eq 37, 3) := by decide +kernel
theorem dX9_asks_27 : decode cX9_asks 27 = .ok (.iload 4, 2) := by decide +kernel
theorem dX9_asks_29 : decode cX9_asks 29 = .ok (.sipush 401, 3) := by decide +kernel
theorem dX9_asks_32 : decode cX9_asks 32 = .ok (.invokestatic 104, 3) := by decide +kernel
theorem dX9_asks_35 : decode cX9_asks 35 = .ok (.ifCond .eq 26, 3) := by decide +kernel
theorem dX9_asks_38 : decode cX9_asks 38 = .ok (.iload 4, 2) := by decide +kernel
theorem dX9_asks_40 : decode cX9_asks 40 = .ok (.bipush 10, 2) := by decide +kernel
theorem dX9_asks_42 : decode cX9_asks 42 = .ok (.irem, 1) := by decide +kernel
theorem dX9_asks_43 : decode cX9_asks 43 = .ok (.iconst 1, 1) := by decide +kernel
theorem dX9_asks_44 : decode cX9_asks 44 = .ok (.if_icmp .gt 17, 3) := by decide +kernel
theorem dX9_asks_47 : decode cX9_asks 47 = .ok (.iload 5, 2) := by decide +kernel
theorem dX9_asks_49 : decode cX9_asks 49 = .ok (.bipush 9, 2) := by decide +kernel
theorem dX9_asks_51 : decode cX9_asks 51 = .ok (.invokestatic 104, 3) := by decide +kernel
theorem dX9_asks_54 : decode cX9_asks 54 = .ok (.ifCond .eq 7, 3) := by decide +kernel
theorem dX9_asks_57 : decode cX9_asks 57 = .ok (.iconst 1, 1) := by decide +kernel
theorem dX9_asks_58 : decode cX9_asks 58 = .ok (.goto 4, 3) := by decide +kernel
theorem dX9_asks_61 : decode cX9_asks 61 = .ok (.iconst 0, 1) := by decide +kernel
theorem dX9_asks_62 : decode cX9_asks 62 = .ok (.istore 6, 2) := by decide +kernel
theorem dX9_asks_64 : decode cX9_asks 64 = .ok (.iload 6, 2) := by decide +kernel
theorem dX9_asks_66 : decode cX9_asks 66 = .ok (.ifCond .ne 6, 3) := by decide +kernel
theorem dX9_asks_69 : decode cX9_asks 69 = .ok (.bipush (-2), 2) := by decide +kernel
theorem dX9_asks_71 : decode cX9_asks 71 = .ok (.ireturn, 1) := by decide +kernel
theorem dX9_asks_72 : decode cX9_asks 72 = .ok (.aload_n 0, 1) := by decide +kernel
theorem dX9_asks_73 : decode cX9_asks 73 = .ok (.getfield 37, 3) := by decide +kernel
theorem dX9_asks_76 : decode cX9_asks 76 = .ok (.getfield 108, 3) := by decide +kernel
theorem dX9_asks_79 : decode cX9_asks 79 = .ok (.iload_n 2, 1) := by decide +kernel
theorem dX9_asks_80 : decode cX9_asks 80 = .ok (.iload_n 3, 1) := by decide +kernel
theorem dX9_asks_81 : decode cX9_asks 81 = .ok (.bipush 10, 2) := by decide +kernel
theorem dX9_asks_83 : decode cX9_asks 83 = .ok (.irem, 1) := by decide +kernel
theorem dX9_asks_84 : decode cX9_asks 84 = .ok (.iload 4, 2) := by decide +kernel
theorem dX9_asks_86 : decode cX9_asks 86 = .ok (.bipush 10, 2) := by decide +kernel
theorem dX9_asks_88 : decode cX9_asks 88 = .ok (.idiv, 1) := by decide +kernel
theorem dX9_asks_89 : decode cX9_asks 89 = .ok (.iload 4, 2) := by decide +kernel
theorem dX9_asks_91 : decode cX9_asks 91 = .ok (.bipush 10, 2) := by decide +kernel
theorem dX9_asks_93 : decode cX9_asks 93 = .ok (.irem, 1) := by decide +kernel
theorem dX9_asks_94 : decode cX9_asks 94 = .ok (.invokevirtual 112, 3) := by decide +kernel
theorem dX9_asks_97 : decode cX9_asks 97 = .ok (.aload_n 0, 1) := by decide +kernel
theorem dX9_asks_98 : decode cX9_asks 98 = .ok (.getfield 37, 3) := by decide +kernel
theorem dX9_asks_101 : decode cX9_asks 101 = .ok (.getfield 108, 3) := by decide +kernel
theorem dX9_asks_104 : decode cX9_asks 104 = .ok (.iload_n 3, 1) := by decide +kernel
theorem dX9_asks_105 : decode cX9_asks 105 = .ok (.bipush 10, 2) := by decide +kernel
theorem dX9_asks_107 : decode cX9_asks 107 = .ok (.idiv, 1) := by decide +kernel
theorem dX9_asks_108 : decode cX9_asks 108 = .ok (.iload 5, 2) := by decide +kernel
theorem dX9_asks_110 : decode cX9_asks 110 = .ok (.invokevirtual 118, 3) := by decide +kernel
theorem dX9_asks_113 : decode cX9_asks 113 = .ok (.iload_n 1, 1) := by decide +kernel
theorem dX9_asks_114 : decode cX9_asks 114 = .ok (.iconst 2, 1) := by decide +kernel
theorem dX9_asks_115 : decode cX9_asks 115 = .ok (.if_icmp .ne 37, 3) := by decide +kernel
theorem dX9_asks_118 : decode cX9_asks 118 = .ok (.aload_n 0, 1) := by decide +kernel
theorem dX9_asks_119 : decode cX9_asks 119 = .ok (.getfield 10, 3) := by decide +kernel
theorem dX9_asks_122 : decode cX9_asks 122 = .ok (.aload_n 0, 1) := by decide +kernel
theorem dX9_asks_123 : decode cX9_asks 123 = .ok (.getfield 44, 3) := by decide +kernel
theorem dX9_asks_126 : decode cX9_asks 126 = .ok (.getfield 94, 3) := by decide +kernel
theorem dX9_asks_129 : decode cX9_asks 129 = .ok (.iload_n 1, 1) := by decide +kernel
theorem dX9_asks_130 : decode cX9_asks 130 = .ok (.aload_n 0, 1) := by decide +kernel
theorem dX9_asks_131 : decode cX9_asks 131 = .ok (.getfield 37, 3) := by decide +kernel
theorem dX9_asks_134 : decode cX9_asks 134 = .ok (.getfield 108, 3) := by decide +kernel
theorem dX9_asks_137 : decode cX9_asks 137 = .ok (.getfield 122, 3) := by decide +kernel
theorem dX9_asks_140 : decode cX9_asks 140 = .ok (.invokevirtual 126, 3) := by decide +kernel
theorem dX9_asks_143 : decode cX9_asks 143 = .ok (.ifCond .eq 7, 3) := by decide +kernel
theorem dX9_asks_146 : decode cX9_asks 146 = .ok (.iconst 1, 1) := by decide +kernel
theorem dX9_asks_147 : decode cX9_asks 147 = .ok (.goto 4, 3) := by decide +kernel
theorem dX9_asks_150 : decode cX9_asks 150 = .ok (.iconst 0, 1) := by decide +kernel
theorem dX9_asks_151 : decode cX9_asks 151 = .ok (.ireturn, 1) := by decide +kernel
theorem dX9_asks_152 : decode cX9_asks 152 = .ok (.aload_n 0, 1) := by decide +kernel
theorem dX9_asks_153 : decode cX9_asks 153 = .ok (.getfield 10, 3) := by decide +kernel
theorem dX9_asks_156 : decode cX9_asks 156 = .ok (.aload_n 0, 1) := by decide +kernel
theorem dX9_asks_157 : decode cX9_asks 157 = .ok (.getfield 44, 3) := by decide +kernel
theorem dX9_asks_160 : decode cX9_asks 160 = .ok (.getfield 94, 3) := by decide +kernel
theorem dX9_asks_163 : decode cX9_asks 163 = .ok (.iload_n 1, 1) := by decide +kernel
theorem dX9_asks_164 : decode cX9_asks 164 = .ok (.aload_n 0, 1) := by decide +kernel
theorem dX9_asks_165 : decode cX9_asks 165 = .ok (.getfield 37, 3) := by decide +kernel
theorem dX9_asks_168 : decode cX9_asks 168 = .ok (.getfield 108, 3) := by decide +kernel
theorem dX9_asks_171 : decode cX9_asks 171 = .ok (.getfield 122, 3) := by decide +kernel
theorem dX9_asks_174 : decode cX9_asks 174 = .ok (.invokevirtual 130, 3) := by decide +kernel
theorem dX9_asks_177 : decode cX9_asks 177 = .ok (.ireturn, 1) := by decide +kernel
theorem dX9_face_0 : decode cX9_face 0 = .ok (.iload_n 1, 1) := by decide +kernel
theorem dX9_face_1 : decode cX9_face 1 = .ok (.bipush 59, 2) := by decide +kernel
theorem dX9_face_3 : decode cX9_face 3 = .ok (.invokestatic 104, 3) := by decide +kernel
theorem dX9_face_6 : decode cX9_face 6 = .ok (.ifCond .eq 20, 3) := by decide +kernel
theorem dX9_face_9 : decode cX9_face 9 = .ok (.iload_n 2, 1) := by decide +kernel
theorem dX9_face_10 : decode cX9_face 10 = .ok (.sipush 400, 3) := by decide +kernel
theorem dX9_face_13 : decode cX9_face 13 = .ok (.invokestatic 104, 3) := by decide +kernel
theorem dX9_face_16 : decode cX9_face 16 = .ok (.ifCond .eq 10, 3) := by decide +kernel
theorem dX9_face_19 : decode cX9_face 19 = .ok (.iload_n 3, 1) := by decide +kernel
theorem dX9_face_20 : decode cX9_face 20 = .ok (.invokestatic 135, 3) := by decide +kernel
theorem dX9_face_23 : decode cX9_face 23 = .ok (.ifCond .ne 6, 3) := by decide +kernel
theorem dX9_face_26 : decode cX9_face 26 = .ok (.bipush (-2), 2) := by decide +kernel
theorem dX9_face_28 : decode cX9_face 28 = .ok (.ireturn, 1) := by decide +kernel
theorem dX9_face_29 : decode cX9_face 29 = .ok (.aload_n 0, 1) := by decide +kernel
theorem dX9_face_30 : decode cX9_face 30 = .ok (.getfield 44, 3) := by decide +kernel
theorem dX9_face_33 : decode cX9_face 33 = .ok (.getfield 84, 3) := by decide +kernel
theorem dX9_face_36 : decode cX9_face 36 = .ok (.iconst 5, 1) := by decide +kernel
theorem dX9_face_37 : decode cX9_face 37 = .ok (.if_icmp .lt 6, 3) := by decide +kernel
theorem dX9_face_40 : decode cX9_face 40 = .ok (.bipush (-4), 2) := by decide +kernel
theorem dX9_face_42 : decode cX9_face 42 = .ok (.ireturn, 1) := by decide +kernel
theorem dX9_face_43 : decode cX9_face 43 = .ok (.aload_n 0, 1) := by decide +kernel
theorem dX9_face_44 : decode cX9_face 44 = .ok (.getfield 44, 3) := by decide +kernel
theorem dX9_face_47 : decode cX9_face 47 = .ok (.iload_n 3, 1) := by decide +kernel
theorem dX9_face_48 : decode cX9_face 48 = .ok (.invokevirtual 138, 3) := by decide +kernel
theorem dX9_face_51 : decode cX9_face 51 = .ok (.ifCond .lt 6, 3) := by decide +kernel
theorem dX9_face_54 : decode cX9_face 54 = .ok (.bipush (-3), 2) := by decide +kernel
theorem dX9_face_56 : decode cX9_face 56 = .ok (.ireturn, 1) := by decide +kernel
theorem dX9_face_57 : decode cX9_face 57 = .ok (.aload_n 0, 1) := by decide +kernel
theorem dX9_face_58 : decode cX9_face 58 = .ok (.getfield 44, 3) := by decide +kernel
theorem dX9_face_61 : decode cX9_face 61 = .ok (.iload_n 1, 1) := by decide +kernel
theorem dX9_face_62 : decode cX9_face 62 = .ok (.bipush 10, 2) := by decide +kernel
theorem dX9_face_64 : decode cX9_face 64 = .ok (.idiv, 1) := by decide +kernel
theorem dX9_face_65 : decode cX9_face 65 = .ok (.iload_n 1, 1) := by decide +kernel
theorem dX9_face_66 : decode cX9_face 66 = .ok (.bipush 10, 2) := by decide +kernel
theorem dX9_face_68 : decode cX9_face 68 = .ok (.irem, 1) := by decide +kernel
theorem dX9_face_69 : decode cX9_face 69 = .ok (.iload_n 2, 1) := by decide +kernel
theorem dX9_face_70 : decode cX9_face 70 = .ok (.iload_n 3, 1) := by decide +kernel
theorem dX9_face_71 : decode cX9_face 71 = .ok (.invokevirtual 142, 3) := by decide +kernel
theorem dX9_face_74 : decode cX9_face 74 = .ok (.ireturn, 1) := by decide +kernel
theorem dX9_warm_0 : decode cX9_warm 0 = .ok (.aload_n 0, 1) := by decide +kernel
theorem dX9_warm_1 : decode cX9_warm 1 = .ok (.getfield 44, 3) := by decide +kernel
theorem dX9_warm_4 : decode cX9_warm 4 = .ok (.iload_n 1, 1) := by decide +kernel
theorem dX9_warm_5 : decode cX9_warm 5 = .ok (.invokevirtual 146, 3) := by decide +kernel
theorem dX9_warm_8 : decode cX9_warm 8 = .ok (.ifCond .ne 6, 3) := by decide +kernel
theorem dX9_warm_11 : decode cX9_warm 11 = .ok (.bipush (-5), 2) := by decide +kernel
theorem dX9_warm_13 : decode cX9_warm 13 = .ok (.ireturn, 1) := by decide +kernel
theorem dX9_warm_14 : decode cX9_warm 14 = .ok (.iload_n 2, 1) := by decide +kernel
theorem dX9_warm_15 : decode cX9_warm 15 = .ok (.sipush 400, 3) := by decide +kernel
theorem dX9_warm_18 : decode cX9_warm 18 = .ok (.invokestatic 104, 3) := by decide +kernel
theorem dX9_warm_21 : decode cX9_warm 21 = .ok (.ifCond .ne 6, 3) := by decide +kernel
theorem dX9_warm_24 : decode cX9_warm 24 = .ok (.bipush (-7), 2) := by decide +kernel
theorem dX9_warm_26 : decode cX9_warm 26 = .ok (.ireturn, 1) := by decide +kernel
theorem dX9_warm_27 : decode cX9_warm 27 = .ok (.aload_n 0, 1) := by decide +kernel
theorem dX9_warm_28 : decode cX9_warm 28 = .ok (.getfield 44, 3) := by decide +kernel
theorem dX9_warm_31 : decode cX9_warm 31 = .ok (.getfield 149, 3) := by decide +kernel
theorem dX9_warm_34 : decode cX9_warm 34 = .ok (.iload_n 1, 1) := by decide +kernel
theorem dX9_warm_35 : decode cX9_warm 35 = .ok (.iaload, 1) := by decide +kernel
theorem dX9_warm_36 : decode cX9_warm 36 = .ok (.istore_n 3, 1) := by decide +kernel
theorem dX9_warm_37 : decode cX9_warm 37 = .ok (.aload_n 0, 1) := by decide +kernel
theorem dX9_warm_38 : decode cX9_warm 38 = .ok (.getfield 44, 3) := by decide +kernel
theorem dX9_warm_41 : decode cX9_warm 41 = .ok (.getfield 149, 3) := by decide +kernel
theorem dX9_warm_44 : decode cX9_warm 44 = .ok (.iload_n 1, 1) := by decide +kernel
theorem dX9_warm_45 : decode cX9_warm 45 = .ok (.iload_n 2, 1) := by decide +kernel
theorem dX9_warm_46 : decode cX9_warm 46 = .ok (.iastore, 1) := by decide +kernel
theorem dX9_warm_47 : decode cX9_warm 47 = .ok (.iload_n 3, 1) := by decide +kernel
theorem dX9_warm_48 : decode cX9_warm 48 = .ok (.ireturn, 1) := by decide +kernel
theorem dX9_sit_0 : decode cX9_sit 0 = .ok (.aload_n 0, 1) := by decide +kernel
theorem dX9_sit_1 : decode cX9_sit 1 = .ok (.getfield 44, 3) := by decide +kernel
theorem dX9_sit_4 : decode cX9_sit 4 = .ok (.iload_n 1, 1) := by decide +kernel
theorem dX9_sit_5 : decode cX9_sit 5 = .ok (.invokevirtual 146, 3) := by decide +kernel
theorem dX9_sit_8 : decode cX9_sit 8 = .ok (.ifCond .ne 6, 3) := by decide +kernel
theorem dX9_sit_11 : decode cX9_sit 11 = .ok (.bipush (-5), 2) := by decide +kernel
theorem dX9_sit_13 : decode cX9_sit 13 = .ok (.ireturn, 1) := by decide +kernel
theorem dX9_sit_14 : decode cX9_sit 14 = .ok (.iload_n 2, 1) := by decide +kernel
theorem dX9_sit_15 : decode cX9_sit 15 = .ok (.invokestatic 135, 3) := by decide +kernel
theorem dX9_sit_18 : decode cX9_sit 18 = .ok (.ifCond .ne 6, 3) := by decide +kernel
theorem dX9_sit_21 : decode cX9_sit 21 = .ok (.bipush (-7), 2) := by decide +kernel
theorem dX9_sit_23 : decode cX9_sit 23 = .ok (.ireturn, 1) := by decide +kernel
theorem dX9_sit_24 : decode cX9_sit 24 = .ok (.aload_n 0, 1) := by decide +kernel
theorem dX9_sit_25 : decode cX9_sit 25 = .ok (.getfield 44, 3) := by decide +kernel
theorem dX9_sit_28 : decode cX9_sit 28 = .ok (.getfield 152, 3) := by decide +kernel
theorem dX9_sit_31 : decode cX9_sit 31 = .ok (.iload_n 1, 1) := by decide +kernel
theorem dX9_sit_32 : decode cX9_sit 32 = .ok (.iaload, 1) := by decide +kernel
theorem dX9_sit_33 : decode cX9_sit 33 = .ok (.istore_n 3, 1) := by decide +kernel
theorem dX9_sit_34 : decode cX9_sit 34 = .ok (.aload_n 0, 1) := by decide +kernel
theorem dX9_sit_35 : decode cX9_sit 35 = .ok (.getfield 44, 3) := by decide +kernel
theorem dX9_sit_38 : decode cX9_sit 38 = .ok (.iload_n 1, 1) := by decide +kernel
theorem dX9_sit_39 : decode cX9_sit 39 = .ok (.iload_n 2, 1) := by decide +kernel
theorem dX9_sit_40 : decode cX9_sit 40 = .ok (.invokevirtual 155, 3) := by decide +kernel
theorem dX9_sit_43 : decode cX9_sit 43 = .ok (.iload_n 3, 1) := by decide +kernel
theorem dX9_sit_44 : decode cX9_sit 44 = .ok (.ireturn, 1) := by decide +kernel
theorem dX9_lamp_0 : decode cX9_lamp 0 = .ok (.iload_n 1, 1) := by decide +kernel
theorem dX9_lamp_1 : decode cX9_lamp 1 = .ok (.invokestatic 135, 3) := by decide +kernel
theorem dX9_lamp_4 : decode cX9_lamp 4 = .ok (.ifCond .ne 6, 3) := by decide +kernel
theorem dX9_lamp_7 : decode cX9_lamp 7 = .ok (.bipush (-5), 2) := by decide +kernel
theorem dX9_lamp_9 : decode cX9_lamp 9 = .ok (.ireturn, 1) := by decide +kernel
theorem dX9_lamp_10 : decode cX9_lamp 10 = .ok (.iload_n 2, 1) := by decide +kernel
theorem dX9_lamp_11 : decode cX9_lamp 11 = .ok (.bipush 9, 2) := by decide +kernel
theorem dX9_lamp_13 : decode cX9_lamp 13 = .ok (.invokestatic 104, 3) := by decide +kernel
theorem dX9_lamp_16 : decode cX9_lamp 16 = .ok (.ifCond .ne 6, 3) := by decide +kernel
theorem dX9_lamp_19 : decode cX9_lamp 19 = .ok (.bipush (-7), 2) := by decide +kernel
theorem dX9_lamp_21 : decode cX9_lamp 21 = .ok (.ireturn, 1) := by decide +kernel
theorem dX9_lamp_22 : decode cX9_lamp 22 = .ok (.aload_n 0, 1) := by decide +kernel
theorem dX9_lamp_23 : decode cX9_lamp 23 = .ok (.getfield 44, 3) := by decide +kernel
theorem dX9_lamp_26 : decode cX9_lamp 26 = .ok (.getfield 158, 3) := by decide +kernel
theorem dX9_lamp_29 : decode cX9_lamp 29 = .ok (.iload_n 1, 1) := by decide +kernel
theorem dX9_lamp_30 : decode cX9_lamp 30 = .ok (.iaload, 1) := by decide +kernel
theorem dX9_lamp_31 : decode cX9_lamp 31 = .ok (.istore_n 3, 1) := by decide +kernel
theorem dX9_lamp_32 : decode cX9_lamp 32 = .ok (.aload_n 0, 1) := by decide +kernel
theorem dX9_lamp_33 : decode cX9_lamp 33 = .ok (.getfield 44, 3) := by decide +kernel
theorem dX9_lamp_36 : decode cX9_lamp 36 = .ok (.getfield 158, 3) := by decide +kernel
theorem dX9_lamp_39 : decode cX9_lamp 39 = .ok (.iload_n 1, 1) := by decide +kernel
theorem dX9_lamp_40 : decode cX9_lamp 40 = .ok (.iload_n 2, 1) := by decide +kernel
theorem dX9_lamp_41 : decode cX9_lamp 41 = .ok (.iastore, 1) := by decide +kernel
theorem dX9_lamp_42 : decode cX9_lamp 42 = .ok (.iload_n 3, 1) := by decide +kernel
theorem dX9_lamp_43 : decode cX9_lamp 43 = .ok (.ireturn, 1) := by decide +kernel
theorem dX9_told_0 : decode cX9_told 0 = .ok (.aload_n 0, 1) := by decide +kernel
theorem dX9_told_1 : decode cX9_told 1 = .ok (.getfield 44, 3) := by decide +kernel
theorem dX9_told_4 : decode cX9_told 4 = .ok (.iload_n 1, 1) := by decide +kernel
theorem dX9_told_5 : decode cX9_told 5 = .ok (.invokevirtual 146, 3) := by decide +kernel
theorem dX9_told_8 : decode cX9_told 8 = .ok (.ifCond .ne 6, 3) := by decide +kernel
theorem dX9_told_11 : decode cX9_told 11 = .ok (.bipush (-5), 2) := by decide +kernel
theorem dX9_told_13 : decode cX9_told 13 = .ok (.ireturn, 1) := by decide +kernel
theorem dX9_told_14 : decode cX9_told 14 = .ok (.iload_n 2, 1) := by decide +kernel
theorem dX9_told_15 : decode cX9_told 15 = .ok (.tableswitch 95 0 5 #[37, 47, 57, 67, 77, 86], 37) := by decide +kernel
theorem dX9_told_52 : decode cX9_told 52 = .ok (.aload_n 0, 1) := by decide +kernel
theorem dX9_told_53 : decode cX9_told 53 = .ok (.getfield 44, 3) := by decide +kernel
theorem dX9_told_56 : decode cX9_told 56 = .ok (.getfield 149, 3) := by decide +kernel
theorem dX9_told_59 : decode cX9_told 59 = .ok (.iload_n 1, 1) := by decide +kernel
theorem dX9_told_60 : decode cX9_told 60 = .ok (.iaload, 1) := by decide +kernel
theorem dX9_told_61 : decode cX9_told 61 = .ok (.ireturn, 1) := by decide +kernel
theorem dX9_told_62 : decode cX9_told 62 = .ok (.aload_n 0, 1) := by decide +kernel
theorem dX9_told_63 : decode cX9_told 63 = .ok (.getfield 44, 3) := by decide +kernel
theorem dX9_told_66 : decode cX9_told 66 = .ok (.getfield 152, 3) := by decide +kernel
theorem dX9_told_69 : decode cX9_told 69 = .ok (.iload_n 1, 1) := by decide +kernel
theorem dX9_told_70 : decode cX9_told 70 = .ok (.iaload, 1) := by decide +kernel
theorem dX9_told_71 : decode cX9_told 71 = .ok (.ireturn, 1) := by decide +kernel
theorem dX9_told_72 : decode cX9_told 72 = .ok (.aload_n 0, 1) := by decide +kernel
theorem dX9_told_73 : decode cX9_told 73 = .ok (.getfield 44, 3) := by decide +kernel
theorem dX9_told_76 : decode cX9_told 76 = .ok (.getfield 161, 3) := by decide +kernel
theorem dX9_told_79 : decode cX9_told 79 = .ok (.iload_n 1, 1) := by decide +kernel
theorem dX9_told_80 : decode cX9_told 80 = .ok (.iaload, 1) := by decide +kernel
theorem dX9_told_81 : decode cX9_told 81 = .ok (.ireturn, 1) := by decide +kernel
theorem dX9_told_82 : decode cX9_told 82 = .ok (.aload_n 0, 1) := by decide +kernel
theorem dX9_told_83 : decode cX9_told 83 = .ok (.getfield 44, 3) := by decide +kernel
theorem dX9_told_86 : decode cX9_told 86 = .ok (.getfield 164, 3) := by decide +kernel
theorem dX9_told_89 : decode cX9_told 89 = .ok (.iload_n 1, 1) := by decide +kernel
theorem dX9_told_90 : decode cX9_told 90 = .ok (.iaload, 1) := by decide +kernel
theorem dX9_told_91 : decode cX9_told 91 = .ok (.ireturn, 1) := by decide +kernel
theorem dX9_told_92 : decode cX9_told 92 = .ok (.aload_n 0, 1) := by decide +kernel
theorem dX9_told_93 : decode cX9_told 93 = .ok (.getfield 44, 3) := by decide +kernel
theorem dX9_told_96 : decode cX9_told 96 = .ok (.iload_n 1, 1) := by decide +kernel
theorem dX9_told_97 : decode cX9_told 97 = .ok (.invokevirtual 167, 3) := by decide +kernel
theorem dX9_told_100 : decode cX9_told 100 = .ok (.ireturn, 1) := by decide +kernel
theorem dX9_told_101 : decode cX9_told 101 = .ok (.aload_n 0, 1) := by decide +kernel
theorem dX9_told_102 : decode cX9_told 102 = .ok (.getfield 44, 3) := by decide +kernel
theorem dX9_told_105 : decode cX9_told 105 = .ok (.iload_n 1, 1) := by decide +kernel
theorem dX9_told_106 : decode cX9_told 106 = .ok (.invokevirtual 170, 3) := by decide +kernel
theorem dX9_told_109 : decode cX9_told 109 = .ok (.ireturn, 1) := by decide +kernel
theorem dX9_told_110 : decode cX9_told 110 = .ok (.bipush (-7), 2) := by decide +kernel
theorem dX9_told_112 : decode cX9_told 112 = .ok (.ireturn, 1) := by decide +kernel
theorem dX9_cause_0 : decode cX9_cause 0 = .ok (.aload_n 0, 1) := by decide +kernel
theorem dX9_cause_1 : decode cX9_cause 1 = .ok (.getfield 44, 3) := by decide +kernel
theorem dX9_cause_4 : decode cX9_cause 4 = .ok (.iload_n 2, 1) := by decide +kernel
theorem dX9_cause_5 : decode cX9_cause 5 = .ok (.invokevirtual 146, 3) := by decide +kernel
theorem dX9_cause_8 : decode cX9_cause 8 = .ok (.ifCond .ne 6, 3) := by decide +kernel
theorem dX9_cause_11 : decode cX9_cause 11 = .ok (.bipush (-5), 2) := by decide +kernel
theorem dX9_cause_13 : decode cX9_cause 13 = .ok (.ireturn, 1) := by decide +kernel
theorem dX9_cause_14 : decode cX9_cause 14 = .ok (.iload_n 1, 1) := by decide +kernel
theorem dX9_cause_15 : decode cX9_cause 15 = .ok (.invokestatic 173, 3) := by decide +kernel
theorem dX9_cause_18 : decode cX9_cause 18 = .ok (.ifCond .eq 13, 3) := by decide +kernel
theorem dX9_cause_21 : decode cX9_cause 21 = .ok (.iload_n 3, 1) := by decide +kernel
theorem dX9_cause_22 : decode cX9_cause 22 = .ok (.sipush 400, 3) := by decide +kernel
theorem dX9_cause_25 : decode cX9_cause 25 = .ok (.invokestatic 104, 3) := by decide +kernel
theorem dX9_cause_28 : decode cX9_cause 28 = .ok (.ifCond .ne 6, 3) := by decide +kernel
theorem dX9_cause_31 : decode cX9_cause 31 = .ok (.bipush (-7), 2) := by decide +kernel
theorem dX9_cause_33 : decode cX9_cause 33 = .ok (.ireturn, 1) := by decide +kernel
theorem dX9_cause_34 : decode cX9_cause 34 = .ok (.aload_n 0, 1) := by decide +kernel
theorem dX9_cause_35 : decode cX9_cause 35 = .ok (.getfield 44, 3) := by decide +kernel
theorem dX9_cause_38 : decode cX9_cause 38 = .ok (.getfield 88, 3) := by decide +kernel
theorem dX9_cause_41 : decode cX9_cause 41 = .ok (.bipush 8, 2) := by decide +kernel
theorem dX9_cause_43 : decode cX9_cause 43 = .ok (.if_icmp .lt 6, 3) := by decide +kernel
theorem dX9_cause_46 : decode cX9_cause 46 = .ok (.bipush (-4), 2) := by decide +kernel
theorem dX9_cause_48 : decode cX9_cause 48 = .ok (.ireturn, 1) := by decide +kernel
theorem dX9_cause_49 : decode cX9_cause 49 = .ok (.aload_n 0, 1) := by decide +kernel
theorem dX9_cause_50 : decode cX9_cause 50 = .ok (.getfield 44, 3) := by decide +kernel
theorem dX9_cause_53 : decode cX9_cause 53 = .ok (.iload_n 1, 1) := by decide +kernel
theorem dX9_cause_54 : decode cX9_cause 54 = .ok (.iload_n 2, 1) := by decide +kernel
theorem dX9_cause_55 : decode cX9_cause 55 = .ok (.iload_n 3, 1) := by decide +kernel
theorem dX9_cause_56 : decode cX9_cause 56 = .ok (.invokevirtual 176, 3) := by decide +kernel
theorem dX9_cause_59 : decode cX9_cause 59 = .ok (.ireturn, 1) := by decide +kernel
theorem dX9_uncause_0 : decode cX9_uncause 0 = .ok (.aload_n 0, 1) := by decide +kernel
theorem dX9_uncause_1 : decode cX9_uncause 1 = .ok (.getfield 44, 3) := by decide +kernel
theorem dX9_uncause_4 : decode cX9_uncause 4 = .ok (.getfield 88, 3) := by decide +kernel
theorem dX9_uncause_7 : decode cX9_uncause 7 = .ok (.ifCond .gt 6, 3) := by decide +kernel
theorem dX9_uncause_10 : decode cX9_uncause 10 = .ok (.bipush (-3), 2) := by decide +kernel
theorem dX9_uncause_12 : decode cX9_uncause 12 = .ok (.ireturn, 1) := by decide +kernel
theorem dX9_uncause_13 : decode cX9_uncause 13 = .ok (.aload_n 0, 1) := by decide +kernel
theorem dX9_uncause_14 : decode cX9_uncause 14 = .ok (.getfield 44, 3) := by decide +kernel
theorem dX9_uncause_17 : decode cX9_uncause 17 = .ok (.dup, 1) := by decide +kernel
theorem dX9_uncause_18 : decode cX9_uncause 18 = .ok (.getfield 88, 3) := by decide +kernel
theorem dX9_uncause_21 : decode cX9_uncause 21 = .ok (.iconst 1, 1) := by decide +kernel
theorem dX9_uncause_22 : decode cX9_uncause 22 = .ok (.isub, 1) := by decide +kernel
theorem dX9_uncause_23 : decode cX9_uncause 23 = .ok (.putfield 88, 3) := by decide +kernel
theorem dX9_uncause_26 : decode cX9_uncause 26 = .ok (.aload_n 0, 1) := by decide +kernel
theorem dX9_uncause_27 : decode cX9_uncause 27 = .ok (.getfield 44, 3) := by decide +kernel
theorem dX9_uncause_30 : decode cX9_uncause 30 = .ok (.getfield 88, 3) := by decide +kernel
theorem dX9_uncause_33 : decode cX9_uncause 33 = .ok (.ireturn, 1) := by decide +kernel
theorem dX9_causeTold_0 : decode cX9_causeTold 0 = .ok (.iload_n 1, 1) := by decide +kernel
theorem dX9_causeTold_1 : decode cX9_causeTold 1 = .ok (.ifCond .lt 14, 3) := by decide +kernel
theorem dX9_causeTold_4 : decode cX9_causeTold 4 = .ok (.iload_n 1, 1) := by decide +kernel
theorem dX9_causeTold_5 : decode cX9_causeTold 5 = .ok (.aload_n 0, 1) := by decide +kernel
theorem dX9_causeTold_6 : decode cX9_causeTold 6 = .ok (.getfield 44, 3) := by decide +kernel
theorem dX9_causeTold_9 : decode cX9_causeTold 9 = .ok (.getfield 88, 3) := by decide +kernel
theorem dX9_causeTold_12 : decode cX9_causeTold 12 = .ok (.if_icmp .lt 6, 3) := by decide +kernel
theorem dX9_causeTold_15 : decode cX9_causeTold 15 = .ok (.bipush (-5), 2) := by decide +kernel
theorem dX9_causeTold_17 : decode cX9_causeTold 17 = .ok (.ireturn, 1) := by decide +kernel
theorem dX9_causeTold_18 : decode cX9_causeTold 18 = .ok (.iload_n 2, 1) := by decide +kernel
theorem dX9_causeTold_19 : decode cX9_causeTold 19 = .ok (.tableswitch 55 0 2 #[25, 35, 45], 25) := by decide +kernel
theorem dX9_causeTold_44 : decode cX9_causeTold 44 = .ok (.aload_n 0, 1) := by decide +kernel
theorem dX9_causeTold_45 : decode cX9_causeTold 45 = .ok (.getfield 44, 3) := by decide +kernel
theorem dX9_causeTold_48 : decode cX9_causeTold 48 = .ok (.getfield 180, 3) := by decide +kernel
theorem dX9_causeTold_51 : decode cX9_causeTold 51 = .ok (.iload_n 1, 1) := by decide +kernel
theorem dX9_causeTold_52 : decode cX9_causeTold 52 = .ok (.iaload, 1) := by decide +kernel
theorem dX9_causeTold_53 : decode cX9_causeTold 53 = .ok (.ireturn, 1) := by decide +kernel
theorem dX9_causeTold_54 : decode cX9_causeTold 54 = .ok (.aload_n 0, 1) := by decide +kernel
theorem dX9_causeTold_55 : decode cX9_causeTold 55 = .ok (.getfield 44, 3) := by decide +kernel
theorem dX9_causeTold_58 : decode cX9_causeTold 58 = .ok (.getfield 183, 3) := by decide +kernel
theorem dX9_causeTold_61 : decode cX9_causeTold 61 = .ok (.iload_n 1, 1) := by decide +kernel
theorem dX9_causeTold_62 : decode cX9_causeTold 62 = .ok (.iaload, 1) := by decide +kernel
theorem dX9_causeTold_63 : decode cX9_causeTold 63 = .ok (.ireturn, 1) := by decide +kernel
theorem dX9_causeTold_64 : decode cX9_causeTold 64 = .ok (.aload_n 0, 1) := by decide +kernel
theorem dX9_causeTold_65 : decode cX9_causeTold 65 = .ok (.getfield 44, 3) := by decide +kernel
theorem dX9_causeTold_68 : decode cX9_causeTold 68 = .ok (.getfield 186, 3) := by decide +kernel
theorem dX9_causeTold_71 : decode cX9_causeTold 71 = .ok (.iload_n 1, 1) := by decide +kernel
theorem dX9_causeTold_72 : decode cX9_causeTold 72 = .ok (.iaload, 1) := by decide +kernel
theorem dX9_causeTold_73 : decode cX9_causeTold 73 = .ok (.ireturn, 1) := by decide +kernel
theorem dX9_causeTold_74 : decode cX9_causeTold 74 = .ok (.bipush (-7), 2) := by decide +kernel
theorem dX9_causeTold_76 : decode cX9_causeTold 76 = .ok (.ireturn, 1) := by decide +kernel
theorem dX9_at_0 : decode cX9_at 0 = .ok (.iload_n 1, 1) := by decide +kernel
theorem dX9_at_1 : decode cX9_at 1 = .ok (.bipush 40, 2) := by decide +kernel
theorem dX9_at_3 : decode cX9_at 3 = .ok (.invokestatic 104, 3) := by decide +kernel
theorem dX9_at_6 : decode cX9_at 6 = .ok (.ifCond .eq 14, 3) := by decide +kernel
theorem dX9_at_9 : decode cX9_at 9 = .ok (.aload_n 0, 1) := by decide +kernel
theorem dX9_at_10 : decode cX9_at 10 = .ok (.getfield 44, 3) := by decide +kernel
theorem dX9_at_13 : decode cX9_at 13 = .ok (.iload_n 2, 1) := by decide +kernel
theorem dX9_at_14 : decode cX9_at 14 = .ok (.invokevirtual 146, 3) := by decide +kernel
theorem dX9_at_17 : decode cX9_at 17 = .ok (.ifCond .ne 6, 3) := by decide +kernel
theorem dX9_at_20 : decode cX9_at 20 = .ok (.bipush (-5), 2) := by decide +kernel
theorem dX9_at_22 : decode cX9_at 22 = .ok (.ireturn, 1) := by decide +kernel
theorem dX9_at_23 : decode cX9_at 23 = .ok (.iload_n 3, 1) := by decide +kernel
theorem dX9_at_24 : decode cX9_at 24 = .ok (.iconst 2, 1) := by decide +kernel
theorem dX9_at_25 : decode cX9_at 25 = .ok (.invokestatic 104, 3) := by decide +kernel
theorem dX9_at_28 : decode cX9_at 28 = .ok (.ifCond .ne 6, 3) := by decide +kernel
theorem dX9_at_31 : decode cX9_at 31 = .ok (.bipush (-7), 2) := by decide +kernel
theorem dX9_at_33 : decode cX9_at 33 = .ok (.ireturn, 1) := by decide +kernel
theorem dX9_at_34 : decode cX9_at 34 = .ok (.aload_n 0, 1) := by decide +kernel
theorem dX9_at_35 : decode cX9_at 35 = .ok (.iload_n 2, 1) := by decide +kernel
theorem dX9_at_36 : decode cX9_at 36 = .ok (.iload_n 1, 1) := by decide +kernel
theorem dX9_at_37 : decode cX9_at 37 = .ok (.invokevirtual 189, 3) := by decide +kernel
theorem dX9_at_40 : decode cX9_at 40 = .ok (.iload_n 3, 1) := by decide +kernel
theorem dX9_at_41 : decode cX9_at 41 = .ok (.lookupswitch 55 #[(0, 27), (1, 37)], 27) := by decide +kernel
theorem dX9_at_68 : decode cX9_at 68 = .ok (.aload_n 0, 1) := by decide +kernel
theorem dX9_at_69 : decode cX9_at 69 = .ok (.getfield 37, 3) := by decide +kernel
theorem dX9_at_72 : decode cX9_at 72 = .ok (.iload_n 1, 1) := by decide +kernel
theorem dX9_at_73 : decode cX9_at 73 = .ok (.iload_n 2, 1) := by decide +kernel
theorem dX9_at_74 : decode cX9_at 74 = .ok (.invokevirtual 192, 3) := by decide +kernel
theorem dX9_at_77 : decode cX9_at 77 = .ok (.ireturn, 1) := by decide +kernel
theorem dX9_at_78 : decode cX9_at 78 = .ok (.aload_n 0, 1) := by decide +kernel
theorem dX9_at_79 : decode cX9_at 79 = .ok (.getfield 37, 3) := by decide +kernel
theorem dX9_at_82 : decode cX9_at 82 = .ok (.iload_n 1, 1) := by decide +kernel
theorem dX9_at_83 : decode cX9_at 83 = .ok (.iload_n 2, 1) := by decide +kernel
theorem dX9_at_84 : decode cX9_at 84 = .ok (.invokevirtual 196, 3) := by decide +kernel
theorem dX9_at_87 : decode cX9_at 87 = .ok (.ifCond .eq 7, 3) := by decide +kernel
theorem dX9_at_90 : decode cX9_at 90 = .ok (.iconst 1, 1) := by decide +kernel
theorem dX9_at_91 : decode cX9_at 91 = .ok (.goto 4, 3) := by decide +kernel
theorem dX9_at_94 : decode cX9_at 94 = .ok (.iconst 0, 1) := by decide +kernel
theorem dX9_at_95 : decode cX9_at 95 = .ok (.ireturn, 1) := by decide +kernel
theorem dX9_at_96 : decode cX9_at 96 = .ok (.aload_n 0, 1) := by decide +kernel
theorem dX9_at_97 : decode cX9_at 97 = .ok (.getfield 37, 3) := by decide +kernel
theorem dX9_at_100 : decode cX9_at 100 = .ok (.iload_n 1, 1) := by decide +kernel
theorem dX9_at_101 : decode cX9_at 101 = .ok (.iload_n 2, 1) := by decide +kernel
theorem dX9_at_102 : decode cX9_at 102 = .ok (.invokevirtual 199, 3) := by decide +kernel
theorem dX9_at_105 : decode cX9_at 105 = .ok (.ireturn, 1) := by decide +kernel
theorem dX9_red_0 : decode cX9_red 0 = .ok (.aload_n 0, 1) := by decide +kernel
theorem dX9_red_1 : decode cX9_red 1 = .ok (.getfield 44, 3) := by decide +kernel
theorem dX9_red_4 : decode cX9_red 4 = .ok (.iload_n 1, 1) := by decide +kernel
theorem dX9_red_5 : decode cX9_red 5 = .ok (.invokevirtual 146, 3) := by decide +kernel
theorem dX9_red_8 : decode cX9_red 8 = .ok (.ifCond .ne 6, 3) := by decide +kernel
theorem dX9_red_11 : decode cX9_red 11 = .ok (.bipush (-5), 2) := by decide +kernel
theorem dX9_red_13 : decode cX9_red 13 = .ok (.ireturn, 1) := by decide +kernel
theorem dX9_red_14 : decode cX9_red 14 = .ok (.iload_n 2, 1) := by decide +kernel
theorem dX9_red_15 : decode cX9_red 15 = .ok (.iconst 4, 1) := by decide +kernel
theorem dX9_red_16 : decode cX9_red 16 = .ok (.invokestatic 104, 3) := by decide +kernel
theorem dX9_red_19 : decode cX9_red 19 = .ok (.ifCond .ne 6, 3) := by decide +kernel
theorem dX9_red_22 : decode cX9_red 22 = .ok (.bipush (-7), 2) := by decide +kernel
theorem dX9_red_24 : decode cX9_red 24 = .ok (.ireturn, 1) := by decide +kernel
theorem dX9_red_25 : decode cX9_red 25 = .ok (.aload_n 0, 1) := by decide +kernel
theorem dX9_red_26 : decode cX9_red 26 = .ok (.iload_n 1, 1) := by decide +kernel
theorem dX9_red_27 : decode cX9_red 27 = .ok (.bipush 40, 2) := by decide +kernel
theorem dX9_red_29 : decode cX9_red 29 = .ok (.invokevirtual 189, 3) := by decide +kernel
theorem dX9_red_32 : decode cX9_red 32 = .ok (.aload_n 0, 1) := by decide +kernel
theorem dX9_red_33 : decode cX9_red 33 = .ok (.iload_n 1, 1) := by decide +kernel
theorem dX9_red_34 : decode cX9_red 34 = .ok (.iload_n 2, 1) := by decide +kernel
theorem dX9_red_35 : decode cX9_red 35 = .ok (.invokevirtual 202, 3) := by decide +kernel
theorem dX9_red_38 : decode cX9_red 38 = .ok (.ireturn, 1) := by decide +kernel
theorem dX9_row_0 : decode cX9_row 0 = .ok (.iload_n 1, 1) := by decide +kernel
theorem dX9_row_1 : decode cX9_row 1 = .ok (.bipush 40, 2) := by decide +kernel
theorem dX9_row_3 : decode cX9_row 3 = .ok (.invokestatic 104, 3) := by decide +kernel
theorem dX9_row_6 : decode cX9_row 6 = .ok (.ifCond .ne 6, 3) := by decide +kernel
theorem dX9_row_9 : decode cX9_row 9 = .ok (.bipush (-5), 2) := by decide +kernel
theorem dX9_row_11 : decode cX9_row 11 = .ok (.ireturn, 1) := by decide +kernel
theorem dX9_row_12 : decode cX9_row 12 = .ok (.iload_n 2, 1) := by decide +kernel
theorem dX9_row_13 : decode cX9_row 13 = .ok (.iconst 2, 1) := by decide +kernel
theorem dX9_row_14 : decode cX9_row 14 = .ok (.invokestatic 104, 3) := by decide +kernel
theorem dX9_row_17 : decode cX9_row 17 = .ok (.ifCond .ne 6, 3) := by decide +kernel
theorem dX9_row_20 : decode cX9_row 20 = .ok (.bipush (-7), 2) := by decide +kernel
theorem dX9_row_22 : decode cX9_row 22 = .ok (.ireturn, 1) := by decide +kernel
theorem dX9_row_23 : decode cX9_row 23 = .ok (.aload_n 0, 1) := by decide +kernel
theorem dX9_row_24 : decode cX9_row 24 = .ok (.iload_n 1, 1) := by decide +kernel
theorem dX9_row_25 : decode cX9_row 25 = .ok (.invokevirtual 205, 3) := by decide +kernel
theorem dX9_row_28 : decode cX9_row 28 = .ok (.iload_n 2, 1) := by decide +kernel
theorem dX9_row_29 : decode cX9_row 29 = .ok (.lookupswitch 45 #[(0, 27), (1, 36)], 27) := by decide +kernel
theorem dX9_row_56 : decode cX9_row 56 = .ok (.aload_n 0, 1) := by decide +kernel
theorem dX9_row_57 : decode cX9_row 57 = .ok (.getfield 37, 3) := by decide +kernel
theorem dX9_row_60 : decode cX9_row 60 = .ok (.iload_n 1, 1) := by decide +kernel
theorem dX9_row_61 : decode cX9_row 61 = .ok (.invokevirtual 208, 3) := by decide +kernel
theorem dX9_row_64 : decode cX9_row 64 = .ok (.ireturn, 1) := by decide +kernel
theorem dX9_row_65 : decode cX9_row 65 = .ok (.aload_n 0, 1) := by decide +kernel
theorem dX9_row_66 : decode cX9_row 66 = .ok (.getfield 37, 3) := by decide +kernel
theorem dX9_row_69 : decode cX9_row 69 = .ok (.iload_n 1, 1) := by decide +kernel
theorem dX9_row_70 : decode cX9_row 70 = .ok (.invokevirtual 211, 3) := by decide +kernel
theorem dX9_row_73 : decode cX9_row 73 = .ok (.ireturn, 1) := by decide +kernel
theorem dX9_row_74 : decode cX9_row 74 = .ok (.aload_n 0, 1) := by decide +kernel
theorem dX9_row_75 : decode cX9_row 75 = .ok (.getfield 37, 3) := by decide +kernel
theorem dX9_row_78 : decode cX9_row 78 = .ok (.iload_n 1, 1) := by decide +kernel
theorem dX9_row_79 : decode cX9_row 79 = .ok (.invokevirtual 214, 3) := by decide +kernel
theorem dX9_row_82 : decode cX9_row 82 = .ok (.ireturn, 1) := by decide +kernel
theorem dX9_pass_0 : decode cX9_pass 0 = .ok (.iload_n 1, 1) := by decide +kernel
theorem dX9_pass_1 : decode cX9_pass 1 = .ok (.bipush 40, 2) := by decide +kernel
theorem dX9_pass_3 : decode cX9_pass 3 = .ok (.invokestatic 104, 3) := by decide +kernel
theorem dX9_pass_6 : decode cX9_pass 6 = .ok (.ifCond .ne 6, 3) := by decide +kernel
theorem dX9_pass_9 : decode cX9_pass 9 = .ok (.bipush (-2), 2) := by decide +kernel
theorem dX9_pass_11 : decode cX9_pass 11 = .ok (.ireturn, 1) := by decide +kernel
theorem dX9_pass_12 : decode cX9_pass 12 = .ok (.aload_n 0, 1) := by decide +kernel
theorem dX9_pass_13 : decode cX9_pass 13 = .ok (.iload_n 1, 1) := by decide +kernel
theorem dX9_pass_14 : decode cX9_pass 14 = .ok (.invokevirtual 205, 3) := by decide +kernel
theorem dX9_pass_17 : decode cX9_pass 17 = .ok (.iconst 0, 1) := by decide +kernel
theorem dX9_pass_18 : decode cX9_pass 18 = .ok (.istore_n 2, 1) := by decide +kernel
theorem dX9_pass_19 : decode cX9_pass 19 = .ok (.iload_n 2, 1) := by decide +kernel
theorem dX9_pass_20 : decode cX9_pass 20 = .ok (.aload_n 0, 1) := by decide +kernel
theorem dX9_pass_21 : decode cX9_pass 21 = .ok (.getfield 44, 3) := by decide +kernel
theorem dX9_pass_24 : decode cX9_pass 24 = .ok (.getfield 84, 3) := by decide +kernel
theorem dX9_pass_27 : decode cX9_pass 27 = .ok (.if_icmp .ge 32, 3) := by decide +kernel
theorem dX9_pass_30 : decode cX9_pass 30 = .ok (.iload_n 2, 1) := by decide +kernel
theorem dX9_pass_31 : decode cX9_pass 31 = .ok (.iconst 5, 1) := by decide +kernel
theorem dX9_pass_32 : decode cX9_pass 32 = .ok (.if_icmp .ge 27, 3) := by decide +kernel
theorem dX9_pass_35 : decode cX9_pass 35 = .ok (.aload_n 0, 1) := by decide +kernel
theorem dX9_pass_36 : decode cX9_pass 36 = .ok (.getfield 44, 3) := by decide +kernel
theorem dX9_pass_39 : decode cX9_pass 39 = .ok (.getfield 149, 3) := by decide +kernel
theorem dX9_pass_42 : decode cX9_pass 42 = .ok (.iload_n 2, 1) := by decide +kernel
theorem dX9_pass_43 : decode cX9_pass 43 = .ok (.aload_n 0, 1) := by decide +kernel
theorem dX9_pass_44 : decode cX9_pass 44 = .ok (.getfield 37, 3) := by decide +kernel
theorem dX9_pass_47 : decode cX9_pass 47 = .ok (.iload_n 1, 1) := by decide +kernel
theorem dX9_pass_48 : decode cX9_pass 48 = .ok (.iload_n 2, 1) := by decide +kernel
theorem dX9_pass_49 : decode cX9_pass 49 = .ok (.invokevirtual 192, 3) := by decide +kernel
theorem dX9_pass_52 : decode cX9_pass 52 = .ok (.iastore, 1) := by decide +kernel
theorem dX9_pass_53 : decode cX9_pass 53 = .ok (.iinc 2 1, 3) := by decide +kernel
theorem dX9_pass_56 : decode cX9_pass 56 = .ok (.goto (-37), 3) := by decide +kernel
theorem dX9_pass_59 : decode cX9_pass 59 = .ok (.aload_n 0, 1) := by decide +kernel
theorem dX9_pass_60 : decode cX9_pass 60 = .ok (.getfield 37, 3) := by decide +kernel
theorem dX9_pass_63 : decode cX9_pass 63 = .ok (.iload_n 1, 1) := by decide +kernel
theorem dX9_pass_64 : decode cX9_pass 64 = .ok (.invokevirtual 208, 3) := by decide +kernel
theorem dX9_pass_67 : decode cX9_pass 67 = .ok (.invokestatic 217, 3) := by decide +kernel
theorem dX9_pass_70 : decode cX9_pass 70 = .ok (.ireturn, 1) := by decide +kernel
theorem dX9_dies_0 : decode cX9_dies 0 = .ok (.aload_n 0, 1) := by decide +kernel
theorem dX9_dies_1 : decode cX9_dies 1 = .ok (.getfield 44, 3) := by decide +kernel
theorem dX9_dies_4 : decode cX9_dies 4 = .ok (.iload_n 1, 1) := by decide +kernel
theorem dX9_dies_5 : decode cX9_dies 5 = .ok (.invokevirtual 146, 3) := by decide +kernel
theorem dX9_dies_8 : decode cX9_dies 8 = .ok (.ifCond .ne 6, 3) := by decide +kernel
theorem dX9_dies_11 : decode cX9_dies 11 = .ok (.bipush (-5), 2) := by decide +kernel
theorem dX9_dies_13 : decode cX9_dies 13 = .ok (.ireturn, 1) := by decide +kernel
theorem dX9_dies_14 : decode cX9_dies 14 = .ok (.aload_n 0, 1) := by decide +kernel
theorem dX9_dies_15 : decode cX9_dies 15 = .ok (.iload_n 1, 1) := by decide +kernel
theorem dX9_dies_16 : decode cX9_dies 16 = .ok (.bipush 40, 2) := by decide +kernel
theorem dX9_dies_18 : decode cX9_dies 18 = .ok (.invokevirtual 189, 3) := by decide +kernel
theorem dX9_dies_21 : decode cX9_dies 21 = .ok (.aload_n 0, 1) := by decide +kernel
theorem dX9_dies_22 : decode cX9_dies 22 = .ok (.getfield 37, 3) := by decide +kernel
theorem dX9_dies_25 : decode cX9_dies 25 = .ok (.iload_n 1, 1) := by decide +kernel
theorem dX9_dies_26 : decode cX9_dies 26 = .ok (.invokevirtual 222, 3) := by decide +kernel
theorem dX9_dies_29 : decode cX9_dies 29 = .ok (.sipush 400, 3) := by decide +kernel
theorem dX9_dies_32 : decode cX9_dies 32 = .ok (.if_icmp .lt 5, 3) := by decide +kernel
theorem dX9_dies_35 : decode cX9_dies 35 = .ok (.iconst 2, 1) := by decide +kernel
theorem dX9_dies_36 : decode cX9_dies 36 = .ok (.ireturn, 1) := by decide +kernel
theorem dX9_dies_37 : decode cX9_dies 37 = .ok (.aload_n 0, 1) := by decide +kernel
theorem dX9_dies_38 : decode cX9_dies 38 = .ok (.getfield 37, 3) := by decide +kernel
theorem dX9_dies_41 : decode cX9_dies 41 = .ok (.bipush 40, 2) := by decide +kernel
theorem dX9_dies_43 : decode cX9_dies 43 = .ok (.iload_n 1, 1) := by decide +kernel
theorem dX9_dies_44 : decode cX9_dies 44 = .ok (.invokevirtual 196, 3) := by decide +kernel
theorem dX9_dies_47 : decode cX9_dies 47 = .ok (.ifCond .eq 7, 3) := by decide +kernel
theorem dX9_dies_50 : decode cX9_dies 50 = .ok (.iconst 1, 1) := by decide +kernel
theorem dX9_dies_51 : decode cX9_dies 51 = .ok (.goto 4, 3) := by decide +kernel
theorem dX9_dies_54 : decode cX9_dies 54 = .ok (.iconst 0, 1) := by decide +kernel
theorem dX9_dies_55 : decode cX9_dies 55 = .ok (.ireturn, 1) := by decide +kernel
theorem dX9_line_0 : decode cX9_line 0 = .ok (.aload_n 0, 1) := by decide +kernel
theorem dX9_line_1 : decode cX9_line 1 = .ok (.getfield 44, 3) := by decide +kernel
theorem dX9_line_4 : decode cX9_line 4 = .ok (.iload_n 1, 1) := by decide +kernel
theorem dX9_line_5 : decode cX9_line 5 = .ok (.invokevirtual 146, 3) := by decide +kernel
theorem dX9_line_8 : decode cX9_line 8 = .ok (.ifCond .ne 6, 3) := by decide +kernel
theorem dX9_line_11 : decode cX9_line 11 = .ok (.bipush (-5), 2) := by decide +kernel
theorem dX9_line_13 : decode cX9_line 13 = .ok (.ireturn, 1) := by decide +kernel
theorem dX9_line_14 : decode cX9_line 14 = .ok (.sipush 390, 3) := by decide +kernel
theorem dX9_line_17 : decode cX9_line 17 = .ok (.istore_n 2, 1) := by decide +kernel
theorem dX9_line_18 : decode cX9_line 18 = .ok (.iload_n 2, 1) := by decide +kernel
theorem dX9_line_19 : decode cX9_line 19 = .ok (.ifCond .lt 53, 3) := by decide +kernel
theorem dX9_line_22 : decode cX9_line 22 = .ok (.aload_n 0, 1) := by decide +kernel
theorem dX9_line_23 : decode cX9_line 23 = .ok (.getfield 48, 3) := by decide +kernel
theorem dX9_line_26 : decode cX9_line 26 = .ok (.aload_n 0, 1) := by decide +kernel
theorem dX9_line_27 : decode cX9_line 27 = .ok (.getfield 44, 3) := by decide +kernel
theorem dX9_line_30 : decode cX9_line 30 = .ok (.invokevirtual 225, 3) := by decide +kernel
theorem dX9_line_33 : decode cX9_line 33 = .ok (.aload_n 0, 1) := by decide +kernel
theorem dX9_line_34 : decode cX9_line 34 = .ok (.getfield 48, 3) := by decide +kernel
theorem dX9_line_37 : decode cX9_line 37 = .ok (.getfield 149, 3) := by decide +kernel
theorem dX9_line_40 : decode cX9_line 40 = .ok (.iload_n 1, 1) := by decide +kernel
theorem dX9_line_41 : decode cX9_line 41 = .ok (.iload_n 2, 1) := by decide +kernel
theorem dX9_line_42 : decode cX9_line 42 = .ok (.iastore, 1) := by decide +kernel
theorem dX9_line_43 : decode cX9_line 43 = .ok (.aload_n 0, 1) := by decide +kernel
theorem dX9_line_44 : decode cX9_line 44 = .ok (.iload_n 1, 1) := by decide +kernel
theorem dX9_line_45 : decode cX9_line 45 = .ok (.bipush 40, 2) := by decide +kernel
theorem dX9_line_47 : decode cX9_line 47 = .ok (.invokevirtual 229, 3) := by decide +kernel
theorem dX9_line_50 : decode cX9_line 50 = .ok (.aload_n 0, 1) := by decide +kernel
theorem dX9_line_51 : decode cX9_line 51 = .ok (.getfield 37, 3) := by decide +kernel
theorem dX9_line_54 : decode cX9_line 54 = .ok (.iload_n 1, 1) := by decide +kernel
theorem dX9_line_55 : decode cX9_line 55 = .ok (.invokevirtual 222, 3) := by decide +kernel
theorem dX9_line_58 : decode cX9_line 58 = .ok (.sipush 400, 3) := by decide +kernel
theorem dX9_line_61 : decode cX9_line 61 = .ok (.if_icmp .ge 5, 3) := by decide +kernel
theorem dX9_line_64 : decode cX9_line 64 = .ok (.iload_n 2, 1) := by decide +kernel
theorem dX9_line_65 : decode cX9_line 65 = .ok (.ireturn, 1) := by decide +kernel
theorem dX9_line_66 : decode cX9_line 66 = .ok (.iinc 2 (-10), 3) := by decide +kernel
theorem dX9_line_69 : decode cX9_line 69 = .ok (.goto (-51), 3) := by decide +kernel
theorem dX9_line_72 : decode cX9_line 72 = .ok (.iconst (-1), 1) := by decide +kernel
theorem dX9_line_73 : decode cX9_line 73 = .ok (.ireturn, 1) := by decide +kernel
theorem dX9_stops_0 : decode cX9_stops 0 = .ok (.aload_n 0, 1) := by decide +kernel
theorem dX9_stops_1 : decode cX9_stops 1 = .ok (.getfield 44, 3) := by decide +kernel
theorem dX9_stops_4 : decode cX9_stops 4 = .ok (.iload_n 1, 1) := by decide +kernel
theorem dX9_stops_5 : decode cX9_stops 5 = .ok (.invokevirtual 146, 3) := by decide +kernel
theorem dX9_stops_8 : decode cX9_stops 8 = .ok (.ifCond .ne 6, 3) := by decide +kernel
theorem dX9_stops_11 : decode cX9_stops 11 = .ok (.bipush (-5), 2) := by decide +kernel
theorem dX9_stops_13 : decode cX9_stops 13 = .ok (.ireturn, 1) := by decide +kernel
theorem dX9_stops_14 : decode cX9_stops 14 = .ok (.iload_n 2, 1) := by decide +kernel
theorem dX9_stops_15 : decode cX9_stops 15 = .ok (.ifCond .lt 24, 3) := by decide +kernel
theorem dX9_stops_18 : decode cX9_stops 18 = .ok (.iload_n 2, 1) := by decide +kernel
theorem dX9_stops_19 : decode cX9_stops 19 = .ok (.bipush 100, 2) := by decide +kernel
theorem dX9_stops_21 : decode cX9_stops 21 = .ok (.idiv, 1) := by decide +kernel
theorem dX9_stops_22 : decode cX9_stops 22 = .ok (.iconst 4, 1) := by decide +kernel
theorem dX9_stops_23 : decode cX9_stops 23 = .ok (.if_icmp .ge 16, 3) := by decide +kernel
theorem dX9_stops_26 : decode cX9_stops 26 = .ok (.iload_n 2, 1) := by decide +kernel
theorem dX9_stops_27 : decode cX9_stops 27 = .ok (.bipush 100, 2) := by decide +kernel
theorem dX9_stops_29 : decode cX9_stops 29 = .ok (.irem, 1) := by decide +kernel
theorem dX9_stops_30 : decode cX9_stops 30 = .ok (.bipush 20, 2) := by decide +kernel
theorem dX9_stops_32 : decode cX9_stops 32 = .ok (.if_icmp .ge 7, 3) := by decide +kernel
theorem dX9_stops_35 : decode cX9_stops 35 = .ok (.iconst 1, 1) := by decide +kernel
theorem dX9_stops_36 : decode cX9_stops 36 = .ok (.goto 4, 3) := by decide +kernel
theorem dX9_stops_39 : decode cX9_stops 39 = .ok (.iconst 0, 1) := by decide +kernel
theorem dX9_stops_40 : decode cX9_stops 40 = .ok (.istore 4, 2) := by decide +kernel
theorem dX9_stops_42 : decode cX9_stops 42 = .ok (.iload 4, 2) := by decide +kernel
theorem dX9_stops_44 : decode cX9_stops 44 = .ok (.ifCond .eq 11, 3) := by decide +kernel
theorem dX9_stops_47 : decode cX9_stops 47 = .ok (.iload_n 3, 1) := by decide +kernel
theorem dX9_stops_48 : decode cX9_stops 48 = .ok (.iconst 4, 1) := by decide +kernel
theorem dX9_stops_49 : decode cX9_stops 49 = .ok (.invokestatic 104, 3) := by decide +kernel
theorem dX9_stops_52 : decode cX9_stops 52 = .ok (.ifCond .ne 6, 3) := by decide +kernel
theorem dX9_stops_55 : decode cX9_stops 55 = .ok (.bipush (-7), 2) := by decide +kernel
theorem dX9_stops_57 : decode cX9_stops 57 = .ok (.ireturn, 1) := by decide +kernel
theorem dX9_stops_58 : decode cX9_stops 58 = .ok (.aload_n 0, 1) := by decide +kernel
theorem dX9_stops_59 : decode cX9_stops 59 = .ok (.iload_n 1, 1) := by decide +kernel
theorem dX9_stops_60 : decode cX9_stops 60 = .ok (.iload_n 2, 1) := by decide +kernel
theorem dX9_stops_61 : decode cX9_stops 61 = .ok (.bipush 100, 2) := by decide +kernel
theorem dX9_stops_63 : decode cX9_stops 63 = .ok (.idiv, 1) := by decide +kernel
theorem dX9_stops_64 : decode cX9_stops 64 = .ok (.iload_n 2, 1) := by decide +kernel
theorem dX9_stops_65 : decode cX9_stops 65 = .ok (.bipush 100, 2) := by decide +kernel
theorem dX9_stops_67 : decode cX9_stops 67 = .ok (.irem, 1) := by decide +kernel
theorem dX9_stops_68 : decode cX9_stops 68 = .ok (.invokevirtual 232, 3) := by decide +kernel
theorem dX9_stops_71 : decode cX9_stops 71 = .ok (.aload_n 0, 1) := by decide +kernel
theorem dX9_stops_72 : decode cX9_stops 72 = .ok (.iload_n 1, 1) := by decide +kernel
theorem dX9_stops_73 : decode cX9_stops 73 = .ok (.iload_n 3, 1) := by decide +kernel
theorem dX9_stops_74 : decode cX9_stops 74 = .ok (.invokevirtual 202, 3) := by decide +kernel
theorem dX9_stops_77 : decode cX9_stops 77 = .ok (.ireturn, 1) := by decide +kernel
theorem dX9_best_0 : decode cX9_best 0 = .ok (.aload_n 0, 1) := by decide +kernel
theorem dX9_best_1 : decode cX9_best 1 = .ok (.getfield 44, 3) := by decide +kernel
theorem dX9_best_4 : decode cX9_best 4 = .ok (.iload_n 1, 1) := by decide +kernel
theorem dX9_best_5 : decode cX9_best 5 = .ok (.invokevirtual 146, 3) := by decide +kernel
theorem dX9_best_8 : decode cX9_best 8 = .ok (.ifCond .ne 6, 3) := by decide +kernel
theorem dX9_best_11 : decode cX9_best 11 = .ok (.bipush (-5), 2) := by decide +kernel
theorem dX9_best_13 : decode cX9_best 13 = .ok (.ireturn, 1) := by decide +kernel
theorem dX9_best_14 : decode cX9_best 14 = .ok (.iload_n 2, 1) := by decide +kernel
theorem dX9_best_15 : decode cX9_best 15 = .ok (.iconst 1, 1) := by decide +kernel
theorem dX9_best_16 : decode cX9_best 16 = .ok (.invokestatic 104, 3) := by decide +kernel
theorem dX9_best_19 : decode cX9_best 19 = .ok (.ifCond .ne 6, 3) := by decide +kernel
theorem dX9_best_22 : decode cX9_best 22 = .ok (.bipush (-7), 2) := by decide +kernel
theorem dX9_best_24 : decode cX9_best 24 = .ok (.ireturn, 1) := by decide +kernel
theorem dX9_best_25 : decode cX9_best 25 = .ok (.aload_n 0, 1) := by decide +kernel
theorem dX9_best_26 : decode cX9_best 26 = .ok (.iload_n 1, 1) := by decide +kernel
theorem dX9_best_27 : decode cX9_best 27 = .ok (.bipush 40, 2) := by decide +kernel
theorem dX9_best_29 : decode cX9_best 29 = .ok (.invokevirtual 189, 3) := by decide +kernel
theorem dX9_best_32 : decode cX9_best 32 = .ok (.aload_n 0, 1) := by decide +kernel
theorem dX9_best_33 : decode cX9_best 33 = .ok (.getfield 37, 3) := by decide +kernel
theorem dX9_best_36 : decode cX9_best 36 = .ok (.iload_n 1, 1) := by decide +kernel
theorem dX9_best_37 : decode cX9_best 37 = .ok (.invokevirtual 236, 3) := by decide +kernel
theorem dX9_best_40 : decode cX9_best 40 = .ok (.istore_n 3, 1) := by decide +kernel
theorem dX9_best_41 : decode cX9_best 41 = .ok (.iconst (-1), 1) := by decide +kernel
theorem dX9_best_42 : decode cX9_best 42 = .ok (.istore 4, 2) := by decide +kernel
theorem dX9_best_44 : decode cX9_best 44 = .ok (.iconst 0, 1) := by decide +kernel
theorem dX9_best_45 : decode cX9_best 45 = .ok (.istore 5, 2) := by decide +kernel
theorem dX9_best_47 : decode cX9_best 47 = .ok (.iload 5, 2) := by decide +kernel
theorem dX9_best_49 : decode cX9_best 49 = .ok (.iconst 4, 1) := by decide +kernel
theorem dX9_best_50 : decode cX9_best 50 = .ok (.if_icmp .ge 67, 3) := by decide +kernel
theorem dX9_best_53 : decode cX9_best 53 = .ok (.iconst 0, 1) := by decide +kernel
theorem dX9_best_54 : decode cX9_best 54 = .ok (.istore 6, 2) := by decide +kernel
theorem dX9_best_56 : decode cX9_best 56 = .ok (.iload 6, 2) := by decide +kernel
theorem dX9_best_58 : decode cX9_best 58 = .ok (.bipush 20, 2) := by decide +kernel
theorem dX9_best_60 : decode cX9_best 60 = .ok (.if_icmp .ge 51, 3) := by decide +kernel
theorem dX9_best_63 : decode cX9_best 63 = .ok (.iload_n 3, 1) := by decide +kernel
theorem dX9_best_64 : decode cX9_best 64 = .ok (.ifCond .le 47, 3) := by decide +kernel
theorem dX9_best_67 : decode cX9_best 67 = .ok (.aload_n 0, 1) := by decide +kernel
theorem dX9_best_68 : decode cX9_best 68 = .ok (.iload_n 1, 1) := by decide +kernel
theorem dX9_best_69 : decode cX9_best 69 = .ok (.iload 5, 2) := by decide +kernel
theorem dX9_best_71 : decode cX9_best 71 = .ok (.iload 6, 2) := by decide +kernel
theorem dX9_best_73 : decode cX9_best 73 = .ok (.invokevirtual 232, 3) := by decide +kernel
theorem dX9_best_76 : decode cX9_best 76 = .ok (.aload_n 0, 1) := by decide +kernel
theorem dX9_best_77 : decode cX9_best 77 = .ok (.getfield 37, 3) := by decide +kernel
theorem dX9_best_80 : decode cX9_best 80 = .ok (.iload_n 1, 1) := by decide +kernel
theorem dX9_best_81 : decode cX9_best 81 = .ok (.invokevirtual 236, 3) := by decide +kernel
theorem dX9_best_84 : decode cX9_best 84 = .ok (.istore 7, 2) := by decide +kernel
theorem dX9_best_86 : decode cX9_best 86 = .ok (.iload 7, 2) := by decide +kernel
theorem dX9_best_88 : decode cX9_best 88 = .ok (.iload_n 3, 1) := by decide +kernel
theorem dX9_best_89 : decode cX9_best 89 = .ok (.if_icmp .ge 16, 3) := by decide +kernel
theorem dX9_best_92 : decode cX9_best 92 = .ok (.iload 7, 2) := by decide +kernel
theorem dX9_best_94 : decode cX9_best 94 = .ok (.istore_n 3, 1) := by decide +kernel
theorem dX9_best_95 : decode cX9_best 95 = .ok (.bipush 100, 2) := by decide +kernel
theorem dX9_best_97 : decode cX9_best 97 = .ok (.iload 5, 2) := by decide +kernel
theorem dX9_best_99 : decode cX9_best 99 = .ok (.imul, 1) := by decide +kernel
theorem dX9_best_100 : decode cX9_best 100 = .ok (.iload 6, 2) := by decide +kernel
theorem dX9_best_102 : decode cX9_best 102 = .ok (.iadd, 1) := by decide +kernel
theorem dX9_best_103 : decode cX9_best 103 = .ok (.istore 4, 2) := by decide +kernel
theorem dX9_best_105 : decode cX9_best 105 = .ok (.iinc 6 1, 3) := by decide +kernel
theorem dX9_best_108 : decode cX9_best 108 = .ok (.goto (-52), 3) := by decide +kernel
theorem dX9_best_111 : decode cX9_best 111 = .ok (.iinc 5 1, 3) := by decide +kernel
theorem dX9_best_114 : decode cX9_best 114 = .ok (.goto (-67), 3) := by decide +kernel
theorem dX9_best_117 : decode cX9_best 117 = .ok (.iload_n 2, 1) := by decide +kernel
theorem dX9_best_118 : decode cX9_best 118 = .ok (.ifCond .ne 8, 3) := by decide +kernel
theorem dX9_best_121 : decode cX9_best 121 = .ok (.iload 4, 2) := by decide +kernel
theorem dX9_best_123 : decode cX9_best 123 = .ok (.goto 4, 3) := by decide +kernel
theorem dX9_best_126 : decode cX9_best 126 = .ok (.iload_n 3, 1) := by decide +kernel
theorem dX9_best_127 : decode cX9_best 127 = .ok (.ireturn, 1) := by decide +kernel
theorem dX9_latest_0 : decode cX9_latest 0 = .ok (.aload_n 0, 1) := by decide +kernel
theorem dX9_latest_1 : decode cX9_latest 1 = .ok (.getfield 44, 3) := by decide +kernel
theorem dX9_latest_4 : decode cX9_latest 4 = .ok (.iload_n 1, 1) := by decide +kernel
theorem dX9_latest_5 : decode cX9_latest 5 = .ok (.invokevirtual 146, 3) := by decide +kernel
theorem dX9_latest_8 : decode cX9_latest 8 = .ok (.ifCond .ne 6, 3) := by decide +kernel
theorem dX9_latest_11 : decode cX9_latest 11 = .ok (.bipush (-5), 2) := by decide +kernel
theorem dX9_latest_13 : decode cX9_latest 13 = .ok (.ireturn, 1) := by decide +kernel
theorem dX9_latest_14 : decode cX9_latest 14 = .ok (.iload_n 2, 1) := by decide +kernel
theorem dX9_latest_15 : decode cX9_latest 15 = .ok (.iconst 3, 1) := by decide +kernel
theorem dX9_latest_16 : decode cX9_latest 16 = .ok (.invokestatic 104, 3) := by decide +kernel
theorem dX9_latest_19 : decode cX9_latest 19 = .ok (.ifCond .ne 6, 3) := by decide +kernel
theorem dX9_latest_22 : decode cX9_latest 22 = .ok (.bipush (-7), 2) := by decide +kernel
theorem dX9_latest_24 : decode cX9_latest 24 = .ok (.ireturn, 1) := by decide +kernel
theorem dX9_latest_25 : decode cX9_latest 25 = .ok (.bipush 19, 2) := by decide +kernel
theorem dX9_latest_27 : decode cX9_latest 27 = .ok (.istore_n 3, 1) := by decide +kernel
theorem dX9_latest_28 : decode cX9_latest 28 = .ok (.iload_n 3, 1) := by decide +kernel
theorem dX9_latest_29 : decode cX9_latest 29 = .ok (.ifCond .lt 31, 3) := by decide +kernel
theorem dX9_latest_32 : decode cX9_latest 32 = .ok (.aload_n 0, 1) := by decide +kernel
theorem dX9_latest_33 : decode cX9_latest 33 = .ok (.iload_n 1, 1) := by decide +kernel
theorem dX9_latest_34 : decode cX9_latest 34 = .ok (.iload_n 2, 1) := by decide +kernel
theorem dX9_latest_35 : decode cX9_latest 35 = .ok (.iload_n 3, 1) := by decide +kernel
theorem dX9_latest_36 : decode cX9_latest 36 = .ok (.invokevirtual 232, 3) := by decide +kernel
theorem dX9_latest_39 : decode cX9_latest 39 = .ok (.aload_n 0, 1) := by decide +kernel
theorem dX9_latest_40 : decode cX9_latest 40 = .ok (.getfield 37, 3) := by decide +kernel
theorem dX9_latest_43 : decode cX9_latest 43 = .ok (.bipush 40, 2) := by decide +kernel
theorem dX9_latest_45 : decode cX9_latest 45 = .ok (.iload_n 1, 1) := by decide +kernel
theorem dX9_latest_46 : decode cX9_latest 46 = .ok (.invokevirtual 196, 3) := by decide +kernel
theorem dX9_latest_49 : decode cX9_latest 49 = .ok (.ifCond .ne 5, 3) := by decide +kernel
theorem dX9_latest_52 : decode cX9_latest 52 = .ok (.iload_n 3, 1) := by decide +kernel
theorem dX9_latest_53 : decode cX9_latest 53 = .ok (.ireturn, 1) := by decide +kernel
theorem dX9_latest_54 : decode cX9_latest 54 = .ok (.iinc 3 (-1), 3) := by decide +kernel
theorem dX9_latest_57 : decode cX9_latest 57 = .ok (.goto (-29), 3) := by decide +kernel
theorem dX9_latest_60 : decode cX9_latest 60 = .ok (.iconst (-1), 1) := by decide +kernel
theorem dX9_latest_61 : decode cX9_latest 61 = .ok (.ireturn, 1) := by decide +kernel
theorem dX9_adds_0 : decode cX9_adds 0 = .ok (.aload_n 0, 1) := by decide +kernel
theorem dX9_adds_1 : decode cX9_adds 1 = .ok (.getfield 44, 3) := by decide +kernel
theorem dX9_adds_4 : decode cX9_adds 4 = .ok (.iload_n 1, 1) := by decide +kernel
theorem dX9_adds_5 : decode cX9_adds 5 = .ok (.invokevirtual 146, 3) := by decide +kernel
theorem dX9_adds_8 : decode cX9_adds 8 = .ok (.ifCond .eq 19, 3) := by decide +kernel
theorem dX9_adds_11 : decode cX9_adds 11 = .ok (.aload_n 0, 1) := by decide +kernel
theorem dX9_adds_12 : decode cX9_adds 12 = .ok (.getfield 44, 3) := by decide +kernel
theorem dX9_adds_15 : decode cX9_adds 15 = .ok (.iload_n 2, 1) := by decide +kernel
theorem dX9_adds_16 : decode cX9_adds 16 = .ok (.invokevirtual 146, 3) := by decide +kernel
theorem dX9_adds_19 : decode cX9_adds 19 = .ok (.ifCond .eq 8, 3) := by decide +kernel
theorem dX9_adds_22 : decode cX9_adds 22 = .ok (.iload_n 1, 1) := by decide +kernel
theorem dX9_adds_23 : decode cX9_adds 23 = .ok (.iload_n 2, 1) := by decide +kernel
theorem dX9_adds_24 : decode cX9_adds 24 = .ok (.if_icmp .ne 6, 3) := by decide +kernel
theorem dX9_adds_27 : decode cX9_adds 27 = .ok (.ldc 239, 2) := by decide +kernel
theorem dX9_adds_29 : decode cX9_adds 29 = .ok (.ireturn, 1) := by decide +kernel
theorem dX9_adds_30 : decode cX9_adds 30 = .ok (.aload_n 0, 1) := by decide +kernel
theorem dX9_adds_31 : decode cX9_adds 31 = .ok (.iload_n 1, 1) := by decide +kernel
theorem dX9_adds_32 : decode cX9_adds 32 = .ok (.bipush 40, 2) := by decide +kernel
theorem dX9_adds_34 : decode cX9_adds 34 = .ok (.invokevirtual 189, 3) := by decide +kernel
theorem dX9_adds_37 : decode cX9_adds 37 = .ok (.aload_n 0, 1) := by decide +kernel
theorem dX9_adds_38 : decode cX9_adds 38 = .ok (.getfield 37, 3) := by decide +kernel
theorem dX9_adds_41 : decode cX9_adds 41 = .ok (.iload_n 1, 1) := by decide +kernel
theorem dX9_adds_42 : decode cX9_adds 42 = .ok (.invokevirtual 240, 3) := by decide +kernel
theorem dX9_adds_45 : decode cX9_adds 45 = .ok (.aload_n 0, 1) := by decide +kernel
theorem dX9_adds_46 : decode cX9_adds 46 = .ok (.iload_n 1, 1) := by decide +kernel
theorem dX9_adds_47 : decode cX9_adds 47 = .ok (.iload_n 2, 1) := by decide +kernel
theorem dX9_adds_48 : decode cX9_adds 48 = .ok (.invokevirtual 243, 3) := by decide +kernel
theorem dX9_adds_51 : decode cX9_adds 51 = .ok (.isub, 1) := by decide +kernel
theorem dX9_adds_52 : decode cX9_adds 52 = .ok (.ireturn, 1) := by decide +kernel
theorem dX9_turn_0 : decode cX9_turn 0 = .ok (.aload_n 0, 1) := by decide +kernel
theorem dX9_turn_1 : decode cX9_turn 1 = .ok (.getfield 44, 3) := by decide +kernel
theorem dX9_turn_4 : decode cX9_turn 4 = .ok (.iload_n 1, 1) := by decide +kernel
theorem dX9_turn_5 : decode cX9_turn 5 = .ok (.invokevirtual 146, 3) := by decide +kernel
theorem dX9_turn_8 : decode cX9_turn 8 = .ok (.ifCond .eq 11, 3) := by decide +kernel
theorem dX9_turn_11 : decode cX9_turn 11 = .ok (.iload_n 2, 1) := by decide +kernel
theorem dX9_turn_12 : decode cX9_turn 12 = .ok (.iconst 1, 1) := by decide +kernel
theorem dX9_turn_13 : decode cX9_turn 13 = .ok (.invokestatic 104, 3) := by decide +kernel
theorem dX9_turn_16 : decode cX9_turn 16 = .ok (.ifCond .ne 6, 3) := by decide +kernel
theorem dX9_turn_19 : decode cX9_turn 19 = .ok (.ldc 239, 2) := by decide +kernel
theorem dX9_turn_21 : decode cX9_turn 21 = .ok (.ireturn, 1) := by decide +kernel
theorem dX9_turn_22 : decode cX9_turn 22 = .ok (.aload_n 0, 1) := by decide +kernel
theorem dX9_turn_23 : decode cX9_turn 23 = .ok (.iload_n 1, 1) := by decide +kernel
theorem dX9_turn_24 : decode cX9_turn 24 = .ok (.bipush 40, 2) := by decide +kernel
theorem dX9_turn_26 : decode cX9_turn 26 = .ok (.invokevirtual 189, 3) := by decide +kernel
theorem dX9_turn_29 : decode cX9_turn 29 = .ok (.aload_n 0, 1) := by decide +kernel
theorem dX9_turn_30 : decode cX9_turn 30 = .ok (.getfield 37, 3) := by decide +kernel
theorem dX9_turn_33 : decode cX9_turn 33 = .ok (.iload_n 1, 1) := by decide +kernel
theorem dX9_turn_34 : decode cX9_turn 34 = .ok (.invokevirtual 240, 3) := by decide +kernel
theorem dX9_turn_37 : decode cX9_turn 37 = .ok (.istore_n 3, 1) := by decide +kernel
theorem dX9_turn_38 : decode cX9_turn 38 = .ok (.iconst (-1), 1) := by decide +kernel
theorem dX9_turn_39 : decode cX9_turn 39 = .ok (.istore 4, 2) := by decide +kernel
theorem dX9_turn_41 : decode cX9_turn 41 = .ok (.iconst 0, 1) := by decide +kernel
theorem dX9_turn_42 : decode cX9_turn 42 = .ok (.istore 5, 2) := by decide +kernel
theorem dX9_turn_44 : decode cX9_turn 44 = .ok (.iconst 0, 1) := by decide +kernel
theorem dX9_turn_45 : decode cX9_turn 45 = .ok (.istore 6, 2) := by decide +kernel
theorem dX9_turn_47 : decode cX9_turn 47 = .ok (.iload 6, 2) := by decide +kernel
theorem dX9_turn_49 : decode cX9_turn 49 = .ok (.aload_n 0, 1) := by decide +kernel
theorem dX9_turn_50 : decode cX9_turn 50 = .ok (.getfield 44, 3) := by decide +kernel
theorem dX9_turn_53 : decode cX9_turn 53 = .ok (.getfield 84, 3) := by decide +kernel
theorem dX9_turn_56 : decode cX9_turn 56 = .ok (.if_icmp .ge 47, 3) := by decide +kernel
theorem dX9_turn_59 : decode cX9_turn 59 = .ok (.iload 6, 2) := by decide +kernel
theorem dX9_turn_61 : decode cX9_turn 61 = .ok (.iload_n 1, 1) := by decide +kernel
theorem dX9_turn_62 : decode cX9_turn 62 = .ok (.if_icmp .eq 35, 3) := by decide +kernel
theorem dX9_turn_65 : decode cX9_turn 65 = .ok (.iload_n 3, 1) := by decide +kernel
theorem dX9_turn_66 : decode cX9_turn 66 = .ok (.aload_n 0, 1) := by decide +kernel
theorem dX9_turn_67 : decode cX9_turn 67 = .ok (.iload_n 1, 1) := by decide +kernel
theorem dX9_turn_68 : decode cX9_turn 68 = .ok (.iload 6, 2) := by decide +kernel
theorem dX9_turn_70 : decode cX9_turn 70 = .ok (.invokevirtual 243, 3) := by decide +kernel
theorem dX9_turn_73 : decode cX9_turn 73 = .ok (.isub, 1) := by decide +kernel
theorem dX9_turn_74 : decode cX9_turn 74 = .ok (.istore 7, 2) := by decide +kernel
theorem dX9_turn_76 : decode cX9_turn 76 = .ok (.iload 4, 2) := by decide +kernel
theorem dX9_turn_78 : decode cX9_turn 78 = .ok (.iconst (-1), 1) := by decide +kernel
theorem dX9_turn_79 : decode cX9_turn 79 = .ok (.if_icmp .eq 10, 3) := by decide +kernel
theorem dX9_turn_82 : decode cX9_turn 82 = .ok (.iload 7, 2) := by decide +kernel
theorem dX9_turn_84 : decode cX9_turn 84 = .ok (.iload 5, 2) := by decide +kernel
theorem dX9_turn_86 : decode cX9_turn 86 = .ok (.if_icmp .le 11, 3) := by decide +kernel
theorem dX9_turn_89 : decode cX9_turn 89 = .ok (.iload 6, 2) := by decide +kernel
theorem dX9_turn_91 : decode cX9_turn 91 = .ok (.istore 4, 2) := by decide +kernel
theorem dX9_turn_93 : decode cX9_turn 93 = .ok (.iload 7, 2) := by decide +kernel
theorem dX9_turn_95 : decode cX9_turn 95 = .ok (.istore 5, 2) := by decide +kernel
theorem dX9_turn_97 : decode cX9_turn 97 = .ok (.iinc 6 1, 3) := by decide +kernel
theorem dX9_turn_100 : decode cX9_turn 100 = .ok (.goto (-53), 3) := by decide +kernel
theorem dX9_turn_103 : decode cX9_turn 103 = .ok (.iload_n 2, 1) := by decide +kernel
theorem dX9_turn_104 : decode cX9_turn 104 = .ok (.ifCond .ne 8, 3) := by decide +kernel
theorem dX9_turn_107 : decode cX9_turn 107 = .ok (.iload 4, 2) := by decide +kernel
theorem dX9_turn_109 : decode cX9_turn 109 = .ok (.goto 5, 3) := by decide +kernel
theorem dX9_turn_112 : decode cX9_turn 112 = .ok (.iload 5, 2) := by decide +kernel
theorem dX9_turn_114 : decode cX9_turn 114 = .ok (.ireturn, 1) := by decide +kernel
theorem dX9_stares_0 : decode cX9_stares 0 = .ok (.aload_n 0, 1) := by decide +kernel
theorem dX9_stares_1 : decode cX9_stares 1 = .ok (.getfield 44, 3) := by decide +kernel
theorem dX9_stares_4 : decode cX9_stares 4 = .ok (.iload_n 1, 1) := by decide +kernel
theorem dX9_stares_5 : decode cX9_stares 5 = .ok (.invokevirtual 146, 3) := by decide +kernel
theorem dX9_stares_8 : decode cX9_stares 8 = .ok (.ifCond .ne 6, 3) := by decide +kernel
theorem dX9_stares_11 : decode cX9_stares 11 = .ok (.ldc 239, 2) := by decide +kernel
theorem dX9_stares_13 : decode cX9_stares 13 = .ok (.ireturn, 1) := by decide +kernel
theorem dX9_stares_14 : decode cX9_stares 14 = .ok (.aload_n 0, 1) := by decide +kernel
theorem dX9_stares_15 : decode cX9_stares 15 = .ok (.bipush 40, 2) := by decide +kernel
theorem dX9_stares_17 : decode cX9_stares 17 = .ok (.invokevirtual 205, 3) := by decide +kernel
theorem dX9_stares_20 : decode cX9_stares 20 = .ok (.aload_n 0, 1) := by decide +kernel
theorem dX9_stares_21 : decode cX9_stares 21 = .ok (.getfield 37, 3) := by decide +kernel
theorem dX9_stares_24 : decode cX9_stares 24 = .ok (.iload_n 1, 1) := by decide +kernel
theorem dX9_stares_25 : decode cX9_stares 25 = .ok (.invokevirtual 246, 3) := by decide +kernel
theorem dX9_stares_28 : decode cX9_stares 28 = .ok (.istore_n 2, 1) := by decide +kernel
theorem dX9_stares_29 : decode cX9_stares 29 = .ok (.aload_n 0, 1) := by decide +kernel
theorem dX9_stares_30 : decode cX9_stares 30 = .ok (.getfield 28, 3) := by decide +kernel
theorem dX9_stares_33 : decode cX9_stares 33 = .ok (.invokevirtual 249, 3) := by decide +kernel
theorem dX9_stares_36 : decode cX9_stares 36 = .ok (.aload_n 0, 1) := by decide +kernel
theorem dX9_stares_37 : decode cX9_stares 37 = .ok (.getfield 28, 3) := by decide +kernel
theorem dX9_stares_40 : decode cX9_stares 40 = .ok (.iload_n 1, 1) := by decide +kernel
theorem dX9_stares_41 : decode cX9_stares 41 = .ok (.iconst 5, 1) := by decide +kernel
theorem dX9_stares_42 : decode cX9_stares 42 = .ok (.invokevirtual 252, 3) := by decide +kernel
theorem dX9_stares_45 : decode cX9_stares 45 = .ok (.aload_n 0, 1) := by decide +kernel
theorem dX9_stares_46 : decode cX9_stares 46 = .ok (.getfield 37, 3) := by decide +kernel
theorem dX9_stares_49 : decode cX9_stares 49 = .ok (.aload_n 0, 1) := by decide +kernel
theorem dX9_stares_50 : decode cX9_stares 50 = .ok (.getfield 44, 3) := by decide +kernel
theorem dX9_stares_53 : decode cX9_stares 53 = .ok (.bipush 40, 2) := by decide +kernel
theorem dX9_stares_55 : decode cX9_stares 55 = .ok (.invokevirtual 255, 3) := by decide +kernel
theorem dX9_stares_58 : decode cX9_stares 58 = .ok (.iload_n 2, 1) := by decide +kernel
theorem dX9_stares_59 : decode cX9_stares 59 = .ok (.aload_n 0, 1) := by decide +kernel
theorem dX9_stares_60 : decode cX9_stares 60 = .ok (.getfield 37, 3) := by decide +kernel
theorem dX9_stares_63 : decode cX9_stares 63 = .ok (.iload_n 1, 1) := by decide +kernel
theorem dX9_stares_64 : decode cX9_stares 64 = .ok (.invokevirtual 246, 3) := by decide +kernel
theorem dX9_stares_67 : decode cX9_stares 67 = .ok (.isub, 1) := by decide +kernel
theorem dX9_stares_68 : decode cX9_stares 68 = .ok (.ireturn, 1) := by decide +kernel
theorem dX9_where_0 : decode cX9_where 0 = .ok (.aload_n 0, 1) := by decide +kernel
theorem dX9_where_1 : decode cX9_where 1 = .ok (.getfield 44, 3) := by decide +kernel
theorem dX9_where_4 : decode cX9_where 4 = .ok (.iload_n 1, 1) := by decide +kernel
theorem dX9_where_5 : decode cX9_where 5 = .ok (.invokevirtual 146, 3) := by decide +kernel
theorem dX9_where_8 : decode cX9_where 8 = .ok (.ifCond .ne 6, 3) := by decide +kernel
theorem dX9_where_11 : decode cX9_where 11 = .ok (.bipush (-5), 2) := by decide +kernel
theorem dX9_where_13 : decode cX9_where 13 = .ok (.ireturn, 1) := by decide +kernel
theorem dX9_where_14 : decode cX9_where 14 = .ok (.iload_n 2, 1) := by decide +kernel
theorem dX9_where_15 : decode cX9_where 15 = .ok (.iconst 1, 1) := by decide +kernel
theorem dX9_where_16 : decode cX9_where 16 = .ok (.invokestatic 104, 3) := by decide +kernel
theorem dX9_where_19 : decode cX9_where 19 = .ok (.ifCond .ne 6, 3) := by decide +kernel
theorem dX9_where_22 : decode cX9_where 22 = .ok (.bipush (-7), 2) := by decide +kernel
theorem dX9_where_24 : decode cX9_where 24 = .ok (.ireturn, 1) := by decide +kernel
theorem dX9_where_25 : decode cX9_where 25 = .ok (.iconst (-1), 1) := by decide +kernel
theorem dX9_where_26 : decode cX9_where 26 = .ok (.istore_n 3, 1) := by decide +kernel
theorem dX9_where_27 : decode cX9_where 27 = .ok (.iconst 0, 1) := by decide +kernel
theorem dX9_where_28 : decode cX9_where 28 = .ok (.istore 4, 2) := by decide +kernel
theorem dX9_where_30 : decode cX9_where 30 = .ok (.iconst 0, 1) := by decide +kernel
theorem dX9_where_31 : decode cX9_where 31 = .ok (.istore 5, 2) := by decide +kernel
theorem dX9_where_33 : decode cX9_where 33 = .ok (.iload 5, 2) := by decide +kernel
theorem dX9_where_35 : decode cX9_where 35 = .ok (.bipush 8, 2) := by decide +kernel
theorem dX9_where_37 : decode cX9_where 37 = .ok (.if_icmp .ge 66, 3) := by decide +kernel
theorem dX9_where_40 : decode cX9_where 40 = .ok (.aload_n 0, 1) := by decide +kernel
theorem dX9_where_41 : decode cX9_where 41 = .ok (.getfield 48, 3) := by decide +kernel
theorem dX9_where_44 : decode cX9_where 44 = .ok (.aload_n 0, 1) := by decide +kernel
theorem dX9_where_45 : decode cX9_where 45 = .ok (.getfield 44, 3) := by decide +kernel
theorem dX9_where_48 : decode cX9_where 48 = .ok (.invokevirtual 225, 3) := by decide +kernel
theorem dX9_where_51 : decode cX9_where 51 = .ok (.aload_n 0, 1) := by decide +kernel
theorem dX9_where_52 : decode cX9_where 52 = .ok (.getfield 48, 3) := by decide +kernel
theorem dX9_where_55 : decode cX9_where 55 = .ok (.iload_n 1, 1) := by decide +kernel
theorem dX9_where_56 : decode cX9_where 56 = .ok (.iload 5, 2) := by decide +kernel
theorem dX9_where_58 : decode cX9_where 58 = .ok (.invokevirtual 155, 3) := by decide +kernel
theorem dX9_where_61 : decode cX9_where 61 = .ok (.aload_n 0, 1) := by decide +kernel
theorem dX9_where_62 : decode cX9_where 62 = .ok (.iload_n 1, 1) := by decide +kernel
theorem dX9_where_63 : decode cX9_where 63 = .ok (.bipush 40, 2) := by decide +kernel
theorem dX9_where_65 : decode cX9_where 65 = .ok (.invokevirtual 229, 3) := by decide +kernel
theorem dX9_where_68 : decode cX9_where 68 = .ok (.aload_n 0, 1) := by decide +kernel
theorem dX9_where_69 : decode cX9_where 69 = .ok (.getfield 37, 3) := by decide +kernel
theorem dX9_where_72 : decode cX9_where 72 = .ok (.iload_n 1, 1) := by decide +kernel
theorem dX9_where_73 : decode cX9_where 73 = .ok (.invokevirtual 236, 3) := by decide +kernel
theorem dX9_where_76 : decode cX9_where 76 = .ok (.istore 6, 2) := by decide +kernel
theorem dX9_where_78 : decode cX9_where 78 = .ok (.iload_n 3, 1) := by decide +kernel
theorem dX9_where_79 : decode cX9_where 79 = .ok (.iconst (-1), 1) := by decide +kernel
theorem dX9_where_80 : decode cX9_where 80 = .ok (.if_icmp .eq 10, 3) := by decide +kernel
theorem dX9_where_83 : decode cX9_where 83 = .ok (.iload 6, 2) := by decide +kernel
theorem dX9_where_85 : decode cX9_where 85 = .ok (.iload 4, 2) := by decide +kernel
theorem dX9_where_87 : decode cX9_where 87 = .ok (.if_icmp .ge 10, 3) := by decide +kernel
theorem dX9_where_90 : decode cX9_where 90 = .ok (.iload 5, 2) := by decide +kernel
theorem dX9_where_92 : decode cX9_where 92 = .ok (.istore_n 3, 1) := by decide +kernel
theorem dX9_where_93 : decode cX9_where 93 = .ok (.iload 6, 2) := by decide +kernel
theorem dX9_where_95 : decode cX9_where 95 = .ok (.istore 4, 2) := by decide +kernel
theorem dX9_where_97 : decode cX9_where 97 = .ok (.iinc 5 1, 3) := by decide +kernel
theorem dX9_where_100 : decode cX9_where 100 = .ok (.goto (-67), 3) := by decide +kernel
theorem dX9_where_103 : decode cX9_where 103 = .ok (.iload_n 2, 1) := by decide +kernel
theorem dX9_where_104 : decode cX9_where 104 = .ok (.ifCond .ne 7, 3) := by decide +kernel
theorem dX9_where_107 : decode cX9_where 107 = .ok (.iload_n 3, 1) := by decide +kernel
theorem dX9_where_108 : decode cX9_where 108 = .ok (.goto 5, 3) := by decide +kernel
theorem dX9_where_111 : decode cX9_where 111 = .ok (.iload 4, 2) := by decide +kernel
theorem dX9_where_113 : decode cX9_where 113 = .ok (.ireturn, 1) := by decide +kernel
theorem dX9_change_0 : decode cX9_change 0 = .ok (.iload_n 1, 1) := by decide +kernel
theorem dX9_change_1 : decode cX9_change 1 = .ok (.iconst 1, 1) := by decide +kernel
theorem dX9_change_2 : decode cX9_change 2 = .ok (.invokestatic 104, 3) := by decide +kernel
theorem dX9_change_5 : decode cX9_change 5 = .ok (.ifCond .ne 6, 3) := by decide +kernel
theorem dX9_change_8 : decode cX9_change 8 = .ok (.bipush (-2), 2) := by decide +kernel
theorem dX9_change_10 : decode cX9_change 10 = .ok (.ireturn, 1) := by decide +kernel
theorem dX9_change_11 : decode cX9_change 11 = .ok (.aload_n 0, 1) := by decide +kernel
theorem dX9_change_12 : decode cX9_change 12 = .ok (.bipush 40, 2) := by decide +kernel
theorem dX9_change_14 : decode cX9_change 14 = .ok (.invokevirtual 205, 3) := by decide +kernel
theorem dX9_change_17 : decode cX9_change 17 = .ok (.aload_n 0, 1) := by decide +kernel
theorem dX9_change_18 : decode cX9_change 18 = .ok (.getfield 37, 3) := by decide +kernel
theorem dX9_change_21 : decode cX9_change 21 = .ok (.invokevirtual 259, 3) := by decide +kernel
theorem dX9_change_24 : decode cX9_change 24 = .ok (.istore_n 2, 1) := by decide +kernel
theorem dX9_change_25 : decode cX9_change 25 = .ok (.iconst (-1), 1) := by decide +kernel
theorem dX9_change_26 : decode cX9_change 26 = .ok (.istore_n 3, 1) := by decide +kernel
theorem dX9_change_27 : decode cX9_change 27 = .ok (.iconst 0, 1) := by decide +kernel
theorem dX9_change_28 : decode cX9_change 28 = .ok (.istore 4, 2) := by decide +kernel
theorem dX9_change_30 : decode cX9_change 30 = .ok (.iload 4, 2) := by decide +kernel
theorem dX9_change_32 : decode cX9_change 32 = .ok (.aload_n 0, 1) := by decide +kernel
theorem dX9_change_33 : decode cX9_change 33 = .ok (.getfield 44, 3) := by decide +kernel
theorem dX9_change_36 : decode cX9_change 36 = .ok (.getfield 84, 3) := by decide +kernel
theorem dX9_change_39 : decode cX9_change 39 = .ok (.if_icmp .ge 108, 3) := by decide +kernel
theorem dX9_change_42 : decode cX9_change 42 = .ok (.iload 4, 2) := by decide +kernel
theorem dX9_change_44 : decode cX9_change 44 = .ok (.iconst 5, 1) := by decide +kernel
theorem dX9_change_45 : decode cX9_change 45 = .ok (.if_icmp .ge 102, 3) := by decide +kernel
theorem dX9_change_48 : decode cX9_change 48 = .ok (.iload 4, 2) := by decide +kernel
theorem dX9_change_50 : decode cX9_change 50 = .ok (.iconst 1, 1) := by decide +kernel
theorem dX9_change_51 : decode cX9_change 51 = .ok (.iadd, 1) := by decide +kernel
theorem dX9_change_52 : decode cX9_change 52 = .ok (.istore 5, 2) := by decide +kernel
theorem dX9_change_54 : decode cX9_change 54 = .ok (.iload 5, 2) := by decide +kernel
theorem dX9_change_56 : decode cX9_change 56 = .ok (.aload_n 0, 1) := by decide +kernel
theorem dX9_change_57 : decode cX9_change 57 = .ok (.getfield 44, 3) := by decide +kernel
theorem dX9_change_60 : decode cX9_change 60 = .ok (.getfield 84, 3) := by decide +kernel
theorem dX9_change_63 : decode cX9_change 63 = .ok (.if_icmp .ge 78, 3) := by decide +kernel
theorem dX9_change_66 : decode cX9_change 66 = .ok (.iload 5, 2) := by decide +kernel
theorem dX9_change_68 : decode cX9_change 68 = .ok (.iconst 5, 1) := by decide +kernel
theorem dX9_change_69 : decode cX9_change 69 = .ok (.if_icmp .ge 72, 3) := by decide +kernel
theorem dX9_change_72 : decode cX9_change 72 = .ok (.aload_n 0, 1) := by decide +kernel
theorem dX9_change_73 : decode cX9_change 73 = .ok (.getfield 48, 3) := by decide +kernel
theorem dX9_change_76 : decode cX9_change 76 = .ok (.aload_n 0, 1) := by decide +kernel
theorem dX9_change_77 : decode cX9_change 77 = .ok (.getfield 44, 3) := by decide +kernel
theorem dX9_change_80 : decode cX9_change 80 = .ok (.invokevirtual 225, 3) := by decide +kernel
theorem dX9_change_83 : decode cX9_change 83 = .ok (.aload_n 0, 1) := by decide +kernel
theorem dX9_change_84 : decode cX9_change 84 = .ok (.getfield 48, 3) := by decide +kernel
theorem dX9_change_87 : decode cX9_change 87 = .ok (.iload 4, 2) := by decide +kernel
theorem dX9_change_89 : decode cX9_change 89 = .ok (.aload_n 0, 1) := by decide +kernel
theorem dX9_change_90 : decode cX9_change 90 = .ok (.getfield 44, 3) := by decide +kernel
theorem dX9_change_93 : decode cX9_change 93 = .ok (.getfield 152, 3) := by decide +kernel
theorem dX9_change_96 : decode cX9_change 96 = .ok (.iload 5, 2) := by decide +kernel
theorem dX9_change_98 : decode cX9_change 98 = .ok (.iaload, 1) := by decide +kernel
theorem dX9_change_99 : decode cX9_change 99 = .ok (.invokevirtual 155, 3) := by decide +kernel
theorem dX9_change_102 : decode cX9_change 102 = .ok (.aload_n 0, 1) := by decide +kernel
theorem dX9_change_103 : decode cX9_change 103 = .ok (.bipush 40, 2) := by decide +kernel
theorem dX9_change_105 : decode cX9_change 105 = .ok (.invokevirtual 262, 3) := by decide +kernel
theorem dX9_change_108 : decode cX9_change 108 = .ok (.aload_n 0, 1) := by decide +kernel
theorem dX9_change_109 : decode cX9_change 109 = .ok (.getfield 37, 3) := by decide +kernel
theorem dX9_change_112 : decode cX9_change 112 = .ok (.invokevirtual 259, 3) := by decide +kernel
theorem dX9_change_115 : decode cX9_change 115 = .ok (.istore 6, 2) := by decide +kernel
theorem dX9_change_117 : decode cX9_change 117 = .ok (.iload 6, 2) := by decide +kernel
theorem dX9_change_119 : decode cX9_change 119 = .ok (.iload_n 2, 1) := by decide +kernel
theorem dX9_change_120 : decode cX9_change 120 = .ok (.if_icmp .ge 15, 3) := by decide +kernel
theorem dX9_change_123 : decode cX9_change 123 = .ok (.iload 6, 2) := by decide +kernel
theorem dX9_change_125 : decode cX9_change 125 = .ok (.istore_n 2, 1) := by decide +kernel
theorem dX9_change_126 : decode cX9_change 126 = .ok (.bipush 10, 2) := by decide +kernel
theorem dX9_change_128 : decode cX9_change 128 = .ok (.iload 4, 2) := by decide +kernel
theorem dX9_change_130 : decode cX9_change 130 = .ok (.imul, 1) := by decide +kernel
theorem dX9_change_131 : decode cX9_change 131 = .ok (.iload 5, 2) := by decide +kernel
theorem dX9_change_133 : decode cX9_change 133 = .ok (.iadd, 1) := by decide +kernel
theorem dX9_change_134 : decode cX9_change 134 = .ok (.istore_n 3, 1) := by decide +kernel
theorem dX9_change_135 : decode cX9_change 135 = .ok (.iinc 5 1, 3) := by decide +kernel
theorem dX9_change_138 : decode cX9_change 138 = .ok (.goto (-84), 3) := by decide +kernel
theorem dX9_change_141 : decode cX9_change 141 = .ok (.iinc 4 1, 3) := by decide +kernel
theorem dX9_change_144 : decode cX9_change 144 = .ok (.goto (-114), 3) := by decide +kernel
theorem dX9_change_147 : decode cX9_change 147 = .ok (.iload_n 1, 1) := by decide +kernel
theorem dX9_change_148 : decode cX9_change 148 = .ok (.ifCond .ne 7, 3) := by decide +kernel
theorem dX9_change_151 : decode cX9_change 151 = .ok (.iload_n 3, 1) := by decide +kernel
theorem dX9_change_152 : decode cX9_change 152 = .ok (.goto 4, 3) := by decide +kernel
theorem dX9_change_155 : decode cX9_change 155 = .ok (.iload_n 2, 1) := by decide +kernel
theorem dX9_change_156 : decode cX9_change 156 = .ok (.ireturn, 1) := by decide +kernel
theorem dX9_shade_0 : decode cX9_shade 0 = .ok (.iload_n 1, 1) := by decide +kernel
theorem dX9_shade_1 : decode cX9_shade 1 = .ok (.invokestatic 135, 3) := by decide +kernel
theorem dX9_shade_4 : decode cX9_shade 4 = .ok (.ifCond .ne 6, 3) := by decide +kernel
theorem dX9_shade_7 : decode cX9_shade 7 = .ok (.bipush (-5), 2) := by decide +kernel
theorem dX9_shade_9 : decode cX9_shade 9 = .ok (.ireturn, 1) := by decide +kernel
theorem dX9_shade_10 : decode cX9_shade 10 = .ok (.iload_n 2, 1) := by decide +kernel
theorem dX9_shade_11 : decode cX9_shade 11 = .ok (.iconst 1, 1) := by decide +kernel
theorem dX9_shade_12 : decode cX9_shade 12 = .ok (.invokestatic 104, 3) := by decide +kernel
theorem dX9_shade_15 : decode cX9_shade 15 = .ok (.ifCond .ne 6, 3) := by decide +kernel
theorem dX9_shade_18 : decode cX9_shade 18 = .ok (.bipush (-7), 2) := by decide +kernel
theorem dX9_shade_20 : decode cX9_shade 20 = .ok (.ireturn, 1) := by decide +kernel
theorem dX9_shade_21 : decode cX9_shade 21 = .ok (.iconst (-1), 1) := by decide +kernel
theorem dX9_shade_22 : decode cX9_shade 22 = .ok (.istore_n 3, 1) := by decide +kernel
theorem dX9_shade_23 : decode cX9_shade 23 = .ok (.iconst 0, 1) := by decide +kernel
theorem dX9_shade_24 : decode cX9_shade 24 = .ok (.istore 4, 2) := by decide +kernel
theorem dX9_shade_26 : decode cX9_shade 26 = .ok (.iconst 0, 1) := by decide +kernel
theorem dX9_shade_27 : decode cX9_shade 27 = .ok (.istore 5, 2) := by decide +kernel
theorem dX9_shade_29 : decode cX9_shade 29 = .ok (.iload 5, 2) := by decide +kernel
theorem dX9_shade_31 : decode cX9_shade 31 = .ok (.bipush 9, 2) := by decide +kernel
theorem dX9_shade_33 : decode cX9_shade 33 = .ok (.if_icmp .gt 65, 3) := by decide +kernel
theorem dX9_shade_36 : decode cX9_shade 36 = .ok (.aload_n 0, 1) := by decide +kernel
theorem dX9_shade_37 : decode cX9_shade 37 = .ok (.getfield 48, 3) := by decide +kernel
theorem dX9_shade_40 : decode cX9_shade 40 = .ok (.aload_n 0, 1) := by decide +kernel
theorem dX9_shade_41 : decode cX9_shade 41 = .ok (.getfield 44, 3) := by decide +kernel
theorem dX9_shade_44 : decode cX9_shade 44 = .ok (.invokevirtual 225, 3) := by decide +kernel
theorem dX9_shade_47 : decode cX9_shade 47 = .ok (.aload_n 0, 1) := by decide +kernel
theorem dX9_shade_48 : decode cX9_shade 48 = .ok (.getfield 48, 3) := by decide +kernel
theorem dX9_shade_51 : decode cX9_shade 51 = .ok (.getfield 158, 3) := by decide +kernel
theorem dX9_shade_54 : decode cX9_shade 54 = .ok (.iload_n 1, 1) := by decide +kernel
theorem dX9_shade_55 : decode cX9_shade 55 = .ok (.iload 5, 2) := by decide +kernel
theorem dX9_shade_57 : decode cX9_shade 57 = .ok (.iastore, 1) := by decide +kernel
theorem dX9_shade_58 : decode cX9_shade 58 = .ok (.aload_n 0, 1) := by decide +kernel
theorem dX9_shade_59 : decode cX9_shade 59 = .ok (.bipush 40, 2) := by decide +kernel
theorem dX9_shade_61 : decode cX9_shade 61 = .ok (.invokevirtual 262, 3) := by decide +kernel
theorem dX9_shade_64 : decode cX9_shade 64 = .ok (.aload_n 0, 1) := by decide +kernel
theorem dX9_shade_65 : decode cX9_shade 65 = .ok (.getfield 37, 3) := by decide +kernel
theorem dX9_shade_68 : decode cX9_shade 68 = .ok (.invokevirtual 259, 3) := by decide +kernel
theorem dX9_shade_71 : decode cX9_shade 71 = .ok (.istore 6, 2) := by decide +kernel
theorem dX9_shade_73 : decode cX9_shade 73 = .ok (.iload_n 3, 1) := by decide +kernel
theorem dX9_shade_74 : decode cX9_shade 74 = .ok (.iconst (-1), 1) := by decide +kernel
theorem dX9_shade_75 : decode cX9_shade 75 = .ok (.if_icmp .eq 10, 3) := by decide +kernel
theorem dX9_shade_78 : decode cX9_shade 78 = .ok (.iload 6, 2) := by decide +kernel
theorem dX9_shade_80 : decode cX9_shade 80 = .ok (.iload 4, 2) := by decide +kernel
theorem dX9_shade_82 : decode cX9_shade 82 = .ok (.if_icmp .ge 10, 3) := by decide +kernel
theorem dX9_shade_85 : decode cX9_shade 85 = .ok (.iload 5, 2) := by decide +kernel
theorem dX9_shade_87 : decode cX9_shade 87 = .ok (.istore_n 3, 1) := by decide +kernel
theorem dX9_shade_88 : decode cX9_shade 88 = .ok (.iload 6, 2) := by decide +kernel
theorem dX9_shade_90 : decode cX9_shade 90 = .ok (.istore 4, 2) := by decide +kernel
theorem dX9_shade_92 : decode cX9_shade 92 = .ok (.iinc 5 1, 3) := by decide +kernel
theorem dX9_shade_95 : decode cX9_shade 95 = .ok (.goto (-66), 3) := by decide +kernel
theorem dX9_shade_98 : decode cX9_shade 98 = .ok (.iload_n 2, 1) := by decide +kernel
theorem dX9_shade_99 : decode cX9_shade 99 = .ok (.ifCond .ne 7, 3) := by decide +kernel
theorem dX9_shade_102 : decode cX9_shade 102 = .ok (.iload_n 3, 1) := by decide +kernel
theorem dX9_shade_103 : decode cX9_shade 103 = .ok (.goto 5, 3) := by decide +kernel
theorem dX9_shade_106 : decode cX9_shade 106 = .ok (.iload 4, 2) := by decide +kernel
theorem dX9_shade_108 : decode cX9_shade 108 = .ok (.ireturn, 1) := by decide +kernel
theorem dX9_sets_0 : decode cX9_sets 0 = .ok (.aload_n 0, 1) := by decide +kernel
theorem dX9_sets_1 : decode cX9_sets 1 = .ok (.getfield 44, 3) := by decide +kernel
theorem dX9_sets_4 : decode cX9_sets 4 = .ok (.iload_n 1, 1) := by decide +kernel
theorem dX9_sets_5 : decode cX9_sets 5 = .ok (.invokevirtual 146, 3) := by decide +kernel
theorem dX9_sets_8 : decode cX9_sets 8 = .ok (.ifCond .ne 6, 3) := by decide +kernel
theorem dX9_sets_11 : decode cX9_sets 11 = .ok (.bipush (-5), 2) := by decide +kernel
theorem dX9_sets_13 : decode cX9_sets 13 = .ok (.ireturn, 1) := by decide +kernel
theorem dX9_sets_14 : decode cX9_sets 14 = .ok (.iload_n 2, 1) := by decide +kernel
theorem dX9_sets_15 : decode cX9_sets 15 = .ok (.sipush 400, 3) := by decide +kernel
theorem dX9_sets_18 : decode cX9_sets 18 = .ok (.invokestatic 104, 3) := by decide +kernel
theorem dX9_sets_21 : decode cX9_sets 21 = .ok (.ifCond .ne 6, 3) := by decide +kernel
theorem dX9_sets_24 : decode cX9_sets 24 = .ok (.bipush (-7), 2) := by decide +kernel
theorem dX9_sets_26 : decode cX9_sets 26 = .ok (.ireturn, 1) := by decide +kernel
theorem dX9_sets_27 : decode cX9_sets 27 = .ok (.aload_n 0, 1) := by decide +kernel
theorem dX9_sets_28 : decode cX9_sets 28 = .ok (.bipush 40, 2) := by decide +kernel
theorem dX9_sets_30 : decode cX9_sets 30 = .ok (.invokevirtual 205, 3) := by decide +kernel
theorem dX9_sets_33 : decode cX9_sets 33 = .ok (.aload_n 0, 1) := by decide +kernel
theorem dX9_sets_34 : decode cX9_sets 34 = .ok (.getfield 37, 3) := by decide +kernel
theorem dX9_sets_37 : decode cX9_sets 37 = .ok (.invokevirtual 265, 3) := by decide +kernel
theorem dX9_sets_40 : decode cX9_sets 40 = .ok (.istore_n 3, 1) := by decide +kernel
theorem dX9_sets_41 : decode cX9_sets 41 = .ok (.aload_n 0, 1) := by decide +kernel
theorem dX9_sets_42 : decode cX9_sets 42 = .ok (.getfield 28, 3) := by decide +kernel
theorem dX9_sets_45 : decode cX9_sets 45 = .ok (.invokevirtual 249, 3) := by decide +kernel
theorem dX9_sets_48 : decode cX9_sets 48 = .ok (.aload_n 0, 1) := by decide +kernel
theorem dX9_sets_49 : decode cX9_sets 49 = .ok (.getfield 28, 3) := by decide +kernel
theorem dX9_sets_52 : decode cX9_sets 52 = .ok (.iload_n 1, 1) := by decide +kernel
theorem dX9_sets_53 : decode cX9_sets 53 = .ok (.iconst 0, 1) := by decide +kernel
theorem dX9_sets_54 : decode cX9_sets 54 = .ok (.iload_n 2, 1) := by decide +kernel
theorem dX9_sets_55 : decode cX9_sets 55 = .ok (.invokevirtual 268, 3) := by decide +kernel
theorem dX9_sets_58 : decode cX9_sets 58 = .ok (.aload_n 0, 1) := by decide +kernel
theorem dX9_sets_59 : decode cX9_sets 59 = .ok (.getfield 37, 3) := by decide +kernel
theorem dX9_sets_62 : decode cX9_sets 62 = .ok (.aload_n 0, 1) := by decide +kernel
theorem dX9_sets_63 : decode cX9_sets 63 = .ok (.getfield 44, 3) := by decide +kernel
theorem dX9_sets_66 : decode cX9_sets 66 = .ok (.bipush 40, 2) := by decide +kernel
theorem dX9_sets_68 : decode cX9_sets 68 = .ok (.invokevirtual 255, 3) := by decide +kernel
theorem dX9_sets_71 : decode cX9_sets 71 = .ok (.aload_n 0, 1) := by decide +kernel
theorem dX9_sets_72 : decode cX9_sets 72 = .ok (.getfield 37, 3) := by decide +kernel
theorem dX9_sets_75 : decode cX9_sets 75 = .ok (.invokevirtual 265, 3) := by decide +kernel
theorem dX9_sets_78 : decode cX9_sets 78 = .ok (.iload_n 3, 1) := by decide +kernel
theorem dX9_sets_79 : decode cX9_sets 79 = .ok (.iconst (-1), 1) := by decide +kernel
theorem dX9_sets_80 : decode cX9_sets 80 = .ok (.ixor, 1) := by decide +kernel
theorem dX9_sets_81 : decode cX9_sets 81 = .ok (.iand, 1) := by decide +kernel
theorem dX9_sets_82 : decode cX9_sets 82 = .ok (.iconst 1, 1) := by decide +kernel
theorem dX9_sets_83 : decode cX9_sets 83 = .ok (.iload_n 1, 1) := by decide +kernel
theorem dX9_sets_84 : decode cX9_sets 84 = .ok (.ishl, 1) := by decide +kernel
theorem dX9_sets_85 : decode cX9_sets 85 = .ok (.iconst (-1), 1) := by decide +kernel
theorem dX9_sets_86 : decode cX9_sets 86 = .ok (.ixor, 1) := by decide +kernel
theorem dX9_sets_87 : decode cX9_sets 87 = .ok (.iand, 1) := by decide +kernel
theorem dX9_sets_88 : decode cX9_sets 88 = .ok (.ireturn, 1) := by decide +kernel
theorem dX9_needs_0 : decode cX9_needs 0 = .ok (.aload_n 0, 1) := by decide +kernel
theorem dX9_needs_1 : decode cX9_needs 1 = .ok (.getfield 44, 3) := by decide +kernel
theorem dX9_needs_4 : decode cX9_needs 4 = .ok (.iload_n 1, 1) := by decide +kernel
theorem dX9_needs_5 : decode cX9_needs 5 = .ok (.invokevirtual 146, 3) := by decide +kernel
theorem dX9_needs_8 : decode cX9_needs 8 = .ok (.ifCond .ne 6, 3) := by decide +kernel
theorem dX9_needs_11 : decode cX9_needs 11 = .ok (.bipush (-5), 2) := by decide +kernel
theorem dX9_needs_13 : decode cX9_needs 13 = .ok (.ireturn, 1) := by decide +kernel
theorem dX9_needs_14 : decode cX9_needs 14 = .ok (.iconst 0, 1) := by decide +kernel
theorem dX9_needs_15 : decode cX9_needs 15 = .ok (.istore_n 2, 1) := by decide +kernel
theorem dX9_needs_16 : decode cX9_needs 16 = .ok (.iload_n 2, 1) := by decide +kernel
theorem dX9_needs_17 : decode cX9_needs 17 = .ok (.sipush 400, 3) := by decide +kernel
theorem dX9_needs_20 : decode cX9_needs 20 = .ok (.if_icmp .gt 32, 3) := by decide +kernel
theorem dX9_needs_23 : decode cX9_needs 23 = .ok (.aload_n 0, 1) := by decide +kernel
theorem dX9_needs_24 : decode cX9_needs 24 = .ok (.iload_n 1, 1) := by decide +kernel
theorem dX9_needs_25 : decode cX9_needs 25 = .ok (.iload_n 1, 1) := by decide +kernel
theorem dX9_needs_26 : decode cX9_needs 26 = .ok (.iconst 0, 1) := by decide +kernel
theorem dX9_needs_27 : decode cX9_needs 27 = .ok (.iload_n 2, 1) := by decide +kernel
theorem dX9_needs_28 : decode cX9_needs 28 = .ok (.bipush 40, 2) := by decide +kernel
theorem dX9_needs_30 : decode cX9_needs 30 = .ok (.invokevirtual 270, 3) := by decide +kernel
theorem dX9_needs_33 : decode cX9_needs 33 = .ok (.aload_n 0, 1) := by decide +kernel
theorem dX9_needs_34 : decode cX9_needs 34 = .ok (.getfield 37, 3) := by decide +kernel
theorem dX9_needs_37 : decode cX9_needs 37 = .ok (.iload_n 1, 1) := by decide +kernel
theorem dX9_needs_38 : decode cX9_needs 38 = .ok (.invokevirtual 236, 3) := by decide +kernel
theorem dX9_needs_41 : decode cX9_needs 41 = .ok (.ifCond .le 5, 3) := by decide +kernel
theorem dX9_needs_44 : decode cX9_needs 44 = .ok (.iload_n 2, 1) := by decide +kernel
theorem dX9_needs_45 : decode cX9_needs 45 = .ok (.ireturn, 1) := by decide +kernel
theorem dX9_needs_46 : decode cX9_needs 46 = .ok (.iinc 2 10, 3) := by decide +kernel
theorem dX9_needs_49 : decode cX9_needs 49 = .ok (.goto (-33), 3) := by decide +kernel
theorem dX9_needs_52 : decode cX9_needs 52 = .ok (.iconst (-1), 1) := by decide +kernel
theorem dX9_needs_53 : decode cX9_needs 53 = .ok (.ireturn, 1) := by decide +kernel
theorem dX9_asked_0 : decode cX9_asked 0 = .ok (.iload_n 1, 1) := by decide +kernel
theorem dX9_asked_1 : decode cX9_asked 1 = .ok (.sipush 400, 3) := by decide +kernel
theorem dX9_asked_4 : decode cX9_asked 4 = .ok (.invokestatic 104, 3) := by decide +kernel
theorem dX9_asked_7 : decode cX9_asked 7 = .ok (.ifCond .eq 12, 3) := by decide +kernel
theorem dX9_asked_10 : decode cX9_asked 10 = .ok (.iload_n 2, 1) := by decide +kernel
theorem dX9_asked_11 : decode cX9_asked 11 = .ok (.bipush 40, 2) := by decide +kernel
theorem dX9_asked_13 : decode cX9_asked 13 = .ok (.invokestatic 104, 3) := by decide +kernel
theorem dX9_asked_16 : decode cX9_asked 16 = .ok (.ifCond .ne 6, 3) := by decide +kernel
theorem dX9_asked_19 : decode cX9_asked 19 = .ok (.bipush (-2), 2) := by decide +kernel
theorem dX9_asked_21 : decode cX9_asked 21 = .ok (.ireturn, 1) := by decide +kernel
theorem dX9_asked_22 : decode cX9_asked 22 = .ok (.iconst 0, 1) := by decide +kernel
theorem dX9_asked_23 : decode cX9_asked 23 = .ok (.istore_n 3, 1) := by decide +kernel
theorem dX9_asked_24 : decode cX9_asked 24 = .ok (.iconst 0, 1) := by decide +kernel
theorem dX9_asked_25 : decode cX9_asked 25 = .ok (.istore 4, 2) := by decide +kernel
theorem dX9_asked_27 : decode cX9_asked 27 = .ok (.iload 4, 2) := by decide +kernel
theorem dX9_asked_29 : decode cX9_asked 29 = .ok (.aload_n 0, 1) := by decide +kernel
theorem dX9_asked_30 : decode cX9_asked 30 = .ok (.getfield 44, 3) := by decide +kernel
theorem dX9_asked_33 : decode cX9_asked 33 = .ok (.getfield 84, 3) := by decide +kernel
theorem dX9_asked_36 : decode cX9_asked 36 = .ok (.if_icmp .ge 27, 3) := by decide +kernel
theorem dX9_asked_39 : decode cX9_asked 39 = .ok (.aload_n 0, 1) := by decide +kernel
theorem dX9_asked_40 : decode cX9_asked 40 = .ok (.iload 4, 2) := by decide +kernel
theorem dX9_asked_42 : decode cX9_asked 42 = .ok (.iload_n 1, 1) := by decide +kernel
theorem dX9_asked_43 : decode cX9_asked 43 = .ok (.iload_n 2, 1) := by decide +kernel
theorem dX9_asked_44 : decode cX9_asked 44 = .ok (.invokevirtual 274, 3) := by decide +kernel
theorem dX9_asked_47 : decode cX9_asked 47 = .ok (.ifCond .eq 10, 3) := by decide +kernel
theorem dX9_asked_50 : decode cX9_asked 50 = .ok (.iload_n 3, 1) := by decide +kernel
theorem dX9_asked_51 : decode cX9_asked 51 = .ok (.iconst 1, 1) := by decide +kernel
theorem dX9_asked_52 : decode cX9_asked 52 = .ok (.iload 4, 2) := by decide +kernel
theorem dX9_asked_54 : decode cX9_asked 54 = .ok (.ishl, 1) := by decide +kernel
theorem dX9_asked_55 : decode cX9_asked 55 = .ok (.ior, 1) := by decide +kernel
theorem dX9_asked_56 : decode cX9_asked 56 = .ok (.istore_n 3, 1) := by decide +kernel
theorem dX9_asked_57 : decode cX9_asked 57 = .ok (.iinc 4 1, 3) := by decide +kernel
theorem dX9_asked_60 : decode cX9_asked 60 = .ok (.goto (-33), 3) := by decide +kernel
theorem dX9_asked_63 : decode cX9_asked 63 = .ok (.iload_n 3, 1) := by decide +kernel
theorem dX9_asked_64 : decode cX9_asked 64 = .ok (.ireturn, 1) := by decide +kernel
theorem dX9_guilty_0 : decode cX9_guilty 0 = .ok (.iload_n 2, 1) := by decide +kernel
theorem dX9_guilty_1 : decode cX9_guilty 1 = .ok (.ifCond .lt 29, 3) := by decide +kernel
theorem dX9_guilty_4 : decode cX9_guilty 4 = .ok (.iload_n 2, 1) := by decide +kernel
theorem dX9_guilty_5 : decode cX9_guilty 5 = .ok (.sipush 1000, 3) := by decide +kernel
theorem dX9_guilty_8 : decode cX9_guilty 8 = .ok (.idiv, 1) := by decide +kernel
theorem dX9_guilty_9 : decode cX9_guilty 9 = .ok (.sipush 400, 3) := by decide +kernel
theorem dX9_guilty_12 : decode cX9_guilty 12 = .ok (.if_icmp .gt 18, 3) := by decide +kernel
theorem dX9_guilty_15 : decode cX9_guilty 15 = .ok (.iload_n 2, 1) := by decide +kernel
theorem dX9_guilty_16 : decode cX9_guilty 16 = .ok (.sipush 1000, 3) := by decide +kernel
theorem dX9_guilty_19 : decode cX9_guilty 19 = .ok (.irem, 1) := by decide +kernel
theorem dX9_guilty_20 : decode cX9_guilty 20 = .ok (.sipush 400, 3) := by decide +kernel
theorem dX9_guilty_23 : decode cX9_guilty 23 = .ok (.if_icmp .gt 7, 3) := by decide +kernel
theorem dX9_guilty_26 : decode cX9_guilty 26 = .ok (.iconst 1, 1) := by decide +kernel
theorem dX9_guilty_27 : decode cX9_guilty 27 = .ok (.goto 4, 3) := by decide +kernel
theorem dX9_guilty_30 : decode cX9_guilty 30 = .ok (.iconst 0, 1) := by decide +kernel
theorem dX9_guilty_31 : decode cX9_guilty 31 = .ok (.istore 5, 2) := by decide +kernel
theorem dX9_guilty_33 : decode cX9_guilty 33 = .ok (.iload 5, 2) := by decide +kernel
theorem dX9_guilty_35 : decode cX9_guilty 35 = .ok (.ifCond .eq 32, 3) := by decide +kernel
theorem dX9_guilty_38 : decode cX9_guilty 38 = .ok (.aload_n 0, 1) := by decide +kernel
theorem dX9_guilty_39 : decode cX9_guilty 39 = .ok (.getfield 44, 3) := by decide +kernel
theorem dX9_guilty_42 : decode cX9_guilty 42 = .ok (.iload_n 1, 1) := by decide +kernel
theorem dX9_guilty_43 : decode cX9_guilty 43 = .ok (.invokevirtual 146, 3) := by decide +kernel
theorem dX9_guilty_46 : decode cX9_guilty 46 = .ok (.ifCond .eq 21, 3) := by decide +kernel
theorem dX9_guilty_49 : decode cX9_guilty 49 = .ok (.iload_n 3, 1) := by decide +kernel
theorem dX9_guilty_50 : decode cX9_guilty 50 = .ok (.bipush 40, 2) := by decide +kernel
theorem dX9_guilty_52 : decode cX9_guilty 52 = .ok (.invokestatic 104, 3) := by decide +kernel
theorem dX9_guilty_55 : decode cX9_guilty 55 = .ok (.ifCond .eq 12, 3) := by decide +kernel
theorem dX9_guilty_58 : decode cX9_guilty 58 = .ok (.iload 4, 2) := by decide +kernel
theorem dX9_guilty_60 : decode cX9_guilty 60 = .ok (.iconst 1, 1) := by decide +kernel
theorem dX9_guilty_61 : decode cX9_guilty 61 = .ok (.invokestatic 104, 3) := by decide +kernel
theorem dX9_guilty_64 : decode cX9_guilty 64 = .ok (.ifCond .ne 7, 3) := by decide +kernel
theorem dX9_guilty_67 : decode cX9_guilty 67 = .ok (.ldc2_w 278, 3) := by decide +kernel
theorem dX9_guilty_70 : decode cX9_guilty 70 = .ok (.lreturn, 1) := by decide +kernel
theorem dX9_guilty_71 : decode cX9_guilty 71 = .ok (.iload_n 2, 1) := by decide +kernel
theorem dX9_guilty_72 : decode cX9_guilty 72 = .ok (.sipush 1000, 3) := by decide +kernel
theorem dX9_guilty_75 : decode cX9_guilty 75 = .ok (.idiv, 1) := by decide +kernel
theorem dX9_guilty_76 : decode cX9_guilty 76 = .ok (.istore 6, 2) := by decide +kernel
theorem dX9_guilty_78 : decode cX9_guilty 78 = .ok (.aload_n 0, 1) := by decide +kernel
theorem dX9_guilty_79 : decode cX9_guilty 79 = .ok (.iload_n 1, 1) := by decide +kernel
theorem dX9_guilty_80 : decode cX9_guilty 80 = .ok (.sipush 400, 3) := by decide +kernel
theorem dX9_guilty_83 : decode cX9_guilty 83 = .ok (.iload 6, 2) := by decide +kernel
theorem dX9_guilty_85 : decode cX9_guilty 85 = .ok (.iload_n 2, 1) := by decide +kernel
theorem dX9_guilty_86 : decode cX9_guilty 86 = .ok (.sipush 1000, 3) := by decide +kernel
theorem dX9_guilty_89 : decode cX9_guilty 89 = .ok (.irem, 1) := by decide +kernel
theorem dX9_guilty_90 : decode cX9_guilty 90 = .ok (.iadd, 1) := by decide +kernel
theorem dX9_guilty_91 : decode cX9_guilty 91 = .ok (.invokestatic 280, 3) := by decide +kernel
theorem dX9_guilty_94 : decode cX9_guilty 94 = .ok (.iload_n 3, 1) := by decide +kernel
theorem dX9_guilty_95 : decode cX9_guilty 95 = .ok (.invokevirtual 274, 3) := by decide +kernel
theorem dX9_guilty_98 : decode cX9_guilty 98 = .ok (.ifCond .eq 7, 3) := by decide +kernel
theorem dX9_guilty_101 : decode cX9_guilty 101 = .ok (.iconst 1, 1) := by decide +kernel
theorem dX9_guilty_102 : decode cX9_guilty 102 = .ok (.goto 4, 3) := by decide +kernel
theorem dX9_guilty_105 : decode cX9_guilty 105 = .ok (.iconst 0, 1) := by decide +kernel
theorem dX9_guilty_106 : decode cX9_guilty 106 = .ok (.istore 7, 2) := by decide +kernel
theorem dX9_guilty_108 : decode cX9_guilty 108 = .ok (.aload_n 0, 1) := by decide +kernel
theorem dX9_guilty_109 : decode cX9_guilty 109 = .ok (.iload_n 1, 1) := by decide +kernel
theorem dX9_guilty_110 : decode cX9_guilty 110 = .ok (.iload 6, 2) := by decide +kernel
theorem dX9_guilty_112 : decode cX9_guilty 112 = .ok (.iload_n 3, 1) := by decide +kernel
theorem dX9_guilty_113 : decode cX9_guilty 113 = .ok (.invokevirtual 274, 3) := by decide +kernel
theorem dX9_guilty_116 : decode cX9_guilty 116 = .ok (.ifCond .eq 15, 3) := by decide +kernel
theorem dX9_guilty_119 : decode cX9_guilty 119 = .ok (.aload_n 0, 1) := by decide +kernel
theorem dX9_guilty_120 : decode cX9_guilty 120 = .ok (.getfield 44, 3) := by decide +kernel
theorem dX9_guilty_123 : decode cX9_guilty 123 = .ok (.getfield 84, 3) := by decide +kernel
theorem dX9_guilty_126 : decode cX9_guilty 126 = .ok (.iconst 1, 1) := by decide +kernel
theorem dX9_guilty_127 : decode cX9_guilty 127 = .ok (.isub, 1) := by decide +kernel
theorem dX9_guilty_128 : decode cX9_guilty 128 = .ok (.goto 4, 3) := by decide +kernel
theorem dX9_guilty_131 : decode cX9_guilty 131 = .ok (.iconst 0, 1) := by decide +kernel
theorem dX9_guilty_132 : decode cX9_guilty 132 = .ok (.istore 8, 2) := by decide +kernel
theorem dX9_guilty_134 : decode cX9_guilty 134 = .ok (.iload 7, 2) := by decide +kernel
theorem dX9_guilty_136 : decode cX9_guilty 136 = .ok (.iload 7, 2) := by decide +kernel
theorem dX9_guilty_138 : decode cX9_guilty 138 = .ok (.iload 8, 2) := by decide +kernel
theorem dX9_guilty_140 : decode cX9_guilty 140 = .ok (.iadd, 1) := by decide +kernel
theorem dX9_guilty_141 : decode cX9_guilty 141 = .ok (.iload 4, 2) := by decide +kernel
theorem dX9_guilty_143 : decode cX9_guilty 143 = .ok (.invokestatic 285, 3) := by decide +kernel
theorem dX9_guilty_146 : decode cX9_guilty 146 = .ok (.lreturn, 1) := by decide +kernel
theorem dX9_judge_0 : decode cX9_judge 0 = .ok (.aload_n 0, 1) := by decide +kernel
theorem dX9_judge_1 : decode cX9_judge 1 = .ok (.iload_n 1, 1) := by decide +kernel
theorem dX9_judge_2 : decode cX9_judge 2 = .ok (.invokevirtual 289, 3) := by decide +kernel
theorem dX9_judge_5 : decode cX9_judge 5 = .ok (.istore_n 3, 1) := by decide +kernel
theorem dX9_judge_6 : decode cX9_judge 6 = .ok (.iload_n 3, 1) := by decide +kernel
theorem dX9_judge_7 : decode cX9_judge 7 = .ok (.ifCond .ge 5, 3) := by decide +kernel
theorem dX9_judge_10 : decode cX9_judge 10 = .ok (.iload_n 3, 1) := by decide +kernel
theorem dX9_judge_11 : decode cX9_judge 11 = .ok (.ireturn, 1) := by decide +kernel
theorem dX9_judge_12 : decode cX9_judge 12 = .ok (.aload_n 0, 1) := by decide +kernel
theorem dX9_judge_13 : decode cX9_judge 13 = .ok (.getfield 44, 3) := by decide +kernel
theorem dX9_judge_16 : decode cX9_judge 16 = .ok (.iload_n 2, 1) := by decide +kernel
theorem dX9_judge_17 : decode cX9_judge 17 = .ok (.invokevirtual 146, 3) := by decide +kernel
theorem dX9_judge_20 : decode cX9_judge 20 = .ok (.ifCond .ne 6, 3) := by decide +kernel
theorem dX9_judge_23 : decode cX9_judge 23 = .ok (.bipush (-5), 2) := by decide +kernel
theorem dX9_judge_25 : decode cX9_judge 25 = .ok (.ireturn, 1) := by decide +kernel
theorem dX9_judge_26 : decode cX9_judge 26 = .ok (.aload_n 0, 1) := by decide +kernel
theorem dX9_judge_27 : decode cX9_judge 27 = .ok (.iload_n 2, 1) := by decide +kernel
theorem dX9_judge_28 : decode cX9_judge 28 = .ok (.aload_n 0, 1) := by decide +kernel
theorem dX9_judge_29 : decode cX9_judge 29 = .ok (.iload_n 1, 1) := by decide +kernel
theorem dX9_judge_30 : decode cX9_judge 30 = .ok (.invokevirtual 292, 3) := by decide +kernel
theorem dX9_judge_33 : decode cX9_judge 33 = .ok (.invokevirtual 189, 3) := by decide +kernel
theorem dX9_judge_36 : decode cX9_judge 36 = .ok (.aload_n 0, 1) := by decide +kernel
theorem dX9_judge_37 : decode cX9_judge 37 = .ok (.iload_n 1, 1) := by decide +kernel
theorem dX9_judge_38 : decode cX9_judge 38 = .ok (.iload_n 2, 1) := by decide +kernel
theorem dX9_judge_39 : decode cX9_judge 39 = .ok (.invokevirtual 295, 3) := by decide +kernel
theorem dX9_judge_42 : decode cX9_judge 42 = .ok (.ireturn, 1) := by decide +kernel
theorem dX9_whose_0 : decode cX9_whose 0 = .ok (.aload_n 0, 1) := by decide +kernel
theorem dX9_whose_1 : decode cX9_whose 1 = .ok (.iload_n 1, 1) := by decide +kernel
theorem dX9_whose_2 : decode cX9_whose 2 = .ok (.invokevirtual 289, 3) := by decide +kernel
theorem dX9_whose_5 : decode cX9_whose 5 = .ok (.istore_n 2, 1) := by decide +kernel
theorem dX9_whose_6 : decode cX9_whose 6 = .ok (.iload_n 2, 1) := by decide +kernel
theorem dX9_whose_7 : decode cX9_whose 7 = .ok (.ifCond .ge 5, 3) := by decide +kernel
theorem dX9_whose_10 : decode cX9_whose 10 = .ok (.iload_n 2, 1) := by decide +kernel
theorem dX9_whose_11 : decode cX9_whose 11 = .ok (.ireturn, 1) := by decide +kernel
theorem dX9_whose_12 : decode cX9_whose 12 = .ok (.aload_n 0, 1) := by decide +kernel
theorem dX9_whose_13 : decode cX9_whose 13 = .ok (.aload_n 0, 1) := by decide +kernel
theorem dX9_whose_14 : decode cX9_whose 14 = .ok (.iload_n 1, 1) := by decide +kernel
theorem dX9_whose_15 : decode cX9_whose 15 = .ok (.invokevirtual 292, 3) := by decide +kernel
theorem dX9_whose_18 : decode cX9_whose 18 = .ok (.invokevirtual 205, 3) := by decide +kernel
theorem dX9_whose_21 : decode cX9_whose 21 = .ok (.iconst 0, 1) := by decide +kernel
theorem dX9_whose_22 : decode cX9_whose 22 = .ok (.istore_n 3, 1) := by decide +kernel
theorem dX9_whose_23 : decode cX9_whose 23 = .ok (.iconst 0, 1) := by decide +kernel
theorem dX9_whose_24 : decode cX9_whose 24 = .ok (.istore 4, 2) := by decide +kernel
theorem dX9_whose_26 : decode cX9_whose 26 = .ok (.iload 4, 2) := by decide +kernel
theorem dX9_whose_28 : decode cX9_whose 28 = .ok (.aload_n 0, 1) := by decide +kernel
theorem dX9_whose_29 : decode cX9_whose 29 = .ok (.getfield 44, 3) := by decide +kernel
theorem dX9_whose_32 : decode cX9_whose 32 = .ok (.getfield 84, 3) := by decide +kernel
theorem dX9_whose_35 : decode cX9_whose 35 = .ok (.if_icmp .ge 27, 3) := by decide +kernel
theorem dX9_whose_38 : decode cX9_whose 38 = .ok (.aload_n 0, 1) := by decide +kernel
theorem dX9_whose_39 : decode cX9_whose 39 = .ok (.iload_n 1, 1) := by decide +kernel
theorem dX9_whose_40 : decode cX9_whose 40 = .ok (.iload 4, 2) := by decide +kernel
theorem dX9_whose_42 : decode cX9_whose 42 = .ok (.invokevirtual 295, 3) := by decide +kernel
theorem dX9_whose_45 : decode cX9_whose 45 = .ok (.iconst (-1), 1) := by decide +kernel
theorem dX9_whose_46 : decode cX9_whose 46 = .ok (.if_icmp .ne 10, 3) := by decide +kernel
theorem dX9_whose_49 : decode cX9_whose 49 = .ok (.iload_n 3, 1) := by decide +kernel
theorem dX9_whose_50 : decode cX9_whose 50 = .ok (.iconst 1, 1) := by decide +kernel
theorem dX9_whose_51 : decode cX9_whose 51 = .ok (.iload 4, 2) := by decide +kernel
theorem dX9_whose_53 : decode cX9_whose 53 = .ok (.ishl, 1) := by decide +kernel
theorem dX9_whose_54 : decode cX9_whose 54 = .ok (.ior, 1) := by decide +kernel
theorem dX9_whose_55 : decode cX9_whose 55 = .ok (.istore_n 3, 1) := by decide +kernel
theorem dX9_whose_56 : decode cX9_whose 56 = .ok (.iinc 4 1, 3) := by decide +kernel
theorem dX9_whose_59 : decode cX9_whose 59 = .ok (.goto (-33), 3) := by decide +kernel
theorem dX9_whose_62 : decode cX9_whose 62 = .ok (.iload_n 3, 1) := by decide +kernel
theorem dX9_whose_63 : decode cX9_whose 63 = .ok (.ireturn, 1) := by decide +kernel
theorem dX9_began_0 : decode cX9_began 0 = .ok (.aload_n 0, 1) := by decide +kernel
theorem dX9_began_1 : decode cX9_began 1 = .ok (.iload_n 1, 1) := by decide +kernel
theorem dX9_began_2 : decode cX9_began 2 = .ok (.invokevirtual 289, 3) := by decide +kernel
theorem dX9_began_5 : decode cX9_began 5 = .ok (.ifCond .lt 24, 3) := by decide +kernel
theorem dX9_began_8 : decode cX9_began 8 = .ok (.aload_n 0, 1) := by decide +kernel
theorem dX9_began_9 : decode cX9_began 9 = .ok (.getfield 44, 3) := by decide +kernel
theorem dX9_began_12 : decode cX9_began 12 = .ok (.iload_n 2, 1) := by decide +kernel
theorem dX9_began_13 : decode cX9_began 13 = .ok (.invokevirtual 146, 3) := by decide +kernel
theorem dX9_began_16 : decode cX9_began 16 = .ok (.ifCond .eq 13, 3) := by decide +kernel
theorem dX9_began_19 : decode cX9_began 19 = .ok (.iload_n 3, 1) := by decide +kernel
theorem dX9_began_20 : decode cX9_began 20 = .ok (.sipush 400, 3) := by decide +kernel
theorem dX9_began_23 : decode cX9_began 23 = .ok (.invokestatic 104, 3) := by decide +kernel
theorem dX9_began_26 : decode cX9_began 26 = .ok (.ifCond .ne 7, 3) := by decide +kernel
theorem dX9_began_29 : decode cX9_began 29 = .ok (.ldc2_w 278, 3) := by decide +kernel
theorem dX9_began_32 : decode cX9_began 32 = .ok (.lreturn, 1) := by decide +kernel
theorem dX9_began_33 : decode cX9_began 33 = .ok (.lconst 0, 1) := by decide +kernel
theorem dX9_began_34 : decode cX9_began 34 = .ok (.lstore 4, 2) := by decide +kernel
theorem dX9_began_36 : decode cX9_began 36 = .ok (.iconst 0, 1) := by decide +kernel
theorem dX9_began_37 : decode cX9_began 37 = .ok (.istore 6, 2) := by decide +kernel
theorem dX9_began_39 : decode cX9_began 39 = .ok (.iload 6, 2) := by decide +kernel
theorem dX9_began_41 : decode cX9_began 41 = .ok (.bipush 40, 2) := by decide +kernel
theorem dX9_began_43 : decode cX9_began 43 = .ok (.if_icmp .ge 42, 3) := by decide +kernel
theorem dX9_began_46 : decode cX9_began 46 = .ok (.aload_n 0, 1) := by decide +kernel
theorem dX9_began_47 : decode cX9_began 47 = .ok (.iload_n 2, 1) := by decide +kernel
theorem dX9_began_48 : decode cX9_began 48 = .ok (.iload_n 2, 1) := by decide +kernel
theorem dX9_began_49 : decode cX9_began 49 = .ok (.iload 6, 2) := by decide +kernel
theorem dX9_began_51 : decode cX9_began 51 = .ok (.iload_n 3, 1) := by decide +kernel
theorem dX9_began_52 : decode cX9_began 52 = .ok (.aload_n 0, 1) := by decide +kernel
theorem dX9_began_53 : decode cX9_began 53 = .ok (.iload_n 1, 1) := by decide +kernel
theorem dX9_began_54 : decode cX9_began 54 = .ok (.invokevirtual 292, 3) := by decide +kernel
theorem dX9_began_57 : decode cX9_began 57 = .ok (.invokevirtual 270, 3) := by decide +kernel
theorem dX9_began_60 : decode cX9_began 60 = .ok (.aload_n 0, 1) := by decide +kernel
theorem dX9_began_61 : decode cX9_began 61 = .ok (.iload_n 1, 1) := by decide +kernel
theorem dX9_began_62 : decode cX9_began 62 = .ok (.iload_n 2, 1) := by decide +kernel
theorem dX9_began_63 : decode cX9_began 63 = .ok (.invokevirtual 295, 3) := by decide +kernel
theorem dX9_began_66 : decode cX9_began 66 = .ok (.iconst (-1), 1) := by decide +kernel
theorem dX9_began_67 : decode cX9_began 67 = .ok (.if_icmp .ne 12, 3) := by decide +kernel
theorem dX9_began_70 : decode cX9_began 70 = .ok (.lload 4, 2) := by decide +kernel
theorem dX9_began_72 : decode cX9_began 72 = .ok (.lconst 1, 1) := by decide +kernel
theorem dX9_began_73 : decode cX9_began 73 = .ok (.iload 6, 2) := by decide +kernel
theorem dX9_began_75 : decode cX9_began 75 = .ok (.lshl, 1) := by decide +kernel
theorem dX9_began_76 : decode cX9_began 76 = .ok (.lor, 1) := by decide +kernel
theorem dX9_began_77 : decode cX9_began 77 = .ok (.lstore 4, 2) := by decide +kernel
theorem dX9_began_79 : decode cX9_began 79 = .ok (.iinc 6 1, 3) := by decide +kernel
theorem dX9_began_82 : decode cX9_began 82 = .ok (.goto (-43), 3) := by decide +kernel
theorem dX9_began_85 : decode cX9_began 85 = .ok (.lload 4, 2) := by decide +kernel
theorem dX9_began_87 : decode cX9_began 87 = .ok (.lreturn, 1) := by decide +kernel
theorem dX9_through_0 : decode cX9_through 0 = .ok (.aload_n 0, 1) := by decide +kernel
theorem dX9_through_1 : decode cX9_through 1 = .ok (.iload_n 1, 1) := by decide +kernel
theorem dX9_through_2 : decode cX9_through 2 = .ok (.invokevirtual 289, 3) := by decide +kernel
theorem dX9_through_5 : decode cX9_through 5 = .ok (.istore 4, 2) := by decide +kernel
theorem dX9_through_7 : decode cX9_through 7 = .ok (.iload 4, 2) := by decide +kernel
theorem dX9_through_9 : decode cX9_through 9 = .ok (.ifCond .ge 6, 3) := by decide +kernel
theorem dX9_through_12 : decode cX9_through 12 = .ok (.iload 4, 2) := by decide +kernel
theorem dX9_through_14 : decode cX9_through 14 = .ok (.ireturn, 1) := by decide +kernel
theorem dX9_through_15 : decode cX9_through 15 = .ok (.aload_n 0, 1) := by decide +kernel
theorem dX9_through_16 : decode cX9_through 16 = .ok (.getfield 44, 3) := by decide +kernel
theorem dX9_through_19 : decode cX9_through 19 = .ok (.iload_n 2, 1) := by decide +kernel
theorem dX9_through_20 : decode cX9_through 20 = .ok (.invokevirtual 146, 3) := by decide +kernel
theorem dX9_through_23 : decode cX9_through 23 = .ok (.ifCond .ne 6, 3) := by decide +kernel
theorem dX9_through_26 : decode cX9_through 26 = .ok (.bipush (-5), 2) := by decide +kernel
theorem dX9_through_28 : decode cX9_through 28 = .ok (.ireturn, 1) := by decide +kernel
theorem dX9_through_29 : decode cX9_through 29 = .ok (.iload_n 3, 1) := by decide +kernel
theorem dX9_through_30 : decode cX9_through 30 = .ok (.ifCond .lt 23, 3) := by decide +kernel
theorem dX9_through_33 : decode cX9_through 33 = .ok (.iload_n 3, 1) := by decide +kernel
theorem dX9_through_34 : decode cX9_through 34 = .ok (.bipush 100, 2) := by decide +kernel
theorem dX9_through_36 : decode cX9_through 36 = .ok (.idiv, 1) := by decide +kernel
theorem dX9_through_37 : decode cX9_through 37 = .ok (.sipush 400, 3) := by decide +kernel
theorem dX9_through_40 : decode cX9_through 40 = .ok (.if_icmp .gt 13, 3) := by decide +kernel
theorem dX9_through_43 : decode cX9_through 43 = .ok (.iload_n 3, 1) := by decide +kernel
theorem dX9_through_44 : decode cX9_through 44 = .ok (.bipush 100, 2) := by decide +kernel
theorem dX9_through_46 : decode cX9_through 46 = .ok (.irem, 1) := by decide +kernel
theorem dX9_through_47 : decode cX9_through 47 = .ok (.invokestatic 173, 3) := by decide +kernel
theorem dX9_through_50 : decode cX9_through 50 = .ok (.ifCond .ne 6, 3) := by decide +kernel
theorem dX9_through_53 : decode cX9_through 53 = .ok (.bipush (-7), 2) := by decide +kernel
theorem dX9_through_55 : decode cX9_through 55 = .ok (.ireturn, 1) := by decide +kernel
theorem dX9_through_56 : decode cX9_through 56 = .ok (.iconst 0, 1) := by decide +kernel
theorem dX9_through_57 : decode cX9_through 57 = .ok (.istore 5, 2) := by decide +kernel
theorem dX9_through_59 : decode cX9_through 59 = .ok (.iconst 0, 1) := by decide +kernel
theorem dX9_through_60 : decode cX9_through 60 = .ok (.istore 6, 2) := by decide +kernel
theorem dX9_through_62 : decode cX9_through 62 = .ok (.iload 6, 2) := by decide +kernel
theorem dX9_through_64 : decode cX9_through 64 = .ok (.aload_n 0, 1) := by decide +kernel
theorem dX9_through_65 : decode cX9_through 65 = .ok (.getfield 44, 3) := by decide +kernel
theorem dX9_through_68 : decode cX9_through 68 = .ok (.getfield 84, 3) := by decide +kernel
theorem dX9_through_71 : decode cX9_through 71 = .ok (.if_icmp .ge 58, 3) := by decide +kernel
theorem dX9_through_74 : decode cX9_through 74 = .ok (.iload 6, 2) := by decide +kernel
theorem dX9_through_76 : decode cX9_through 76 = .ok (.iload_n 2, 1) := by decide +kernel
theorem dX9_through_77 : decode cX9_through 77 = .ok (.if_icmp .eq 46, 3) := by decide +kernel
theorem dX9_through_80 : decode cX9_through 80 = .ok (.aload_n 0, 1) := by decide +kernel
theorem dX9_through_81 : decode cX9_through 81 = .ok (.iload_n 2, 1) := by decide +kernel
theorem dX9_through_82 : decode cX9_through 82 = .ok (.iload 6, 2) := by decide +kernel
theorem dX9_through_84 : decode cX9_through 84 = .ok (.iload_n 3, 1) := by decide +kernel
theorem dX9_through_85 : decode cX9_through 85 = .ok (.bipush 100, 2) := by decide +kernel
theorem dX9_through_87 : decode cX9_through 87 = .ok (.irem, 1) := by decide +kernel
theorem dX9_through_88 : decode cX9_through 88 = .ok (.iload_n 3, 1) := by decide +kernel
theorem dX9_through_89 : decode cX9_through 89 = .ok (.bipush 100, 2) := by decide +kernel
theorem dX9_through_91 : decode cX9_through 91 = .ok (.idiv, 1) := by decide +kernel
theorem dX9_through_92 : decode cX9_through 92 = .ok (.aload_n 0, 1) := by decide +kernel
theorem dX9_through_93 : decode cX9_through 93 = .ok (.iload_n 1, 1) := by decide +kernel
theorem dX9_through_94 : decode cX9_through 94 = .ok (.invokevirtual 292, 3) := by decide +kernel
theorem dX9_through_97 : decode cX9_through 97 = .ok (.invokevirtual 270, 3) := by decide +kernel
theorem dX9_through_100 : decode cX9_through 100 = .ok (.iload 5, 2) := by decide +kernel
theorem dX9_through_102 : decode cX9_through 102 = .ok (.aload_n 0, 1) := by decide +kernel
theorem dX9_through_103 : decode cX9_through 103 = .ok (.iload_n 1, 1) := by decide +kernel
theorem dX9_through_104 : decode cX9_through 104 = .ok (.iload_n 2, 1) := by decide +kernel
theorem dX9_through_105 : decode cX9_through 105 = .ok (.invokevirtual 295, 3) := by decide +kernel
theorem dX9_through_108 : decode cX9_through 108 = .ok (.iconst (-1), 1) := by decide +kernel
theorem dX9_through_109 : decode cX9_through 109 = .ok (.if_icmp .ne 10, 3) := by decide +kernel
theorem dX9_through_112 : decode cX9_through 112 = .ok (.iconst 1, 1) := by decide +kernel
theorem dX9_through_113 : decode cX9_through 113 = .ok (.iload 6, 2) := by decide +kernel
theorem dX9_through_115 : decode cX9_through 115 = .ok (.ishl, 1) := by decide +kernel
theorem dX9_through_116 : decode cX9_through 116 = .ok (.goto 4, 3) := by decide +kernel
theorem dX9_through_119 : decode cX9_through 119 = .ok (.iconst 0, 1) := by decide +kernel
theorem dX9_through_120 : decode cX9_through 120 = .ok (.ior, 1) := by decide +kernel
theorem dX9_through_121 : decode cX9_through 121 = .ok (.istore 5, 2) := by decide +kernel
theorem dX9_through_123 : decode cX9_through 123 = .ok (.iinc 6 1, 3) := by decide +kernel
theorem dX9_through_126 : decode cX9_through 126 = .ok (.goto (-64), 3) := by decide +kernel
theorem dX9_through_129 : decode cX9_through 129 = .ok (.iload 5, 2) := by decide +kernel
theorem dX9_through_131 : decode cX9_through 131 = .ok (.ireturn, 1) := by decide +kernel
theorem dX9_kinds_0 : decode cX9_kinds 0 = .ok (.aload_n 0, 1) := by decide +kernel
theorem dX9_kinds_1 : decode cX9_kinds 1 = .ok (.iload_n 1, 1) := by decide +kernel
theorem dX9_kinds_2 : decode cX9_kinds 2 = .ok (.invokevirtual 289, 3) := by decide +kernel
theorem dX9_kinds_5 : decode cX9_kinds 5 = .ok (.istore 4, 2) := by decide +kernel
theorem dX9_kinds_7 : decode cX9_kinds 7 = .ok (.iload 4, 2) := by decide +kernel
theorem dX9_kinds_9 : decode cX9_kinds 9 = .ok (.ifCond .ge 6, 3) := by decide +kernel
theorem dX9_kinds_12 : decode cX9_kinds 12 = .ok (.iload 4, 2) := by decide +kernel
theorem dX9_kinds_14 : decode cX9_kinds 14 = .ok (.ireturn, 1) := by decide +kernel
theorem dX9_kinds_15 : decode cX9_kinds 15 = .ok (.aload_n 0, 1) := by decide +kernel
theorem dX9_kinds_16 : decode cX9_kinds 16 = .ok (.getfield 44, 3) := by decide +kernel
theorem dX9_kinds_19 : decode cX9_kinds 19 = .ok (.iload_n 2, 1) := by decide +kernel
theorem dX9_kinds_20 : decode cX9_kinds 20 = .ok (.invokevirtual 146, 3) := by decide +kernel
theorem dX9_kinds_23 : decode cX9_kinds 23 = .ok (.ifCond .ne 6, 3) := by decide +kernel
theorem dX9_kinds_26 : decode cX9_kinds 26 = .ok (.bipush (-5), 2) := by decide +kernel
theorem dX9_kinds_28 : decode cX9_kinds 28 = .ok (.ireturn, 1) := by decide +kernel
theorem dX9_kinds_29 : decode cX9_kinds 29 = .ok (.iload_n 3, 1) := by decide +kernel
theorem dX9_kinds_30 : decode cX9_kinds 30 = .ok (.iconst 1, 1) := by decide +kernel
theorem dX9_kinds_31 : decode cX9_kinds 31 = .ok (.invokestatic 104, 3) := by decide +kernel
theorem dX9_kinds_34 : decode cX9_kinds 34 = .ok (.ifCond .ne 6, 3) := by decide +kernel
theorem dX9_kinds_37 : decode cX9_kinds 37 = .ok (.bipush (-7), 2) := by decide +kernel
theorem dX9_kinds_39 : decode cX9_kinds 39 = .ok (.ireturn, 1) := by decide +kernel
theorem dX9_kinds_40 : decode cX9_kinds 40 = .ok (.iload_n 3, 1) := by decide +kernel
theorem dX9_kinds_41 : decode cX9_kinds 41 = .ok (.ifCond .ne 7, 3) := by decide +kernel
theorem dX9_kinds_44 : decode cX9_kinds 44 = .ok (.iconst 5, 1) := by decide +kernel
theorem dX9_kinds_45 : decode cX9_kinds 45 = .ok (.goto 5, 3) := by decide +kernel
theorem dX9_kinds_48 : decode cX9_kinds 48 = .ok (.bipush 9, 2) := by decide +kernel
theorem dX9_kinds_50 : decode cX9_kinds 50 = .ok (.istore 5, 2) := by decide +kernel
theorem dX9_kinds_52 : decode cX9_kinds 52 = .ok (.iconst 0, 1) := by decide +kernel
theorem dX9_kinds_53 : decode cX9_kinds 53 = .ok (.istore 6, 2) := by decide +kernel
theorem dX9_kinds_55 : decode cX9_kinds 55 = .ok (.iconst 0, 1) := by decide +kernel
theorem dX9_kinds_56 : decode cX9_kinds 56 = .ok (.istore 7, 2) := by decide +kernel
theorem dX9_kinds_58 : decode cX9_kinds 58 = .ok (.iload 7, 2) := by decide +kernel
theorem dX9_kinds_60 : decode cX9_kinds 60 = .ok (.iload 5, 2) := by decide +kernel
theorem dX9_kinds_62 : decode cX9_kinds 62 = .ok (.if_icmp .gt 82, 3) := by decide +kernel
theorem dX9_kinds_65 : decode cX9_kinds 65 = .ok (.aload_n 0, 1) := by decide +kernel
theorem dX9_kinds_66 : decode cX9_kinds 66 = .ok (.getfield 48, 3) := by decide +kernel
theorem dX9_kinds_69 : decode cX9_kinds 69 = .ok (.aload_n 0, 1) := by decide +kernel
theorem dX9_kinds_70 : decode cX9_kinds 70 = .ok (.getfield 44, 3) := by decide +kernel
theorem dX9_kinds_73 : decode cX9_kinds 73 = .ok (.invokevirtual 225, 3) := by decide +kernel
theorem dX9_kinds_76 : decode cX9_kinds 76 = .ok (.iload_n 3, 1) := by decide +kernel
theorem dX9_kinds_77 : decode cX9_kinds 77 = .ok (.ifCond .ne 17, 3) := by decide +kernel
theorem dX9_kinds_80 : decode cX9_kinds 80 = .ok (.aload_n 0, 1) := by decide +kernel
theorem dX9_kinds_81 : decode cX9_kinds 81 = .ok (.getfield 48, 3) := by decide +kernel
theorem dX9_kinds_84 : decode cX9_kinds 84 = .ok (.getfield 161, 3) := by decide +kernel
theorem dX9_kinds_87 : decode cX9_kinds 87 = .ok (.iload_n 2, 1) := by decide +kernel
theorem dX9_kinds_88 : decode cX9_kinds 88 = .ok (.iload 7, 2) := by decide +kernel
theorem dX9_kinds_90 : decode cX9_kinds 90 = .ok (.iastore, 1) := by decide +kernel
theorem dX9_kinds_91 : decode cX9_kinds 91 = .ok (.goto 14, 3) := by decide +kernel
theorem dX9_kinds_94 : decode cX9_kinds 94 = .ok (.aload_n 0, 1) := by decide +kernel
theorem dX9_kinds_95 : decode cX9_kinds 95 = .ok (.getfield 48, 3) := by decide +kernel
theorem dX9_kinds_98 : decode cX9_kinds 98 = .ok (.getfield 164, 3) := by decide +kernel
theorem dX9_kinds_101 : decode cX9_kinds 101 = .ok (.iload_n 2, 1) := by decide +kernel
theorem dX9_kinds_102 : decode cX9_kinds 102 = .ok (.iload 7, 2) := by decide +kernel
theorem dX9_kinds_104 : decode cX9_kinds 104 = .ok (.iastore, 1) := by decide +kernel
theorem dX9_kinds_105 : decode cX9_kinds 105 = .ok (.aload_n 0, 1) := by decide +kernel
theorem dX9_kinds_106 : decode cX9_kinds 106 = .ok (.iload_n 2, 1) := by decide +kernel
theorem dX9_kinds_107 : decode cX9_kinds 107 = .ok (.aload_n 0, 1) := by decide +kernel
theorem dX9_kinds_108 : decode cX9_kinds 108 = .ok (.iload_n 1, 1) := by decide +kernel
theorem dX9_kinds_109 : decode cX9_kinds 109 = .ok (.invokevirtual 292, 3) := by decide +kernel
theorem dX9_kinds_112 : decode cX9_kinds 112 = .ok (.invokevirtual 229, 3) := by decide +kernel
theorem dX9_kinds_115 : decode cX9_kinds 115 = .ok (.iload 6, 2) := by decide +kernel
theorem dX9_kinds_117 : decode cX9_kinds 117 = .ok (.aload_n 0, 1) := by decide +kernel
theorem dX9_kinds_118 : decode cX9_kinds 118 = .ok (.iload_n 1, 1) := by decide +kernel
theorem dX9_kinds_119 : decode cX9_kinds 119 = .ok (.iload_n 2, 1) := by decide +kernel
theorem dX9_kinds_120 : decode cX9_kinds 120 = .ok (.invokevirtual 295, 3) := by decide +kernel
theorem dX9_kinds_123 : decode cX9_kinds 123 = .ok (.iconst (-1), 1) := by decide +kernel
theorem dX9_kinds_124 : decode cX9_kinds 124 = .ok (.if_icmp .ne 10, 3) := by decide +kernel
theorem dX9_kinds_127 : decode cX9_kinds 127 = .ok (.iconst 1, 1) := by decide +kernel
theorem dX9_kinds_128 : decode cX9_kinds 128 = .ok (.iload 7, 2) := by decide +kernel
theorem dX9_kinds_130 : decode cX9_kinds 130 = .ok (.ishl, 1) := by decide +kernel
theorem dX9_kinds_131 : decode cX9_kinds 131 = .ok (.goto 4, 3) := by decide +kernel
theorem dX9_kinds_134 : decode cX9_kinds 134 = .ok (.iconst 0, 1) := by decide +kernel
theorem dX9_kinds_135 : decode cX9_kinds 135 = .ok (.ior, 1) := by decide +kernel
theorem dX9_kinds_136 : decode cX9_kinds 136 = .ok (.istore 6, 2) := by decide +kernel
theorem dX9_kinds_138 : decode cX9_kinds 138 = .ok (.iinc 7 1, 3) := by decide +kernel
theorem dX9_kinds_141 : decode cX9_kinds 141 = .ok (.goto (-83), 3) := by decide +kernel
theorem dX9_kinds_144 : decode cX9_kinds 144 = .ok (.iload 6, 2) := by decide +kernel
theorem dX9_kinds_146 : decode cX9_kinds 146 = .ok (.ireturn, 1) := by decide +kernel
theorem dX9_laws_0 : decode cX9_laws 0 = .ok (.aload_n 0, 1) := by decide +kernel
theorem dX9_laws_1 : decode cX9_laws 1 = .ok (.iload_n 1, 1) := by decide +kernel
theorem dX9_laws_2 : decode cX9_laws 2 = .ok (.invokevirtual 289, 3) := by decide +kernel
theorem dX9_laws_5 : decode cX9_laws 5 = .ok (.istore_n 3, 1) := by decide +kernel
theorem dX9_laws_6 : decode cX9_laws 6 = .ok (.iload_n 3, 1) := by decide +kernel
theorem dX9_laws_7 : decode cX9_laws 7 = .ok (.ifCond .ge 5, 3) := by decide +kernel
theorem dX9_laws_10 : decode cX9_laws 10 = .ok (.iload_n 3, 1) := by decide +kernel
theorem dX9_laws_11 : decode cX9_laws 11 = .ok (.ireturn, 1) := by decide +kernel
theorem dX9_laws_12 : decode cX9_laws 12 = .ok (.aload_n 0, 1) := by decide +kernel
theorem dX9_laws_13 : decode cX9_laws 13 = .ok (.getfield 44, 3) := by decide +kernel
theorem dX9_laws_16 : decode cX9_laws 16 = .ok (.iload_n 2, 1) := by decide +kernel
theorem dX9_laws_17 : decode cX9_laws 17 = .ok (.invokevirtual 146, 3) := by decide +kernel
theorem dX9_laws_20 : decode cX9_laws 20 = .ok (.ifCond .ne 6, 3) := by decide +kernel
theorem dX9_laws_23 : decode cX9_laws 23 = .ok (.bipush (-5), 2) := by decide +kernel
theorem dX9_laws_25 : decode cX9_laws 25 = .ok (.ireturn, 1) := by decide +kernel
theorem dX9_laws_26 : decode cX9_laws 26 = .ok (.iconst 0, 1) := by decide +kernel
theorem dX9_laws_27 : decode cX9_laws 27 = .ok (.istore 4, 2) := by decide +kernel
theorem dX9_laws_29 : decode cX9_laws 29 = .ok (.iconst 0, 1) := by decide +kernel
theorem dX9_laws_30 : decode cX9_laws 30 = .ok (.istore 5, 2) := by decide +kernel
theorem dX9_laws_32 : decode cX9_laws 32 = .ok (.iload 5, 2) := by decide +kernel
theorem dX9_laws_34 : decode cX9_laws 34 = .ok (.aload_n 0, 1) := by decide +kernel
theorem dX9_laws_35 : decode cX9_laws 35 = .ok (.getfield 10, 3) := by decide +kernel
theorem dX9_laws_38 : decode cX9_laws 38 = .ok (.getfield 91, 3) := by decide +kernel
theorem dX9_laws_41 : decode cX9_laws 41 = .ok (.if_icmp .ge 62, 3) := by decide +kernel
theorem dX9_laws_44 : decode cX9_laws 44 = .ok (.aload_n 0, 1) := by decide +kernel
theorem dX9_laws_45 : decode cX9_laws 45 = .ok (.getfield 48, 3) := by decide +kernel
theorem dX9_laws_48 : decode cX9_laws 48 = .ok (.aload_n 0, 1) := by decide +kernel
theorem dX9_laws_49 : decode cX9_laws 49 = .ok (.getfield 44, 3) := by decide +kernel
theorem dX9_laws_52 : decode cX9_laws 52 = .ok (.invokevirtual 225, 3) := by decide +kernel
theorem dX9_laws_55 : decode cX9_laws 55 = .ok (.aload_n 0, 1) := by decide +kernel
theorem dX9_laws_56 : decode cX9_laws 56 = .ok (.getfield 48, 3) := by decide +kernel
theorem dX9_laws_59 : decode cX9_laws 59 = .ok (.iload 5, 2) := by decide +kernel
theorem dX9_laws_61 : decode cX9_laws 61 = .ok (.putfield 94, 3) := by decide +kernel
theorem dX9_laws_64 : decode cX9_laws 64 = .ok (.aload_n 0, 1) := by decide +kernel
theorem dX9_laws_65 : decode cX9_laws 65 = .ok (.iload_n 2, 1) := by decide +kernel
theorem dX9_laws_66 : decode cX9_laws 66 = .ok (.aload_n 0, 1) := by decide +kernel
theorem dX9_laws_67 : decode cX9_laws 67 = .ok (.iload_n 1, 1) := by decide +kernel
theorem dX9_laws_68 : decode cX9_laws 68 = .ok (.invokevirtual 292, 3) := by decide +kernel
theorem dX9_laws_71 : decode cX9_laws 71 = .ok (.invokevirtual 229, 3) := by decide +kernel
theorem dX9_laws_74 : decode cX9_laws 74 = .ok (.iload 4, 2) := by decide +kernel
theorem dX9_laws_76 : decode cX9_laws 76 = .ok (.aload_n 0, 1) := by decide +kernel
theorem dX9_laws_77 : decode cX9_laws 77 = .ok (.iload_n 1, 1) := by decide +kernel
theorem dX9_laws_78 : decode cX9_laws 78 = .ok (.iload_n 2, 1) := by decide +kernel
theorem dX9_laws_79 : decode cX9_laws 79 = .ok (.invokevirtual 295, 3) := by decide +kernel
theorem dX9_laws_82 : decode cX9_laws 82 = .ok (.iconst (-1), 1) := by decide +kernel
theorem dX9_laws_83 : decode cX9_laws 83 = .ok (.if_icmp .ne 10, 3) := by decide +kernel
theorem dX9_laws_86 : decode cX9_laws 86 = .ok (.iconst 1, 1) := by decide +kernel
theorem dX9_laws_87 : decode cX9_laws 87 = .ok (.iload 5, 2) := by decide +kernel
theorem dX9_laws_89 : decode cX9_laws 89 = .ok (.ishl, 1) := by decide +kernel
theorem dX9_laws_90 : decode cX9_laws 90 = .ok (.goto 4, 3) := by decide +kernel
theorem dX9_laws_93 : decode cX9_laws 93 = .ok (.iconst 0, 1) := by decide +kernel
theorem dX9_laws_94 : decode cX9_laws 94 = .ok (.ior, 1) := by decide +kernel
theorem dX9_laws_95 : decode cX9_laws 95 = .ok (.istore 4, 2) := by decide +kernel
theorem dX9_laws_97 : decode cX9_laws 97 = .ok (.iinc 5 1, 3) := by decide +kernel
theorem dX9_laws_100 : decode cX9_laws 100 = .ok (.goto (-68), 3) := by decide +kernel
theorem dX9_laws_103 : decode cX9_laws 103 = .ok (.iload 4, 2) := by decide +kernel
theorem dX9_laws_105 : decode cX9_laws 105 = .ok (.ireturn, 1) := by decide +kernel
theorem dX9_film_0 : decode cX9_film 0 = .ok (.aload_n 0, 1) := by decide +kernel
theorem dX9_film_1 : decode cX9_film 1 = .ok (.getfield 57, 3) := by decide +kernel
theorem dX9_film_4 : decode cX9_film 4 = .ok (.iload_n 1, 1) := by decide +kernel
theorem dX9_film_5 : decode cX9_film 5 = .ok (.invokevirtual 298, 3) := by decide +kernel
theorem dX9_film_8 : decode cX9_film 8 = .ok (.ifCond .ne 6, 3) := by decide +kernel
theorem dX9_film_11 : decode cX9_film 11 = .ok (.bipush (-2), 2) := by decide +kernel
theorem dX9_film_13 : decode cX9_film 13 = .ok (.ireturn, 1) := by decide +kernel
theorem dX9_film_14 : decode cX9_film 14 = .ok (.aload_n 0, 1) := by decide +kernel
theorem dX9_film_15 : decode cX9_film 15 = .ok (.getfield 44, 3) := by decide +kernel
theorem dX9_film_18 : decode cX9_film 18 = .ok (.iload_n 2, 1) := by decide +kernel
theorem dX9_film_19 : decode cX9_film 19 = .ok (.invokevirtual 146, 3) := by decide +kernel
theorem dX9_film_22 : decode cX9_film 22 = .ok (.ifCond .ne 6, 3) := by decide +kernel
theorem dX9_film_25 : decode cX9_film 25 = .ok (.bipush (-5), 2) := by decide +kernel
theorem dX9_film_27 : decode cX9_film 27 = .ok (.ireturn, 1) := by decide +kernel
theorem dX9_film_28 : decode cX9_film 28 = .ok (.iload_n 3, 1) := by decide +kernel
theorem dX9_film_29 : decode cX9_film 29 = .ok (.bipush 8, 2) := by decide +kernel
theorem dX9_film_31 : decode cX9_film 31 = .ok (.invokestatic 104, 3) := by decide +kernel
theorem dX9_film_34 : decode cX9_film 34 = .ok (.ifCond .ne 6, 3) := by decide +kernel
theorem dX9_film_37 : decode cX9_film 37 = .ok (.bipush (-7), 2) := by decide +kernel
theorem dX9_film_39 : decode cX9_film 39 = .ok (.ireturn, 1) := by decide +kernel
theorem dX9_film_40 : decode cX9_film 40 = .ok (.aload_n 0, 1) := by decide +kernel
theorem dX9_film_41 : decode cX9_film 41 = .ok (.iload_n 2, 1) := by decide +kernel
theorem dX9_film_42 : decode cX9_film 42 = .ok (.iconst 5, 1) := by decide +kernel
theorem dX9_film_43 : decode cX9_film 43 = .ok (.iload_n 3, 1) := by decide +kernel
theorem dX9_film_44 : decode cX9_film 44 = .ok (.imul, 1) := by decide +kernel
theorem dX9_film_45 : decode cX9_film 45 = .ok (.invokevirtual 189, 3) := by decide +kernel
theorem dX9_film_48 : decode cX9_film 48 = .ok (.aload_n 0, 1) := by decide +kernel
theorem dX9_film_49 : decode cX9_film 49 = .ok (.getfield 57, 3) := by decide +kernel
theorem dX9_film_52 : decode cX9_film 52 = .ok (.iload_n 1, 1) := by decide +kernel
theorem dX9_film_53 : decode cX9_film 53 = .ok (.iconst 2, 1) := by decide +kernel
theorem dX9_film_54 : decode cX9_film 54 = .ok (.iload_n 3, 1) := by decide +kernel
theorem dX9_film_55 : decode cX9_film 55 = .ok (.invokevirtual 299, 3) := by decide +kernel
theorem dX9_film_58 : decode cX9_film 58 = .ok (.iconst 0, 1) := by decide +kernel
theorem dX9_film_59 : decode cX9_film 59 = .ok (.istore 4, 2) := by decide +kernel
theorem dX9_film_61 : decode cX9_film 61 = .ok (.iload 4, 2) := by decide +kernel
theorem dX9_film_63 : decode cX9_film 63 = .ok (.iload_n 3, 1) := by decide +kernel
theorem dX9_film_64 : decode cX9_film 64 = .ok (.if_icmp .ge 33, 3) := by decide +kernel
theorem dX9_film_67 : decode cX9_film 67 = .ok (.aload_n 0, 1) := by decide +kernel
theorem dX9_film_68 : decode cX9_film 68 = .ok (.getfield 57, 3) := by decide +kernel
theorem dX9_film_71 : decode cX9_film 71 = .ok (.iload_n 1, 1) := by decide +kernel
theorem dX9_film_72 : decode cX9_film 72 = .ok (.iload 4, 2) := by decide +kernel
theorem dX9_film_74 : decode cX9_film 74 = .ok (.aload_n 0, 1) := by decide +kernel
theorem dX9_film_75 : decode cX9_film 75 = .ok (.getfield 37, 3) := by decide +kernel
theorem dX9_film_78 : decode cX9_film 78 = .ok (.iconst 5, 1) := by decide +kernel
theorem dX9_film_79 : decode cX9_film 79 = .ok (.iload 4, 2) := by decide +kernel
theorem dX9_film_81 : decode cX9_film 81 = .ok (.iconst 1, 1) := by decide +kernel
theorem dX9_film_82 : decode cX9_film 82 = .ok (.iadd, 1) := by decide +kernel
theorem dX9_film_83 : decode cX9_film 83 = .ok (.imul, 1) := by decide +kernel
theorem dX9_film_84 : decode cX9_film 84 = .ok (.iload_n 2, 1) := by decide +kernel
theorem dX9_film_85 : decode cX9_film 85 = .ok (.invokevirtual 192, 3) := by decide +kernel
theorem dX9_film_88 : decode cX9_film 88 = .ok (.invokevirtual 301, 3) := by decide +kernel
theorem dX9_film_91 : decode cX9_film 91 = .ok (.iinc 4 1, 3) := by decide +kernel
theorem dX9_film_94 : decode cX9_film 94 = .ok (.goto (-33), 3) := by decide +kernel
theorem dX9_film_97 : decode cX9_film 97 = .ok (.iload_n 3, 1) := by decide +kernel
theorem dX9_film_98 : decode cX9_film 98 = .ok (.ireturn, 1) := by decide +kernel
theorem dX9_drawn_0 : decode cX9_drawn 0 = .ok (.iload_n 1, 1) := by decide +kernel
theorem dX9_drawn_1 : decode cX9_drawn 1 = .ok (.ldc_w 304, 3) := by decide +kernel
theorem dX9_drawn_4 : decode cX9_drawn 4 = .ok (.invokestatic 104, 3) := by decide +kernel
theorem dX9_drawn_7 : decode cX9_drawn 7 = .ok (.ifCond .eq 13, 3) := by decide +kernel
theorem dX9_drawn_10 : decode cX9_drawn 10 = .ok (.iload_n 2, 1) := by decide +kernel
theorem dX9_drawn_11 : decode cX9_drawn 11 = .ok (.sipush 400, 3) := by decide +kernel
theorem dX9_drawn_14 : decode cX9_drawn 14 = .ok (.invokestatic 104, 3) := by decide +kernel
theorem dX9_drawn_17 : decode cX9_drawn 17 = .ok (.ifCond .ne 6, 3) := by decide +kernel
theorem dX9_drawn_20 : decode cX9_drawn 20 = .ok (.bipush (-2), 2) := by decide +kernel
theorem dX9_drawn_22 : decode cX9_drawn 22 = .ok (.ireturn, 1) := by decide +kernel
theorem dX9_drawn_23 : decode cX9_drawn 23 = .ok (.aload_n 0, 1) := by decide +kernel
theorem dX9_drawn_24 : decode cX9_drawn 24 = .ok (.getfield 28, 3) := by decide +kernel
theorem dX9_drawn_27 : decode cX9_drawn 27 = .ok (.invokevirtual 249, 3) := by decide +kernel
theorem dX9_drawn_30 : decode cX9_drawn 30 = .ok (.aload_n 0, 1) := by decide +kernel
theorem dX9_drawn_31 : decode cX9_drawn 31 = .ok (.getfield 28, 3) := by decide +kernel
theorem dX9_drawn_34 : decode cX9_drawn 34 = .ok (.iload_n 1, 1) := by decide +kernel
theorem dX9_drawn_35 : decode cX9_drawn 35 = .ok (.iload_n 2, 1) := by decide +kernel
theorem dX9_drawn_36 : decode cX9_drawn 36 = .ok (.invokevirtual 305, 3) := by decide +kernel
theorem dX9_drawn_39 : decode cX9_drawn 39 = .ok (.aload_n 0, 1) := by decide +kernel
theorem dX9_drawn_40 : decode cX9_drawn 40 = .ok (.getfield 37, 3) := by decide +kernel
theorem dX9_drawn_43 : decode cX9_drawn 43 = .ok (.aload_n 0, 1) := by decide +kernel
theorem dX9_drawn_44 : decode cX9_drawn 44 = .ok (.getfield 44, 3) := by decide +kernel
theorem dX9_drawn_47 : decode cX9_drawn 47 = .ok (.bipush 40, 2) := by decide +kernel
theorem dX9_drawn_49 : decode cX9_drawn 49 = .ok (.invokevirtual 255, 3) := by decide +kernel
theorem dX9_drawn_52 : decode cX9_drawn 52 = .ok (.aload_n 0, 1) := by decide +kernel
theorem dX9_drawn_53 : decode cX9_drawn 53 = .ok (.getfield 37, 3) := by decide +kernel
theorem dX9_drawn_56 : decode cX9_drawn 56 = .ok (.invokevirtual 265, 3) := by decide +kernel
theorem dX9_drawn_59 : decode cX9_drawn 59 = .ok (.ireturn, 1) := by decide +kernel
theorem dX9_odds_0 : decode cX9_odds 0 = .ok (.iload_n 1, 1) := by decide +kernel
theorem dX9_odds_1 : decode cX9_odds 1 = .ok (.ldc_w 304, 3) := by decide +kernel
theorem dX9_odds_4 : decode cX9_odds 4 = .ok (.invokestatic 104, 3) := by decide +kernel
theorem dX9_odds_7 : decode cX9_odds 7 = .ok (.ifCond .eq 42, 3) := by decide +kernel
theorem dX9_odds_10 : decode cX9_odds 10 = .ok (.iload_n 2, 1) := by decide +kernel
theorem dX9_odds_11 : decode cX9_odds 11 = .ok (.iconst 1, 1) := by decide +kernel
theorem dX9_odds_12 : decode cX9_odds 12 = .ok (.if_icmp .lt 37, 3) := by decide +kernel
theorem dX9_odds_15 : decode cX9_odds 15 = .ok (.iload_n 2, 1) := by decide +kernel
theorem dX9_odds_16 : decode cX9_odds 16 = .ok (.bipush 20, 2) := by decide +kernel
theorem dX9_odds_18 : decode cX9_odds 18 = .ok (.if_icmp .gt 31, 3) := by decide +kernel
theorem dX9_odds_21 : decode cX9_odds 21 = .ok (.iload_n 3, 1) := by decide +kernel
theorem dX9_odds_22 : decode cX9_odds 22 = .ok (.sipush 400, 3) := by decide +kernel
theorem dX9_odds_25 : decode cX9_odds 25 = .ok (.invokestatic 104, 3) := by decide +kernel
theorem dX9_odds_28 : decode cX9_odds 28 = .ok (.ifCond .eq 21, 3) := by decide +kernel
theorem dX9_odds_31 : decode cX9_odds 31 = .ok (.iload 4, 2) := by decide +kernel
theorem dX9_odds_33 : decode cX9_odds 33 = .ok (.ifCond .lt 16, 3) := by decide +kernel
theorem dX9_odds_36 : decode cX9_odds 36 = .ok (.iload 4, 2) := by decide +kernel
theorem dX9_odds_38 : decode cX9_odds 38 = .ok (.bipush 10, 2) := by decide +kernel
theorem dX9_odds_40 : decode cX9_odds 40 = .ok (.irem, 1) := by decide +kernel
theorem dX9_odds_41 : decode cX9_odds 41 = .ok (.iconst 1, 1) := by decide +kernel
theorem dX9_odds_42 : decode cX9_odds 42 = .ok (.if_icmp .gt 7, 3) := by decide +kernel
theorem dX9_odds_45 : decode cX9_odds 45 = .ok (.iconst 1, 1) := by decide +kernel
theorem dX9_odds_46 : decode cX9_odds 46 = .ok (.goto 4, 3) := by decide +kernel
theorem dX9_odds_49 : decode cX9_odds 49 = .ok (.iconst 0, 1) := by decide +kernel
theorem dX9_odds_50 : decode cX9_odds 50 = .ok (.istore 5, 2) := by decide +kernel
theorem dX9_odds_52 : decode cX9_odds 52 = .ok (.iload 5, 2) := by decide +kernel
theorem dX9_odds_54 : decode cX9_odds 54 = .ok (.ifCond .eq 18, 3) := by decide +kernel
theorem dX9_odds_57 : decode cX9_odds 57 = .ok (.aload_n 0, 1) := by decide +kernel
theorem dX9_odds_58 : decode cX9_odds 58 = .ok (.getfield 44, 3) := by decide +kernel
theorem dX9_odds_61 : decode cX9_odds 61 = .ok (.iload 4, 2) := by decide +kernel
theorem dX9_odds_63 : decode cX9_odds 63 = .ok (.bipush 10, 2) := by decide +kernel
theorem dX9_odds_65 : decode cX9_odds 65 = .ok (.idiv, 1) := by decide +kernel
theorem dX9_odds_66 : decode cX9_odds 66 = .ok (.invokevirtual 146, 3) := by decide +kernel
theorem dX9_odds_69 : decode cX9_odds 69 = .ok (.ifCond .ne 7, 3) := by decide +kernel
theorem dX9_odds_72 : decode cX9_odds 72 = .ok (.ldc2_w 278, 3) := by decide +kernel
theorem dX9_odds_75 : decode cX9_odds 75 = .ok (.lreturn, 1) := by decide +kernel
theorem dX9_odds_76 : decode cX9_odds 76 = .ok (.iconst 0, 1) := by decide +kernel
theorem dX9_odds_77 : decode cX9_odds 77 = .ok (.istore 6, 2) := by decide +kernel
theorem dX9_odds_79 : decode cX9_odds 79 = .ok (.iconst 0, 1) := by decide +kernel
theorem dX9_odds_80 : decode cX9_odds 80 = .ok (.istore 7, 2) := by decide +kernel
theorem dX9_odds_82 : decode cX9_odds 82 = .ok (.iload 7, 2) := by decide +kernel
theorem dX9_odds_84 : decode cX9_odds 84 = .ok (.iload_n 2, 1) := by decide +kernel
theorem dX9_odds_85 : decode cX9_odds 85 = .ok (.if_icmp .ge 71, 3) := by decide +kernel
theorem dX9_odds_88 : decode cX9_odds 88 = .ok (.aload_n 0, 1) := by decide +kernel
theorem dX9_odds_89 : decode cX9_odds 89 = .ok (.getfield 28, 3) := by decide +kernel
theorem dX9_odds_92 : decode cX9_odds 92 = .ok (.invokevirtual 249, 3) := by decide +kernel
theorem dX9_odds_95 : decode cX9_odds 95 = .ok (.aload_n 0, 1) := by decide +kernel
theorem dX9_odds_96 : decode cX9_odds 96 = .ok (.getfield 28, 3) := by decide +kernel
theorem dX9_odds_99 : decode cX9_odds 99 = .ok (.iload_n 1, 1) := by decide +kernel
theorem dX9_odds_100 : decode cX9_odds 100 = .ok (.iload 7, 2) := by decide +kernel
theorem dX9_odds_102 : decode cX9_odds 102 = .ok (.iadd, 1) := by decide +kernel
theorem dX9_odds_103 : decode cX9_odds 103 = .ok (.iload_n 3, 1) := by decide +kernel
theorem dX9_odds_104 : decode cX9_odds 104 = .ok (.invokevirtual 305, 3) := by decide +kernel
theorem dX9_odds_107 : decode cX9_odds 107 = .ok (.aload_n 0, 1) := by decide +kernel
theorem dX9_odds_108 : decode cX9_odds 108 = .ok (.getfield 37, 3) := by decide +kernel
theorem dX9_odds_111 : decode cX9_odds 111 = .ok (.aload_n 0, 1) := by decide +kernel
theorem dX9_odds_112 : decode cX9_odds 112 = .ok (.getfield 44, 3) := by decide +kernel
theorem dX9_odds_115 : decode cX9_odds 115 = .ok (.iload 4, 2) := by decide +kernel
theorem dX9_odds_117 : decode cX9_odds 117 = .ok (.bipush 10, 2) := by decide +kernel
theorem dX9_odds_119 : decode cX9_odds 119 = .ok (.idiv, 1) := by decide +kernel
theorem dX9_odds_120 : decode cX9_odds 120 = .ok (.bipush 40, 2) := by decide +kernel
theorem dX9_odds_122 : decode cX9_odds 122 = .ok (.invokevirtual 308, 3) := by decide +kernel
theorem dX9_odds_125 : decode cX9_odds 125 = .ok (.iload 6, 2) := by decide +kernel
theorem dX9_odds_127 : decode cX9_odds 127 = .ok (.aload_n 0, 1) := by decide +kernel
theorem dX9_odds_128 : decode cX9_odds 128 = .ok (.getfield 37, 3) := by decide +kernel
theorem dX9_odds_131 : decode cX9_odds 131 = .ok (.iload 4, 2) := by decide +kernel
theorem dX9_odds_133 : decode cX9_odds 133 = .ok (.bipush 10, 2) := by decide +kernel
theorem dX9_odds_135 : decode cX9_odds 135 = .ok (.idiv, 1) := by decide +kernel
theorem dX9_odds_136 : decode cX9_odds 136 = .ok (.invokevirtual 236, 3) := by decide +kernel
theorem dX9_odds_139 : decode cX9_odds 139 = .ok (.ifCond .le 7, 3) := by decide +kernel
theorem dX9_odds_142 : decode cX9_odds 142 = .ok (.iconst 1, 1) := by decide +kernel
theorem dX9_odds_143 : decode cX9_odds 143 = .ok (.goto 4, 3) := by decide +kernel
theorem dX9_odds_146 : decode cX9_odds 146 = .ok (.iconst 0, 1) := by decide +kernel
theorem dX9_odds_147 : decode cX9_odds 147 = .ok (.iadd, 1) := by decide +kernel
theorem dX9_odds_148 : decode cX9_odds 148 = .ok (.istore 6, 2) := by decide +kernel
theorem dX9_odds_150 : decode cX9_odds 150 = .ok (.iinc 7 1, 3) := by decide +kernel
theorem dX9_odds_153 : decode cX9_odds 153 = .ok (.goto (-71), 3) := by decide +kernel
theorem dX9_odds_156 : decode cX9_odds 156 = .ok (.iload 6, 2) := by decide +kernel
theorem dX9_odds_158 : decode cX9_odds 158 = .ok (.iload_n 2, 1) := by decide +kernel
theorem dX9_odds_159 : decode cX9_odds 159 = .ok (.iload 4, 2) := by decide +kernel
theorem dX9_odds_161 : decode cX9_odds 161 = .ok (.bipush 10, 2) := by decide +kernel
theorem dX9_odds_163 : decode cX9_odds 163 = .ok (.irem, 1) := by decide +kernel
theorem dX9_odds_164 : decode cX9_odds 164 = .ok (.invokestatic 285, 3) := by decide +kernel
theorem dX9_odds_167 : decode cX9_odds 167 = .ok (.lreturn, 1) := by decide +kernel
theorem dX9_image_0 : decode cX9_image 0 = .ok (.aload_n 0, 1) := by decide +kernel
theorem dX9_image_1 : decode cX9_image 1 = .ok (.getfield 51, 3) := by decide +kernel
theorem dX9_image_4 : decode cX9_image 4 = .ok (.aload_n 0, 1) := by decide +kernel
theorem dX9_image_5 : decode cX9_image 5 = .ok (.getfield 44, 3) := by decide +kernel
theorem dX9_image_8 : decode cX9_image 8 = .ok (.invokevirtual 225, 3) := by decide +kernel
theorem dX9_image_11 : decode cX9_image 11 = .ok (.aload_n 0, 1) := by decide +kernel
theorem dX9_image_12 : decode cX9_image 12 = .ok (.iconst 1, 1) := by decide +kernel
theorem dX9_image_13 : decode cX9_image 13 = .ok (.putfield 61, 3) := by decide +kernel
theorem dX9_image_16 : decode cX9_image 16 = .ok (.aload_n 0, 1) := by decide +kernel
theorem dX9_image_17 : decode cX9_image 17 = .ok (.getfield 51, 3) := by decide +kernel
theorem dX9_image_20 : decode cX9_image 20 = .ok (.getfield 84, 3) := by decide +kernel
theorem dX9_image_23 : decode cX9_image 23 = .ok (.ireturn, 1) := by decide +kernel
theorem dX9_back_0 : decode cX9_back 0 = .ok (.aload_n 0, 1) := by decide +kernel
theorem dX9_back_1 : decode cX9_back 1 = .ok (.getfield 61, 3) := by decide +kernel
theorem dX9_back_4 : decode cX9_back 4 = .ok (.ifCond .ne 6, 3) := by decide +kernel
theorem dX9_back_7 : decode cX9_back 7 = .ok (.bipush (-3), 2) := by decide +kernel
theorem dX9_back_9 : decode cX9_back 9 = .ok (.ireturn, 1) := by decide +kernel
theorem dX9_back_10 : decode cX9_back 10 = .ok (.aload_n 0, 1) := by decide +kernel
theorem dX9_back_11 : decode cX9_back 11 = .ok (.getfield 44, 3) := by decide +kernel
theorem dX9_back_14 : decode cX9_back 14 = .ok (.aload_n 0, 1) := by decide +kernel
theorem dX9_back_15 : decode cX9_back 15 = .ok (.getfield 51, 3) := by decide +kernel
theorem dX9_back_18 : decode cX9_back 18 = .ok (.invokevirtual 225, 3) := by decide +kernel
theorem dX9_back_21 : decode cX9_back 21 = .ok (.aload_n 0, 1) := by decide +kernel
theorem dX9_back_22 : decode cX9_back 22 = .ok (.getfield 44, 3) := by decide +kernel
theorem dX9_back_25 : decode cX9_back 25 = .ok (.getfield 84, 3) := by decide +kernel
theorem dX9_back_28 : decode cX9_back 28 = .ok (.ireturn, 1) := by decide +kernel
theorem dX9_sheet_0 : decode cX9_sheet 0 = .ok (.aload_n 0, 1) := by decide +kernel
theorem dX9_sheet_1 : decode cX9_sheet 1 = .ok (.getfield 57, 3) := by decide +kernel
theorem dX9_sheet_4 : decode cX9_sheet 4 = .ok (.iload_n 1, 1) := by decide +kernel
theorem dX9_sheet_5 : decode cX9_sheet 5 = .ok (.invokevirtual 298, 3) := by decide +kernel
theorem dX9_sheet_8 : decode cX9_sheet 8 = .ok (.ifCond .eq 13, 3) := by decide +kernel
theorem dX9_sheet_11 : decode cX9_sheet 11 = .ok (.iload_n 2, 1) := by decide +kernel
theorem dX9_sheet_12 : decode cX9_sheet 12 = .ok (.iconst (-1), 1) := by decide +kernel
theorem dX9_sheet_13 : decode cX9_sheet 13 = .ok (.if_icmp .lt 8, 3) := by decide +kernel
theorem dX9_sheet_16 : decode cX9_sheet 16 = .ok (.iload_n 2, 1) := by decide +kernel
theorem dX9_sheet_17 : decode cX9_sheet 17 = .ok (.iconst 2, 1) := by decide +kernel
theorem dX9_sheet_18 : decode cX9_sheet 18 = .ok (.if_icmp .le 6, 3) := by decide +kernel
theorem dX9_sheet_21 : decode cX9_sheet 21 = .ok (.bipush (-2), 2) := by decide +kernel
theorem dX9_sheet_23 : decode cX9_sheet 23 = .ok (.ireturn, 1) := by decide +kernel
theorem dX9_sheet_24 : decode cX9_sheet 24 = .ok (.iload_n 2, 1) := by decide +kernel
theorem dX9_sheet_25 : decode cX9_sheet 25 = .ok (.iconst (-1), 1) := by decide +kernel
theorem dX9_sheet_26 : decode cX9_sheet 26 = .ok (.if_icmp .ne 15, 3) := by decide +kernel
theorem dX9_sheet_29 : decode cX9_sheet 29 = .ok (.aload_n 0, 1) := by decide +kernel
theorem dX9_sheet_30 : decode cX9_sheet 30 = .ok (.getfield 57, 3) := by decide +kernel
theorem dX9_sheet_33 : decode cX9_sheet 33 = .ok (.iload_n 1, 1) := by decide +kernel
theorem dX9_sheet_34 : decode cX9_sheet 34 = .ok (.iload_n 2, 1) := by decide +kernel
theorem dX9_sheet_35 : decode cX9_sheet 35 = .ok (.iconst 0, 1) := by decide +kernel
theorem dX9_sheet_36 : decode cX9_sheet 36 = .ok (.invokevirtual 299, 3) := by decide +kernel
theorem dX9_sheet_39 : decode cX9_sheet 39 = .ok (.iconst 1, 1) := by decide +kernel
theorem dX9_sheet_40 : decode cX9_sheet 40 = .ok (.ireturn, 1) := by decide +kernel
theorem dX9_sheet_41 : decode cX9_sheet 41 = .ok (.iload_n 3, 1) := by decide +kernel
theorem dX9_sheet_42 : decode cX9_sheet 42 = .ok (.bipush 40, 2) := by decide +kernel
theorem dX9_sheet_44 : decode cX9_sheet 44 = .ok (.if_icmp .le 6, 3) := by decide +kernel
theorem dX9_sheet_47 : decode cX9_sheet 47 = .ok (.bipush (-2), 2) := by decide +kernel
theorem dX9_sheet_49 : decode cX9_sheet 49 = .ok (.ireturn, 1) := by decide +kernel
theorem dX9_sheet_50 : decode cX9_sheet 50 = .ok (.iload_n 3, 1) := by decide +kernel
theorem dX9_sheet_51 : decode cX9_sheet 51 = .ok (.ifCond .ge 6, 3) := by decide +kernel
theorem dX9_sheet_54 : decode cX9_sheet 54 = .ok (.bipush (-14), 2) := by decide +kernel
theorem dX9_sheet_56 : decode cX9_sheet 56 = .ok (.ireturn, 1) := by decide +kernel
theorem dX9_sheet_57 : decode cX9_sheet 57 = .ok (.aload_n 0, 1) := by decide +kernel
theorem dX9_sheet_58 : decode cX9_sheet 58 = .ok (.getfield 57, 3) := by decide +kernel
theorem dX9_sheet_61 : decode cX9_sheet 61 = .ok (.iload_n 1, 1) := by decide +kernel
theorem dX9_sheet_62 : decode cX9_sheet 62 = .ok (.iload_n 2, 1) := by decide +kernel
theorem dX9_sheet_63 : decode cX9_sheet 63 = .ok (.iload_n 3, 1) := by decide +kernel
theorem dX9_sheet_64 : decode cX9_sheet 64 = .ok (.invokevirtual 299, 3) := by decide +kernel
theorem dX9_sheet_67 : decode cX9_sheet 67 = .ok (.iconst 1, 1) := by decide +kernel
theorem dX9_sheet_68 : decode cX9_sheet 68 = .ok (.ireturn, 1) := by decide +kernel
theorem dX9_cell_0 : decode cX9_cell 0 = .ok (.aload_n 0, 1) := by decide +kernel
theorem dX9_cell_1 : decode cX9_cell 1 = .ok (.getfield 57, 3) := by decide +kernel
theorem dX9_cell_4 : decode cX9_cell 4 = .ok (.iload_n 1, 1) := by decide +kernel
theorem dX9_cell_5 : decode cX9_cell 5 = .ok (.invokevirtual 298, 3) := by decide +kernel
theorem dX9_cell_8 : decode cX9_cell 8 = .ok (.ifCond .ne 6, 3) := by decide +kernel
theorem dX9_cell_11 : decode cX9_cell 11 = .ok (.bipush (-2), 2) := by decide +kernel
theorem dX9_cell_13 : decode cX9_cell 13 = .ok (.ireturn, 1) := by decide +kernel
theorem dX9_cell_14 : decode cX9_cell 14 = .ok (.aload_n 0, 1) := by decide +kernel
theorem dX9_cell_15 : decode cX9_cell 15 = .ok (.getfield 57, 3) := by decide +kernel
theorem dX9_cell_18 : decode cX9_cell 18 = .ok (.iload_n 1, 1) := by decide +kernel
theorem dX9_cell_19 : decode cX9_cell 19 = .ok (.invokevirtual 312, 3) := by decide +kernel
theorem dX9_cell_22 : decode cX9_cell 22 = .ok (.ifCond .eq 6, 3) := by decide +kernel
theorem dX9_cell_25 : decode cX9_cell 25 = .ok (.bipush (-11), 2) := by decide +kernel
theorem dX9_cell_27 : decode cX9_cell 27 = .ok (.ireturn, 1) := by decide +kernel
theorem dX9_cell_28 : decode cX9_cell 28 = .ok (.aload_n 0, 1) := by decide +kernel
theorem dX9_cell_29 : decode cX9_cell 29 = .ok (.getfield 57, 3) := by decide +kernel
theorem dX9_cell_32 : decode cX9_cell 32 = .ok (.iload_n 1, 1) := by decide +kernel
theorem dX9_cell_33 : decode cX9_cell 33 = .ok (.iload_n 2, 1) := by decide +kernel
theorem dX9_cell_34 : decode cX9_cell 34 = .ok (.iconst 1, 1) := by decide +kernel
theorem dX9_cell_35 : decode cX9_cell 35 = .ok (.invokevirtual 315, 3) := by decide +kernel
theorem dX9_cell_38 : decode cX9_cell 38 = .ok (.ifCond .ne 6, 3) := by decide +kernel
theorem dX9_cell_41 : decode cX9_cell 41 = .ok (.bipush (-12), 2) := by decide +kernel
theorem dX9_cell_43 : decode cX9_cell 43 = .ok (.ireturn, 1) := by decide +kernel
theorem dX9_cell_44 : decode cX9_cell 44 = .ok (.aload_n 0, 1) := by decide +kernel
theorem dX9_cell_45 : decode cX9_cell 45 = .ok (.getfield 57, 3) := by decide +kernel
theorem dX9_cell_48 : decode cX9_cell 48 = .ok (.iload_n 1, 1) := by decide +kernel
theorem dX9_cell_49 : decode cX9_cell 49 = .ok (.iload_n 2, 1) := by decide +kernel
theorem dX9_cell_50 : decode cX9_cell 50 = .ok (.iload_n 3, 1) := by decide +kernel
theorem dX9_cell_51 : decode cX9_cell 51 = .ok (.invokevirtual 301, 3) := by decide +kernel
theorem dX9_cell_54 : decode cX9_cell 54 = .ok (.iconst 1, 1) := by decide +kernel
theorem dX9_cell_55 : decode cX9_cell 55 = .ok (.ireturn, 1) := by decide +kernel
theorem dX9_copy_0 : decode cX9_copy 0 = .ok (.aload_n 0, 1) := by decide +kernel
theorem dX9_copy_1 : decode cX9_copy 1 = .ok (.getfield 57, 3) := by decide +kernel
theorem dX9_copy_4 : decode cX9_copy 4 = .ok (.iload_n 1, 1) := by decide +kernel
theorem dX9_copy_5 : decode cX9_copy 5 = .ok (.invokevirtual 298, 3) := by decide +kernel
theorem dX9_copy_8 : decode cX9_copy 8 = .ok (.ifCond .eq 14, 3) := by decide +kernel
theorem dX9_copy_11 : decode cX9_copy 11 = .ok (.aload_n 0, 1) := by decide +kernel
theorem dX9_copy_12 : decode cX9_copy 12 = .ok (.getfield 57, 3) := by decide +kernel
theorem dX9_copy_15 : decode cX9_copy 15 = .ok (.iload_n 3, 1) := by decide +kernel
theorem dX9_copy_16 : decode cX9_copy 16 = .ok (.invokevirtual 298, 3) := by decide +kernel
theorem dX9_copy_19 : decode cX9_copy 19 = .ok (.ifCond .ne 6, 3) := by decide +kernel
theorem dX9_copy_22 : decode cX9_copy 22 = .ok (.bipush (-2), 2) := by decide +kernel
theorem dX9_copy_24 : decode cX9_copy 24 = .ok (.ireturn, 1) := by decide +kernel
theorem dX9_copy_25 : decode cX9_copy 25 = .ok (.aload_n 0, 1) := by decide +kernel
theorem dX9_copy_26 : decode cX9_copy 26 = .ok (.getfield 57, 3) := by decide +kernel
theorem dX9_copy_29 : decode cX9_copy 29 = .ok (.iload_n 1, 1) := by decide +kernel
theorem dX9_copy_30 : decode cX9_copy 30 = .ok (.invokevirtual 312, 3) := by decide +kernel
theorem dX9_copy_33 : decode cX9_copy 33 = .ok (.ifCond .ne 14, 3) := by decide +kernel
theorem dX9_copy_36 : decode cX9_copy 36 = .ok (.aload_n 0, 1) := by decide +kernel
theorem dX9_copy_37 : decode cX9_copy 37 = .ok (.getfield 57, 3) := by decide +kernel
theorem dX9_copy_40 : decode cX9_copy 40 = .ok (.iload_n 3, 1) := by decide +kernel
theorem dX9_copy_41 : decode cX9_copy 41 = .ok (.invokevirtual 312, 3) := by decide +kernel
theorem dX9_copy_44 : decode cX9_copy 44 = .ok (.ifCond .eq 6, 3) := by decide +kernel
theorem dX9_copy_47 : decode cX9_copy 47 = .ok (.bipush (-11), 2) := by decide +kernel
theorem dX9_copy_49 : decode cX9_copy 49 = .ok (.ireturn, 1) := by decide +kernel
theorem dX9_copy_50 : decode cX9_copy 50 = .ok (.aload_n 0, 1) := by decide +kernel
theorem dX9_copy_51 : decode cX9_copy 51 = .ok (.getfield 57, 3) := by decide +kernel
theorem dX9_copy_54 : decode cX9_copy 54 = .ok (.getfield 318, 3) := by decide +kernel
theorem dX9_copy_57 : decode cX9_copy 57 = .ok (.iload_n 1, 1) := by decide +kernel
theorem dX9_copy_58 : decode cX9_copy 58 = .ok (.iaload, 1) := by decide +kernel
theorem dX9_copy_59 : decode cX9_copy 59 = .ok (.aload_n 0, 1) := by decide +kernel
theorem dX9_copy_60 : decode cX9_copy 60 = .ok (.getfield 57, 3) := by decide +kernel
theorem dX9_copy_63 : decode cX9_copy 63 = .ok (.getfield 318, 3) := by decide +kernel
theorem dX9_copy_66 : decode cX9_copy 66 = .ok (.iload_n 3, 1) := by decide +kernel
theorem dX9_copy_67 : decode cX9_copy 67 = .ok (.iaload, 1) := by decide +kernel
theorem dX9_copy_68 : decode cX9_copy 68 = .ok (.if_icmp .eq 6, 3) := by decide +kernel
theorem dX9_copy_71 : decode cX9_copy 71 = .ok (.bipush (-13), 2) := by decide +kernel
theorem dX9_copy_73 : decode cX9_copy 73 = .ok (.ireturn, 1) := by decide +kernel
theorem dX9_copy_74 : decode cX9_copy 74 = .ok (.aload_n 0, 1) := by decide +kernel
theorem dX9_copy_75 : decode cX9_copy 75 = .ok (.getfield 57, 3) := by decide +kernel
theorem dX9_copy_78 : decode cX9_copy 78 = .ok (.iload_n 1, 1) := by decide +kernel
theorem dX9_copy_79 : decode cX9_copy 79 = .ok (.iload_n 2, 1) := by decide +kernel
theorem dX9_copy_80 : decode cX9_copy 80 = .ok (.iload 5, 2) := by decide +kernel
theorem dX9_copy_82 : decode cX9_copy 82 = .ok (.invokevirtual 315, 3) := by decide +kernel
theorem dX9_copy_85 : decode cX9_copy 85 = .ok (.ifCond .eq 18, 3) := by decide +kernel
theorem dX9_copy_88 : decode cX9_copy 88 = .ok (.aload_n 0, 1) := by decide +kernel
theorem dX9_copy_89 : decode cX9_copy 89 = .ok (.getfield 57, 3) := by decide +kernel
theorem dX9_copy_92 : decode cX9_copy 92 = .ok (.iload_n 3, 1) := by decide +kernel
theorem dX9_copy_93 : decode cX9_copy 93 = .ok (.iload 4, 2) := by decide +kernel
theorem dX9_copy_95 : decode cX9_copy 95 = .ok (.iload 5, 2) := by decide +kernel
theorem dX9_copy_97 : decode cX9_copy 97 = .ok (.invokevirtual 315, 3) := by decide +kernel
theorem dX9_copy_100 : decode cX9_copy 100 = .ok (.ifCond .ne 6, 3) := by decide +kernel
theorem dX9_copy_103 : decode cX9_copy 103 = .ok (.bipush (-12), 2) := by decide +kernel
theorem dX9_copy_105 : decode cX9_copy 105 = .ok (.ireturn, 1) := by decide +kernel
theorem dX9_copy_106 : decode cX9_copy 106 = .ok (.aload_n 0, 1) := by decide +kernel
theorem dX9_copy_107 : decode cX9_copy 107 = .ok (.getfield 57, 3) := by decide +kernel
theorem dX9_copy_110 : decode cX9_copy 110 = .ok (.iload_n 1, 1) := by decide +kernel
theorem dX9_copy_111 : decode cX9_copy 111 = .ok (.iload_n 2, 1) := by decide +kernel
theorem dX9_copy_112 : decode cX9_copy 112 = .ok (.iload_n 3, 1) := by decide +kernel
theorem dX9_copy_113 : decode cX9_copy 113 = .ok (.iload 4, 2) := by decide +kernel
theorem dX9_copy_115 : decode cX9_copy 115 = .ok (.iload 5, 2) := by decide +kernel
theorem dX9_copy_117 : decode cX9_copy 117 = .ok (.invokevirtual 321, 3) := by decide +kernel
theorem dX9_copy_120 : decode cX9_copy 120 = .ok (.iload 5, 2) := by decide +kernel
theorem dX9_copy_122 : decode cX9_copy 122 = .ok (.ireturn, 1) := by decide +kernel
theorem dX9_facesBy_0 : decode cX9_facesBy 0 = .ok (.aload_n 0, 1) := by decide +kernel
theorem dX9_facesBy_1 : decode cX9_facesBy 1 = .ok (.getfield 57, 3) := by decide +kernel
theorem dX9_facesBy_4 : decode cX9_facesBy 4 = .ok (.iload_n 1, 1) := by decide +kernel
theorem dX9_facesBy_5 : decode cX9_facesBy 5 = .ok (.invokevirtual 298, 3) := by decide +kernel
theorem dX9_facesBy_8 : decode cX9_facesBy 8 = .ok (.ifCond .eq 25, 3) := by decide +kernel
theorem dX9_facesBy_11 : decode cX9_facesBy 11 = .ok (.iload_n 2, 1) := by decide +kernel
theorem dX9_facesBy_12 : decode cX9_facesBy 12 = .ok (.ifCond .lt 21, 3) := by decide +kernel
theorem dX9_facesBy_15 : decode cX9_facesBy 15 = .ok (.iload_n 2, 1) := by decide +kernel
theorem dX9_facesBy_16 : decode cX9_facesBy 16 = .ok (.iconst 2, 1) := by decide +kernel
theorem dX9_facesBy_17 : decode cX9_facesBy 17 = .ok (.if_icmp .gt 16, 3) := by decide +kernel
theorem dX9_facesBy_20 : decode cX9_facesBy 20 = .ok (.iload 4, 2) := by decide +kernel
theorem dX9_facesBy_22 : decode cX9_facesBy 22 = .ok (.iconst 5, 1) := by decide +kernel
theorem dX9_facesBy_23 : decode cX9_facesBy 23 = .ok (.invokestatic 104, 3) := by decide +kernel
theorem dX9_facesBy_26 : decode cX9_facesBy 26 = .ok (.ifCond .eq 7, 3) := by decide +kernel
theorem dX9_facesBy_29 : decode cX9_facesBy 29 = .ok (.iconst 1, 1) := by decide +kernel
theorem dX9_facesBy_30 : decode cX9_facesBy 30 = .ok (.goto 4, 3) := by decide +kernel
theorem dX9_facesBy_33 : decode cX9_facesBy 33 = .ok (.iconst 0, 1) := by decide +kernel
theorem dX9_facesBy_34 : decode cX9_facesBy 34 = .ok (.istore 5, 2) := by decide +kernel
theorem dX9_facesBy_36 : decode cX9_facesBy 36 = .ok (.iload 5, 2) := by decide +kernel
theorem dX9_facesBy_38 : decode cX9_facesBy 38 = .ok (.ifCond .ne 6, 3) := by decide +kernel
theorem dX9_facesBy_41 : decode cX9_facesBy 41 = .ok (.bipush (-2), 2) := by decide +kernel
theorem dX9_facesBy_43 : decode cX9_facesBy 43 = .ok (.ireturn, 1) := by decide +kernel
theorem dX9_facesBy_44 : decode cX9_facesBy 44 = .ok (.aload_n 0, 1) := by decide +kernel
theorem dX9_facesBy_45 : decode cX9_facesBy 45 = .ok (.getfield 57, 3) := by decide +kernel
theorem dX9_facesBy_48 : decode cX9_facesBy 48 = .ok (.iload_n 1, 1) := by decide +kernel
theorem dX9_facesBy_49 : decode cX9_facesBy 49 = .ok (.invokevirtual 312, 3) := by decide +kernel
theorem dX9_facesBy_52 : decode cX9_facesBy 52 = .ok (.ifCond .eq 6, 3) := by decide +kernel
theorem dX9_facesBy_55 : decode cX9_facesBy 55 = .ok (.bipush (-11), 2) := by decide +kernel
theorem dX9_facesBy_57 : decode cX9_facesBy 57 = .ok (.ireturn, 1) := by decide +kernel
theorem dX9_facesBy_58 : decode cX9_facesBy 58 = .ok (.aload_n 0, 1) := by decide +kernel
theorem dX9_facesBy_59 : decode cX9_facesBy 59 = .ok (.getfield 57, 3) := by decide +kernel
theorem dX9_facesBy_62 : decode cX9_facesBy 62 = .ok (.getfield 318, 3) := by decide +kernel
theorem dX9_facesBy_65 : decode cX9_facesBy 65 = .ok (.iload_n 1, 1) := by decide +kernel
theorem dX9_facesBy_66 : decode cX9_facesBy 66 = .ok (.iaload, 1) := by decide +kernel
theorem dX9_facesBy_67 : decode cX9_facesBy 67 = .ok (.iload_n 2, 1) := by decide +kernel
theorem dX9_facesBy_68 : decode cX9_facesBy 68 = .ok (.if_icmp .eq 6, 3) := by decide +kernel
theorem dX9_facesBy_71 : decode cX9_facesBy 71 = .ok (.bipush (-13), 2) := by decide +kernel
theorem dX9_facesBy_73 : decode cX9_facesBy 73 = .ok (.ireturn, 1) := by decide +kernel
theorem dX9_facesBy_74 : decode cX9_facesBy 74 = .ok (.iconst 0, 1) := by decide +kernel
theorem dX9_facesBy_75 : decode cX9_facesBy 75 = .ok (.istore 6, 2) := by decide +kernel
theorem dX9_facesBy_77 : decode cX9_facesBy 77 = .ok (.iconst 0, 1) := by decide +kernel
theorem dX9_facesBy_78 : decode cX9_facesBy 78 = .ok (.istore 7, 2) := by decide +kernel
theorem dX9_facesBy_80 : decode cX9_facesBy 80 = .ok (.iload 7, 2) := by decide +kernel
theorem dX9_facesBy_82 : decode cX9_facesBy 82 = .ok (.iload 4, 2) := by decide +kernel
theorem dX9_facesBy_84 : decode cX9_facesBy 84 = .ok (.if_icmp .ge 82, 3) := by decide +kernel
theorem dX9_facesBy_87 : decode cX9_facesBy 87 = .ok (.aload_n 0, 1) := by decide +kernel
theorem dX9_facesBy_88 : decode cX9_facesBy 88 = .ok (.getfield 57, 3) := by decide +kernel
theorem dX9_facesBy_91 : decode cX9_facesBy 91 = .ok (.iload_n 1, 1) := by decide +kernel
theorem dX9_facesBy_92 : decode cX9_facesBy 92 = .ok (.iload_n 3, 1) := by decide +kernel
theorem dX9_facesBy_93 : decode cX9_facesBy 93 = .ok (.iconst 3, 1) := by decide +kernel
theorem dX9_facesBy_94 : decode cX9_facesBy 94 = .ok (.iload 7, 2) := by decide +kernel
theorem dX9_facesBy_96 : decode cX9_facesBy 96 = .ok (.iconst 1, 1) := by decide +kernel
theorem dX9_facesBy_97 : decode cX9_facesBy 97 = .ok (.iadd, 1) := by decide +kernel
theorem dX9_facesBy_98 : decode cX9_facesBy 98 = .ok (.imul, 1) := by decide +kernel
theorem dX9_facesBy_99 : decode cX9_facesBy 99 = .ok (.invokevirtual 315, 3) := by decide +kernel
theorem dX9_facesBy_102 : decode cX9_facesBy 102 = .ok (.ifCond .ne 6, 3) := by decide +kernel
theorem dX9_facesBy_105 : decode cX9_facesBy 105 = .ok (.bipush (-12), 2) := by decide +kernel
theorem dX9_facesBy_107 : decode cX9_facesBy 107 = .ok (.ireturn, 1) := by decide +kernel
theorem dX9_facesBy_108 : decode cX9_facesBy 108 = .ok (.iload_n 3, 1) := by decide +kernel
theorem dX9_facesBy_109 : decode cX9_facesBy 109 = .ok (.iconst 3, 1) := by decide +kernel
theorem dX9_facesBy_110 : decode cX9_facesBy 110 = .ok (.iload 7, 2) := by decide +kernel
theorem dX9_facesBy_112 : decode cX9_facesBy 112 = .ok (.imul, 1) := by decide +kernel
theorem dX9_facesBy_113 : decode cX9_facesBy 113 = .ok (.iadd, 1) := by decide +kernel
theorem dX9_facesBy_114 : decode cX9_facesBy 114 = .ok (.istore 8, 2) := by decide +kernel
theorem dX9_facesBy_116 : decode cX9_facesBy 116 = .ok (.aload_n 0, 1) := by decide +kernel
theorem dX9_facesBy_117 : decode cX9_facesBy 117 = .ok (.aload_n 0, 1) := by decide +kernel
theorem dX9_facesBy_118 : decode cX9_facesBy 118 = .ok (.getfield 57, 3) := by decide +kernel
theorem dX9_facesBy_121 : decode cX9_facesBy 121 = .ok (.iload_n 1, 1) := by decide +kernel
theorem dX9_facesBy_122 : decode cX9_facesBy 122 = .ok (.iload 8, 2) := by decide +kernel
theorem dX9_facesBy_124 : decode cX9_facesBy 124 = .ok (.invokevirtual 324, 3) := by decide +kernel
theorem dX9_facesBy_127 : decode cX9_facesBy 127 = .ok (.aload_n 0, 1) := by decide +kernel
theorem dX9_facesBy_128 : decode cX9_facesBy 128 = .ok (.getfield 57, 3) := by decide +kernel
theorem dX9_facesBy_131 : decode cX9_facesBy 131 = .ok (.iload_n 1, 1) := by decide +kernel
theorem dX9_facesBy_132 : decode cX9_facesBy 132 = .ok (.iload 8, 2) := by decide +kernel
theorem dX9_facesBy_134 : decode cX9_facesBy 134 = .ok (.iconst 1, 1) := by decide +kernel
theorem dX9_facesBy_135 : decode cX9_facesBy 135 = .ok (.iadd, 1) := by decide +kernel
theorem dX9_facesBy_136 : decode cX9_facesBy 136 = .ok (.invokevirtual 324, 3) := by decide +kernel
theorem dX9_facesBy_139 : decode cX9_facesBy 139 = .ok (.aload_n 0, 1) := by decide +kernel
theorem dX9_facesBy_140 : decode cX9_facesBy 140 = .ok (.getfield 57, 3) := by decide +kernel
theorem dX9_facesBy_143 : decode cX9_facesBy 143 = .ok (.iload_n 1, 1) := by decide +kernel
theorem dX9_facesBy_144 : decode cX9_facesBy 144 = .ok (.iload 8, 2) := by decide +kernel
theorem dX9_facesBy_146 : decode cX9_facesBy 146 = .ok (.iconst 2, 1) := by decide +kernel
theorem dX9_facesBy_147 : decode cX9_facesBy 147 = .ok (.iadd, 1) := by decide +kernel
theorem dX9_facesBy_148 : decode cX9_facesBy 148 = .ok (.invokevirtual 324, 3) := by decide +kernel
theorem dX9_facesBy_151 : decode cX9_facesBy 151 = .ok (.invokevirtual 327, 3) := by decide +kernel
theorem dX9_facesBy_154 : decode cX9_facesBy 154 = .ok (.ifCond .lt 6, 3) := by decide +kernel
theorem dX9_facesBy_157 : decode cX9_facesBy 157 = .ok (.iinc 6 1, 3) := by decide +kernel
theorem dX9_facesBy_160 : decode cX9_facesBy 160 = .ok (.iinc 7 1, 3) := by decide +kernel
theorem dX9_facesBy_163 : decode cX9_facesBy 163 = .ok (.goto (-83), 3) := by decide +kernel
theorem dX9_facesBy_166 : decode cX9_facesBy 166 = .ok (.iload 6, 2) := by decide +kernel
theorem dX9_facesBy_168 : decode cX9_facesBy 168 = .ok (.ireturn, 1) := by decide +kernel
theorem dX9_taken_0 : decode cX9_taken 0 = .ok (.iload_n 2, 1) := by decide +kernel
theorem dX9_taken_1 : decode cX9_taken 1 = .ok (.bipush 6, 2) := by decide +kernel
theorem dX9_taken_3 : decode cX9_taken 3 = .ok (.invokestatic 104, 3) := by decide +kernel
theorem dX9_taken_6 : decode cX9_taken 6 = .ok (.ifCond .ne 6, 3) := by decide +kernel
theorem dX9_taken_9 : decode cX9_taken 9 = .ok (.bipush (-2), 2) := by decide +kernel
theorem dX9_taken_11 : decode cX9_taken 11 = .ok (.ireturn, 1) := by decide +kernel
theorem dX9_taken_12 : decode cX9_taken 12 = .ok (.iload_n 1, 1) := by decide +kernel
theorem dX9_taken_13 : decode cX9_taken 13 = .ok (.ifCond .lt 9, 3) := by decide +kernel
theorem dX9_taken_16 : decode cX9_taken 16 = .ok (.iload_n 1, 1) := by decide +kernel
theorem dX9_taken_17 : decode cX9_taken 17 = .ok (.bipush 13, 2) := by decide +kernel
theorem dX9_taken_19 : decode cX9_taken 19 = .ok (.if_icmp .lt 6, 3) := by decide +kernel
theorem dX9_taken_22 : decode cX9_taken 22 = .ok (.bipush (-12), 2) := by decide +kernel
theorem dX9_taken_24 : decode cX9_taken 24 = .ok (.ireturn, 1) := by decide +kernel
theorem dX9_taken_25 : decode cX9_taken 25 = .ok (.iload_n 1, 1) := by decide +kernel
theorem dX9_taken_26 : decode cX9_taken 26 = .ok (.bipush 8, 2) := by decide +kernel
theorem dX9_taken_28 : decode cX9_taken 28 = .ok (.if_icmp .ge 39, 3) := by decide +kernel
theorem dX9_taken_31 : decode cX9_taken 31 = .ok (.aload_n 0, 1) := by decide +kernel
theorem dX9_taken_32 : decode cX9_taken 32 = .ok (.getfield 44, 3) := by decide +kernel
theorem dX9_taken_35 : decode cX9_taken 35 = .ok (.getfield 158, 3) := by decide +kernel
theorem dX9_taken_38 : decode cX9_taken 38 = .ok (.iload_n 1, 1) := by decide +kernel
theorem dX9_taken_39 : decode cX9_taken 39 = .ok (.iaload, 1) := by decide +kernel
theorem dX9_taken_40 : decode cX9_taken 40 = .ok (.ifCond .ne 6, 3) := by decide +kernel
theorem dX9_taken_43 : decode cX9_taken 43 = .ok (.bipush (-11), 2) := by decide +kernel
theorem dX9_taken_45 : decode cX9_taken 45 = .ok (.ireturn, 1) := by decide +kernel
theorem dX9_taken_46 : decode cX9_taken 46 = .ok (.iload_n 2, 1) := by decide +kernel
theorem dX9_taken_47 : decode cX9_taken 47 = .ok (.bipush 6, 2) := by decide +kernel
theorem dX9_taken_49 : decode cX9_taken 49 = .ok (.if_icmp .ne 15, 3) := by decide +kernel
theorem dX9_taken_52 : decode cX9_taken 52 = .ok (.aload_n 0, 1) := by decide +kernel
theorem dX9_taken_53 : decode cX9_taken 53 = .ok (.getfield 44, 3) := by decide +kernel
theorem dX9_taken_56 : decode cX9_taken 56 = .ok (.getfield 158, 3) := by decide +kernel
theorem dX9_taken_59 : decode cX9_taken 59 = .ok (.iload_n 1, 1) := by decide +kernel
theorem dX9_taken_60 : decode cX9_taken 60 = .ok (.iaload, 1) := by decide +kernel
theorem dX9_taken_61 : decode cX9_taken 61 = .ok (.goto 5, 3) := by decide +kernel
theorem dX9_taken_64 : decode cX9_taken 64 = .ok (.bipush (-13), 2) := by decide +kernel
theorem dX9_taken_66 : decode cX9_taken 66 = .ok (.ireturn, 1) := by decide +kernel
theorem dX9_taken_67 : decode cX9_taken 67 = .ok (.iload_n 1, 1) := by decide +kernel
theorem dX9_taken_68 : decode cX9_taken 68 = .ok (.bipush 8, 2) := by decide +kernel
theorem dX9_taken_70 : decode cX9_taken 70 = .ok (.isub, 1) := by decide +kernel
theorem dX9_taken_71 : decode cX9_taken 71 = .ok (.istore_n 3, 1) := by decide +kernel
theorem dX9_taken_72 : decode cX9_taken 72 = .ok (.aload_n 0, 1) := by decide +kernel
theorem dX9_taken_73 : decode cX9_taken 73 = .ok (.getfield 44, 3) := by decide +kernel
theorem dX9_taken_76 : decode cX9_taken 76 = .ok (.iload_n 3, 1) := by decide +kernel
theorem dX9_taken_77 : decode cX9_taken 77 = .ok (.invokevirtual 146, 3) := by decide +kernel
theorem dX9_taken_80 : decode cX9_taken 80 = .ok (.ifCond .ne 6, 3) := by decide +kernel
theorem dX9_taken_83 : decode cX9_taken 83 = .ok (.bipush (-11), 2) := by decide +kernel
theorem dX9_taken_85 : decode cX9_taken 85 = .ok (.ireturn, 1) := by decide +kernel
theorem dX9_taken_86 : decode cX9_taken 86 = .ok (.aload_n 0, 1) := by decide +kernel
theorem dX9_taken_87 : decode cX9_taken 87 = .ok (.getfield 44, 3) := by decide +kernel
theorem dX9_taken_90 : decode cX9_taken 90 = .ok (.getfield 161, 3) := by decide +kernel
theorem dX9_taken_93 : decode cX9_taken 93 = .ok (.iload_n 3, 1) := by decide +kernel
theorem dX9_taken_94 : decode cX9_taken 94 = .ok (.iaload, 1) := by decide +kernel
theorem dX9_taken_95 : decode cX9_taken 95 = .ok (.iload_n 2, 1) := by decide +kernel
theorem dX9_taken_96 : decode cX9_taken 96 = .ok (.invokestatic 330, 3) := by decide +kernel
theorem dX9_taken_99 : decode cX9_taken 99 = .ok (.ifCond .eq 7, 3) := by decide +kernel
theorem dX9_taken_102 : decode cX9_taken 102 = .ok (.iload_n 3, 1) := by decide +kernel
theorem dX9_taken_103 : decode cX9_taken 103 = .ok (.goto 5, 3) := by decide +kernel
theorem dX9_taken_106 : decode cX9_taken 106 = .ok (.bipush (-13), 2) := by decide +kernel
theorem dX9_taken_108 : decode cX9_taken 108 = .ok (.ireturn, 1) := by decide +kernel
theorem dX9_isWithin_0 : decode cX9_isWithin 0 = .ok (.iload_n 0, 1) := by decide +kernel
theorem dX9_isWithin_1 : decode cX9_isWithin 1 = .ok (.ifCond .lt 12, 3) := by decide +kernel
theorem dX9_isWithin_4 : decode cX9_isWithin 4 = .ok (.iload_n 0, 1) := by decide +kernel
theorem dX9_isWithin_5 : decode cX9_isWithin 5 = .ok (.iload_n 1, 1) := by decide +kernel
theorem dX9_isWithin_6 : decode cX9_isWithin 6 = .ok (.if_icmp .gt 7, 3) := by decide +kernel
theorem dX9_isWithin_9 : decode cX9_isWithin 9 = .ok (.iconst 1, 1) := by decide +kernel
theorem dX9_isWithin_10 : decode cX9_isWithin 10 = .ok (.goto 4, 3) := by decide +kernel
theorem dX9_isWithin_13 : decode cX9_isWithin 13 = .ok (.iconst 0, 1) := by decide +kernel
theorem dX9_isWithin_14 : decode cX9_isWithin 14 = .ok (.ireturn, 1) := by decide +kernel
theorem dX9_isByte_0 : decode cX9_isByte 0 = .ok (.iload_n 0, 1) := by decide +kernel
theorem dX9_isByte_1 : decode cX9_isByte 1 = .ok (.sipush 255, 3) := by decide +kernel
theorem dX9_isByte_4 : decode cX9_isByte 4 = .ok (.invokestatic 104, 3) := by decide +kernel
theorem dX9_isByte_7 : decode cX9_isByte 7 = .ok (.ireturn, 1) := by decide +kernel
theorem dX9_isSeat_0 : decode cX9_isSeat 0 = .ok (.iload_n 0, 1) := by decide +kernel
theorem dX9_isSeat_1 : decode cX9_isSeat 1 = .ok (.bipush 7, 2) := by decide +kernel
theorem dX9_isSeat_3 : decode cX9_isSeat 3 = .ok (.invokestatic 104, 3) := by decide +kernel
theorem dX9_isSeat_6 : decode cX9_isSeat 6 = .ok (.ireturn, 1) := by decide +kernel
theorem dX9_isSecond_0 : decode cX9_isSecond 0 = .ok (.iload_n 0, 1) := by decide +kernel
theorem dX9_isSecond_1 : decode cX9_isSecond 1 = .ok (.bipush 39, 2) := by decide +kernel
theorem dX9_isSecond_3 : decode cX9_isSecond 3 = .ok (.invokestatic 104, 3) := by decide +kernel
theorem dX9_isSecond_6 : decode cX9_isSecond 6 = .ok (.ireturn, 1) := by decide +kernel
theorem dX9_playAllNow_0 : decode cX9_playAllNow 0 = .ok (.aload_n 0, 1) := by decide +kernel
theorem dX9_playAllNow_1 : decode cX9_playAllNow 1 = .ok (.getfield 28, 3) := by decide +kernel
theorem dX9_playAllNow_4 : decode cX9_playAllNow 4 = .ok (.invokevirtual 249, 3) := by decide +kernel
theorem dX9_playAllNow_7 : decode cX9_playAllNow 7 = .ok (.aload_n 0, 1) := by decide +kernel
theorem dX9_playAllNow_8 : decode cX9_playAllNow 8 = .ok (.getfield 37, 3) := by decide +kernel
theorem dX9_playAllNow_11 : decode cX9_playAllNow 11 = .ok (.aload_n 0, 1) := by decide +kernel
theorem dX9_playAllNow_12 : decode cX9_playAllNow 12 = .ok (.getfield 44, 3) := by decide +kernel
theorem dX9_playAllNow_15 : decode cX9_playAllNow 15 = .ok (.iload_n 1, 1) := by decide +kernel
theorem dX9_playAllNow_16 : decode cX9_playAllNow 16 = .ok (.invokevirtual 255, 3) := by decide +kernel
theorem dX9_playAllNow_19 : decode cX9_playAllNow 19 = .ok (.return_, 1) := by decide +kernel
theorem dX9_playAllThought_0 : decode cX9_playAllThought 0 = .ok (.aload_n 0, 1) := by decide +kernel
theorem dX9_playAllThought_1 : decode cX9_playAllThought 1 = .ok (.getfield 28, 3) := by decide +kernel
theorem dX9_playAllThought_4 : decode cX9_playAllThought 4 = .ok (.invokevirtual 249, 3) := by decide +kernel
theorem dX9_playAllThought_7 : decode cX9_playAllThought 7 = .ok (.aload_n 0, 1) := by decide +kernel
theorem dX9_playAllThought_8 : decode cX9_playAllThought 8 = .ok (.getfield 37, 3) := by decide +kernel
theorem dX9_playAllThought_11 : decode cX9_playAllThought 11 = .ok (.aload_n 0, 1) := by decide +kernel
theorem dX9_playAllThought_12 : decode cX9_playAllThought 12 = .ok (.getfield 48, 3) := by decide +kernel
theorem dX9_playAllThought_15 : decode cX9_playAllThought 15 = .ok (.iload_n 1, 1) := by decide +kernel
theorem dX9_playAllThought_16 : decode cX9_playAllThought 16 = .ok (.invokevirtual 255, 3) := by decide +kernel
theorem dX9_playAllThought_19 : decode cX9_playAllThought 19 = .ok (.return_, 1) := by decide +kernel
theorem dX9_playNow_0 : decode cX9_playNow 0 = .ok (.aload_n 0, 1) := by decide +kernel
theorem dX9_playNow_1 : decode cX9_playNow 1 = .ok (.getfield 28, 3) := by decide +kernel
theorem dX9_playNow_4 : decode cX9_playNow 4 = .ok (.invokevirtual 249, 3) := by decide +kernel
theorem dX9_playNow_7 : decode cX9_playNow 7 = .ok (.aload_n 0, 1) := by decide +kernel
theorem dX9_playNow_8 : decode cX9_playNow 8 = .ok (.getfield 37, 3) := by decide +kernel
theorem dX9_playNow_11 : decode cX9_playNow 11 = .ok (.aload_n 0, 1) := by decide +kernel
theorem dX9_playNow_12 : decode cX9_playNow 12 = .ok (.getfield 44, 3) := by decide +kernel
theorem dX9_playNow_15 : decode cX9_playNow 15 = .ok (.iload_n 1, 1) := by decide +kernel
theorem dX9_playNow_16 : decode cX9_playNow 16 = .ok (.iload_n 2, 1) := by decide +kernel
theorem dX9_playNow_17 : decode cX9_playNow 17 = .ok (.invokevirtual 308, 3) := by decide +kernel
theorem dX9_playNow_20 : decode cX9_playNow 20 = .ok (.return_, 1) := by decide +kernel
theorem dX9_playThought_0 : decode cX9_playThought 0 = .ok (.aload_n 0, 1) := by decide +kernel
theorem dX9_playThought_1 : decode cX9_playThought 1 = .ok (.getfield 28, 3) := by decide +kernel
theorem dX9_playThought_4 : decode cX9_playThought 4 = .ok (.invokevirtual 249, 3) := by decide +kernel
theorem dX9_playThought_7 : decode cX9_playThought 7 = .ok (.aload_n 0, 1) := by decide +kernel
theorem dX9_playThought_8 : decode cX9_playThought 8 = .ok (.getfield 37, 3) := by decide +kernel
theorem dX9_playThought_11 : decode cX9_playThought 11 = .ok (.aload_n 0, 1) := by decide +kernel
theorem dX9_playThought_12 : decode cX9_playThought 12 = .ok (.getfield 48, 3) := by decide +kernel
theorem dX9_playThought_15 : decode cX9_playThought 15 = .ok (.iload_n 1, 1) := by decide +kernel
theorem dX9_playThought_16 : decode cX9_playThought 16 = .ok (.iload_n 2, 1) := by decide +kernel
theorem dX9_playThought_17 : decode cX9_playThought 17 = .ok (.invokevirtual 308, 3) := by decide +kernel
theorem dX9_playThought_20 : decode cX9_playThought 20 = .ok (.return_, 1) := by decide +kernel
theorem dX9_playStopped_0 : decode cX9_playStopped 0 = .ok (.aload_n 0, 1) := by decide +kernel
theorem dX9_playStopped_1 : decode cX9_playStopped 1 = .ok (.getfield 28, 3) := by decide +kernel
theorem dX9_playStopped_4 : decode cX9_playStopped 4 = .ok (.invokevirtual 249, 3) := by decide +kernel
theorem dX9_playStopped_7 : decode cX9_playStopped 7 = .ok (.aload_n 0, 1) := by decide +kernel
theorem dX9_playStopped_8 : decode cX9_playStopped 8 = .ok (.getfield 28, 3) := by decide +kernel
theorem dX9_playStopped_11 : decode cX9_playStopped 11 = .ok (.iload_n 1, 1) := by decide +kernel
theorem dX9_playStopped_12 : decode cX9_playStopped 12 = .ok (.iload_n 2, 1) := by decide +kernel
theorem dX9_playStopped_13 : decode cX9_playStopped 13 = .ok (.iload_n 3, 1) := by decide +kernel
theorem dX9_playStopped_14 : decode cX9_playStopped 14 = .ok (.invokevirtual 333, 3) := by decide +kernel
theorem dX9_playStopped_17 : decode cX9_playStopped 17 = .ok (.aload_n 0, 1) := by decide +kernel
theorem dX9_playStopped_18 : decode cX9_playStopped 18 = .ok (.getfield 37, 3) := by decide +kernel
theorem dX9_playStopped_21 : decode cX9_playStopped 21 = .ok (.aload_n 0, 1) := by decide +kernel
theorem dX9_playStopped_22 : decode cX9_playStopped 22 = .ok (.getfield 44, 3) := by decide +kernel
theorem dX9_playStopped_25 : decode cX9_playStopped 25 = .ok (.iload_n 1, 1) := by decide +kernel
theorem dX9_playStopped_26 : decode cX9_playStopped 26 = .ok (.bipush 40, 2) := by decide +kernel
theorem dX9_playStopped_28 : decode cX9_playStopped 28 = .ok (.invokevirtual 308, 3) := by decide +kernel
theorem dX9_playStopped_31 : decode cX9_playStopped 31 = .ok (.return_, 1) := by decide +kernel
theorem dX9_playCaused_0 : decode cX9_playCaused 0 = .ok (.aload_n 0, 1) := by decide +kernel
theorem dX9_playCaused_1 : decode cX9_playCaused 1 = .ok (.getfield 28, 3) := by decide +kernel
theorem dX9_playCaused_4 : decode cX9_playCaused 4 = .ok (.invokevirtual 249, 3) := by decide +kernel
theorem dX9_playCaused_7 : decode cX9_playCaused 7 = .ok (.aload_n 0, 1) := by decide +kernel
theorem dX9_playCaused_8 : decode cX9_playCaused 8 = .ok (.getfield 28, 3) := by decide +kernel
theorem dX9_playCaused_11 : decode cX9_playCaused 11 = .ok (.iload_n 2, 1) := by decide +kernel
theorem dX9_playCaused_12 : decode cX9_playCaused 12 = .ok (.iload_n 3, 1) := by decide +kernel
theorem dX9_playCaused_13 : decode cX9_playCaused 13 = .ok (.iload 4, 2) := by decide +kernel
theorem dX9_playCaused_15 : decode cX9_playCaused 15 = .ok (.invokevirtual 268, 3) := by decide +kernel
theorem dX9_playCaused_18 : decode cX9_playCaused 18 = .ok (.aload_n 0, 1) := by decide +kernel
theorem dX9_playCaused_19 : decode cX9_playCaused 19 = .ok (.getfield 37, 3) := by decide +kernel
theorem dX9_playCaused_22 : decode cX9_playCaused 22 = .ok (.aload_n 0, 1) := by decide +kernel
theorem dX9_playCaused_23 : decode cX9_playCaused 23 = .ok (.getfield 44, 3) := by decide +kernel
theorem dX9_playCaused_26 : decode cX9_playCaused 26 = .ok (.iload_n 1, 1) := by decide +kernel
theorem dX9_playCaused_27 : decode cX9_playCaused 27 = .ok (.iload 5, 2) := by decide +kernel
theorem dX9_playCaused_29 : decode cX9_playCaused 29 = .ok (.invokevirtual 308, 3) := by decide +kernel
theorem dX9_playCaused_32 : decode cX9_playCaused 32 = .ok (.return_, 1) := by decide +kernel
theorem dX9_redTold_0 : decode cX9_redTold 0 = .ok (.iload_n 2, 1) := by decide +kernel
theorem dX9_redTold_1 : decode cX9_redTold 1 = .ok (.tableswitch 67 0 3 #[31, 40, 49, 58], 31) := by decide +kernel
theorem dX9_redTold_32 : decode cX9_redTold 32 = .ok (.aload_n 0, 1) := by decide +kernel
theorem dX9_redTold_33 : decode cX9_redTold 33 = .ok (.getfield 37, 3) := by decide +kernel
theorem dX9_redTold_36 : decode cX9_redTold 36 = .ok (.iload_n 1, 1) := by decide +kernel
theorem dX9_redTold_37 : decode cX9_redTold 37 = .ok (.invokevirtual 222, 3) := by decide +kernel
theorem dX9_redTold_40 : decode cX9_redTold 40 = .ok (.ireturn, 1) := by decide +kernel
theorem dX9_redTold_41 : decode cX9_redTold 41 = .ok (.aload_n 0, 1) := by decide +kernel
theorem dX9_redTold_42 : decode cX9_redTold 42 = .ok (.getfield 37, 3) := by decide +kernel
theorem dX9_redTold_45 : decode cX9_redTold 45 = .ok (.iload_n 1, 1) := by decide +kernel
theorem dX9_redTold_46 : decode cX9_redTold 46 = .ok (.invokevirtual 236, 3) := by decide +kernel
theorem dX9_redTold_49 : decode cX9_redTold 49 = .ok (.ireturn, 1) := by decide +kernel
theorem dX9_redTold_50 : decode cX9_redTold 50 = .ok (.aload_n 0, 1) := by decide +kernel
theorem dX9_redTold_51 : decode cX9_redTold 51 = .ok (.getfield 37, 3) := by decide +kernel
theorem dX9_redTold_54 : decode cX9_redTold 54 = .ok (.iload_n 1, 1) := by decide +kernel
theorem dX9_redTold_55 : decode cX9_redTold 55 = .ok (.invokevirtual 336, 3) := by decide +kernel
theorem dX9_redTold_58 : decode cX9_redTold 58 = .ok (.ireturn, 1) := by decide +kernel
theorem dX9_redTold_59 : decode cX9_redTold 59 = .ok (.aload_n 0, 1) := by decide +kernel
theorem dX9_redTold_60 : decode cX9_redTold 60 = .ok (.getfield 37, 3) := by decide +kernel
theorem dX9_redTold_63 : decode cX9_redTold 63 = .ok (.iload_n 1, 1) := by decide +kernel
theorem dX9_redTold_64 : decode cX9_redTold 64 = .ok (.invokevirtual 339, 3) := by decide +kernel
theorem dX9_redTold_67 : decode cX9_redTold 67 = .ok (.ireturn, 1) := by decide +kernel
theorem dX9_redTold_68 : decode cX9_redTold 68 = .ok (.aload_n 0, 1) := by decide +kernel
theorem dX9_redTold_69 : decode cX9_redTold 69 = .ok (.getfield 37, 3) := by decide +kernel
theorem dX9_redTold_72 : decode cX9_redTold 72 = .ok (.iload_n 1, 1) := by decide +kernel
theorem dX9_redTold_73 : decode cX9_redTold 73 = .ok (.invokevirtual 240, 3) := by decide +kernel
theorem dX9_redTold_76 : decode cX9_redTold 76 = .ok (.ireturn, 1) := by decide +kernel
theorem dX9_feltUnseenBy_0 : decode cX9_feltUnseenBy 0 = .ok (.aload_n 0, 1) := by decide +kernel
theorem dX9_feltUnseenBy_1 : decode cX9_feltUnseenBy 1 = .ok (.getfield 28, 3) := by decide +kernel
theorem dX9_feltUnseenBy_4 : decode cX9_feltUnseenBy 4 = .ok (.invokevirtual 249, 3) := by decide +kernel
theorem dX9_feltUnseenBy_7 : decode cX9_feltUnseenBy 7 = .ok (.aload_n 0, 1) := by decide +kernel
theorem dX9_feltUnseenBy_8 : decode cX9_feltUnseenBy 8 = .ok (.getfield 28, 3) := by decide +kernel
theorem dX9_feltUnseenBy_11 : decode cX9_feltUnseenBy 11 = .ok (.iload_n 2, 1) := by decide +kernel
theorem dX9_feltUnseenBy_12 : decode cX9_feltUnseenBy 12 = .ok (.iload_n 1, 1) := by decide +kernel
theorem dX9_feltUnseenBy_13 : decode cX9_feltUnseenBy 13 = .ok (.invokevirtual 252, 3) := by decide +kernel
theorem dX9_feltUnseenBy_16 : decode cX9_feltUnseenBy 16 = .ok (.aload_n 0, 1) := by decide +kernel
theorem dX9_feltUnseenBy_17 : decode cX9_feltUnseenBy 17 = .ok (.getfield 37, 3) := by decide +kernel
theorem dX9_feltUnseenBy_20 : decode cX9_feltUnseenBy 20 = .ok (.aload_n 0, 1) := by decide +kernel
theorem dX9_feltUnseenBy_21 : decode cX9_feltUnseenBy 21 = .ok (.getfield 44, 3) := by decide +kernel
theorem dX9_feltUnseenBy_24 : decode cX9_feltUnseenBy 24 = .ok (.iload_n 1, 1) := by decide +kernel
theorem dX9_feltUnseenBy_25 : decode cX9_feltUnseenBy 25 = .ok (.bipush 40, 2) := by decide +kernel
theorem dX9_feltUnseenBy_27 : decode cX9_feltUnseenBy 27 = .ok (.invokevirtual 308, 3) := by decide +kernel
theorem dX9_feltUnseenBy_30 : decode cX9_feltUnseenBy 30 = .ok (.aload_n 0, 1) := by decide +kernel
theorem dX9_feltUnseenBy_31 : decode cX9_feltUnseenBy 31 = .ok (.getfield 37, 3) := by decide +kernel
theorem dX9_feltUnseenBy_34 : decode cX9_feltUnseenBy 34 = .ok (.iload_n 1, 1) := by decide +kernel
theorem dX9_feltUnseenBy_35 : decode cX9_feltUnseenBy 35 = .ok (.invokevirtual 240, 3) := by decide +kernel
theorem dX9_feltUnseenBy_38 : decode cX9_feltUnseenBy 38 = .ok (.ireturn, 1) := by decide +kernel
theorem dX9_isRedAsked_0 : decode cX9_isRedAsked 0 = .ok (.aload_n 0, 1) := by decide +kernel
theorem dX9_isRedAsked_1 : decode cX9_isRedAsked 1 = .ok (.iload_n 1, 1) := by decide +kernel
theorem dX9_isRedAsked_2 : decode cX9_isRedAsked 2 = .ok (.iload_n 1, 1) := by decide +kernel
theorem dX9_isRedAsked_3 : decode cX9_isRedAsked 3 = .ok (.iconst 0, 1) := by decide +kernel
theorem dX9_isRedAsked_4 : decode cX9_isRedAsked 4 = .ok (.iload_n 2, 1) := by decide +kernel
theorem dX9_isRedAsked_5 : decode cX9_isRedAsked 5 = .ok (.iload_n 3, 1) := by decide +kernel
theorem dX9_isRedAsked_6 : decode cX9_isRedAsked 6 = .ok (.invokevirtual 270, 3) := by decide +kernel
theorem dX9_isRedAsked_9 : decode cX9_isRedAsked 9 = .ok (.aload_n 0, 1) := by decide +kernel
theorem dX9_isRedAsked_10 : decode cX9_isRedAsked 10 = .ok (.getfield 37, 3) := by decide +kernel
theorem dX9_isRedAsked_13 : decode cX9_isRedAsked 13 = .ok (.iload_n 3, 1) := by decide +kernel
theorem dX9_isRedAsked_14 : decode cX9_isRedAsked 14 = .ok (.iload_n 1, 1) := by decide +kernel
theorem dX9_isRedAsked_15 : decode cX9_isRedAsked 15 = .ok (.invokevirtual 196, 3) := by decide +kernel
theorem dX9_isRedAsked_18 : decode cX9_isRedAsked 18 = .ok (.ireturn, 1) := by decide +kernel
theorem dX9_lowestTerms_0 : decode cX9_lowestTerms 0 = .ok (.iload_n 1, 1) := by decide +kernel
theorem dX9_lowestTerms_1 : decode cX9_lowestTerms 1 = .ok (.ifCond .gt 7, 3) := by decide +kernel
theorem dX9_lowestTerms_4 : decode cX9_lowestTerms 4 = .ok (.ldc2_w 278, 3) := by decide +kernel
theorem dX9_lowestTerms_7 : decode cX9_lowestTerms 7 = .ok (.lreturn, 1) := by decide +kernel
theorem dX9_lowestTerms_8 : decode cX9_lowestTerms 8 = .ok (.iconst 1, 1) := by decide +kernel
theorem dX9_lowestTerms_9 : decode cX9_lowestTerms 9 = .ok (.istore_n 3, 1) := by decide +kernel
theorem dX9_lowestTerms_10 : decode cX9_lowestTerms 10 = .ok (.iconst 2, 1) := by decide +kernel
theorem dX9_lowestTerms_11 : decode cX9_lowestTerms 11 = .ok (.istore 4, 2) := by decide +kernel
theorem dX9_lowestTerms_13 : decode cX9_lowestTerms 13 = .ok (.iload 4, 2) := by decide +kernel
theorem dX9_lowestTerms_15 : decode cX9_lowestTerms 15 = .ok (.iload_n 1, 1) := by decide +kernel
theorem dX9_lowestTerms_16 : decode cX9_lowestTerms 16 = .ok (.if_icmp .gt 26, 3) := by decide +kernel
theorem dX9_lowestTerms_19 : decode cX9_lowestTerms 19 = .ok (.iload_n 0, 1) := by decide +kernel
theorem dX9_lowestTerms_20 : decode cX9_lowestTerms 20 = .ok (.iload 4, 2) := by decide +kernel
theorem dX9_lowestTerms_22 : decode cX9_lowestTerms 22 = .ok (.irem, 1) := by decide +kernel
theorem dX9_lowestTerms_23 : decode cX9_lowestTerms 23 = .ok (.ifCond .ne 13, 3) := by decide +kernel
theorem dX9_lowestTerms_26 : decode cX9_lowestTerms 26 = .ok (.iload_n 1, 1) := by decide +kernel
theorem dX9_lowestTerms_27 : decode cX9_lowestTerms 27 = .ok (.iload 4, 2) := by decide +kernel
theorem dX9_lowestTerms_29 : decode cX9_lowestTerms 29 = .ok (.irem, 1) := by decide +kernel
theorem dX9_lowestTerms_30 : decode cX9_lowestTerms 30 = .ok (.ifCond .ne 6, 3) := by decide +kernel
theorem dX9_lowestTerms_33 : decode cX9_lowestTerms 33 = .ok (.iload 4, 2) := by decide +kernel
theorem dX9_lowestTerms_35 : decode cX9_lowestTerms 35 = .ok (.istore_n 3, 1) := by decide +kernel
theorem dX9_lowestTerms_36 : decode cX9_lowestTerms 36 = .ok (.iinc 4 1, 3) := by decide +kernel
theorem dX9_lowestTerms_39 : decode cX9_lowestTerms 39 = .ok (.goto (-26), 3) := by decide +kernel
theorem dX9_lowestTerms_42 : decode cX9_lowestTerms 42 = .ok (.iload_n 2, 1) := by decide +kernel
theorem dX9_lowestTerms_43 : decode cX9_lowestTerms 43 = .ok (.ifCond .ne 10, 3) := by decide +kernel
theorem dX9_lowestTerms_46 : decode cX9_lowestTerms 46 = .ok (.iload_n 0, 1) := by decide +kernel
theorem dX9_lowestTerms_47 : decode cX9_lowestTerms 47 = .ok (.iload_n 3, 1) := by decide +kernel
theorem dX9_lowestTerms_48 : decode cX9_lowestTerms 48 = .ok (.idiv, 1) := by decide +kernel
theorem dX9_lowestTerms_49 : decode cX9_lowestTerms 49 = .ok (.i2l, 1) := by decide +kernel
theorem dX9_lowestTerms_50 : decode cX9_lowestTerms 50 = .ok (.goto 7, 3) := by decide +kernel
theorem dX9_lowestTerms_53 : decode cX9_lowestTerms 53 = .ok (.iload_n 1, 1) := by decide +kernel
theorem dX9_lowestTerms_54 : decode cX9_lowestTerms 54 = .ok (.iload_n 3, 1) := by decide +kernel
theorem dX9_lowestTerms_55 : decode cX9_lowestTerms 55 = .ok (.idiv, 1) := by decide +kernel
theorem dX9_lowestTerms_56 : decode cX9_lowestTerms 56 = .ok (.i2l, 1) := by decide +kernel
theorem dX9_lowestTerms_57 : decode cX9_lowestTerms 57 = .ok (.lreturn, 1) := by decide +kernel
theorem dX9_filmRefusal_0 : decode cX9_filmRefusal 0 = .ok (.aload_n 0, 1) := by decide +kernel
theorem dX9_filmRefusal_1 : decode cX9_filmRefusal 1 = .ok (.getfield 57, 3) := by decide +kernel
theorem dX9_filmRefusal_4 : decode cX9_filmRefusal 4 = .ok (.iload_n 1, 1) := by decide +kernel
theorem dX9_filmRefusal_5 : decode cX9_filmRefusal 5 = .ok (.invokevirtual 298, 3) := by decide +kernel
theorem dX9_filmRefusal_8 : decode cX9_filmRefusal 8 = .ok (.ifCond .ne 6, 3) := by decide +kernel
theorem dX9_filmRefusal_11 : decode cX9_filmRefusal 11 = .ok (.bipush (-2), 2) := by decide +kernel
theorem dX9_filmRefusal_13 : decode cX9_filmRefusal 13 = .ok (.ireturn, 1) := by decide +kernel
theorem dX9_filmRefusal_14 : decode cX9_filmRefusal 14 = .ok (.aload_n 0, 1) := by decide +kernel
theorem dX9_filmRefusal_15 : decode cX9_filmRefusal 15 = .ok (.getfield 57, 3) := by decide +kernel
theorem dX9_filmRefusal_18 : decode cX9_filmRefusal 18 = .ok (.iload_n 1, 1) := by decide +kernel
theorem dX9_filmRefusal_19 : decode cX9_filmRefusal 19 = .ok (.invokevirtual 312, 3) := by decide +kernel
theorem dX9_filmRefusal_22 : decode cX9_filmRefusal 22 = .ok (.ifCond .eq 6, 3) := by decide +kernel
theorem dX9_filmRefusal_25 : decode cX9_filmRefusal 25 = .ok (.bipush (-11), 2) := by decide +kernel
theorem dX9_filmRefusal_27 : decode cX9_filmRefusal 27 = .ok (.ireturn, 1) := by decide +kernel
theorem dX9_filmRefusal_28 : decode cX9_filmRefusal 28 = .ok (.aload_n 0, 1) := by decide +kernel
theorem dX9_filmRefusal_29 : decode cX9_filmRefusal 29 = .ok (.getfield 57, 3) := by decide +kernel
theorem dX9_filmRefusal_32 : decode cX9_filmRefusal 32 = .ok (.getfield 342, 3) := by decide +kernel
theorem dX9_filmRefusal_35 : decode cX9_filmRefusal 35 = .ok (.iload_n 1, 1) := by decide +kernel
theorem dX9_filmRefusal_36 : decode cX9_filmRefusal 36 = .ok (.iaload, 1) := by decide +kernel
theorem dX9_filmRefusal_37 : decode cX9_filmRefusal 37 = .ok (.bipush 8, 2) := by decide +kernel
theorem dX9_filmRefusal_39 : decode cX9_filmRefusal 39 = .ok (.if_icmp .le 8, 3) := by decide +kernel
theorem dX9_filmRefusal_42 : decode cX9_filmRefusal 42 = .ok (.bipush (-2), 2) := by decide +kernel
theorem dX9_filmRefusal_44 : decode cX9_filmRefusal 44 = .ok (.goto 4, 3) := by decide +kernel
theorem dX9_filmRefusal_47 : decode cX9_filmRefusal 47 = .ok (.iconst 0, 1) := by decide +kernel
theorem dX9_filmRefusal_48 : decode cX9_filmRefusal 48 = .ok (.ireturn, 1) := by decide +kernel
theorem dX9_filmLength_0 : decode cX9_filmLength 0 = .ok (.aload_n 0, 1) := by decide +kernel
theorem dX9_filmLength_1 : decode cX9_filmLength 1 = .ok (.getfield 57, 3) := by decide +kernel
theorem dX9_filmLength_4 : decode cX9_filmLength 4 = .ok (.iload_n 1, 1) := by decide +kernel
theorem dX9_filmLength_5 : decode cX9_filmLength 5 = .ok (.invokevirtual 298, 3) := by decide +kernel
theorem dX9_filmLength_8 : decode cX9_filmLength 8 = .ok (.ifCond .eq 17, 3) := by decide +kernel
theorem dX9_filmLength_11 : decode cX9_filmLength 11 = .ok (.iconst 5, 1) := by decide +kernel
theorem dX9_filmLength_12 : decode cX9_filmLength 12 = .ok (.aload_n 0, 1) := by decide +kernel
theorem dX9_filmLength_13 : decode cX9_filmLength 13 = .ok (.getfield 57, 3) := by decide +kernel
theorem dX9_filmLength_16 : decode cX9_filmLength 16 = .ok (.getfield 342, 3) := by decide +kernel
theorem dX9_filmLength_19 : decode cX9_filmLength 19 = .ok (.iload_n 1, 1) := by decide +kernel
theorem dX9_filmLength_20 : decode cX9_filmLength 20 = .ok (.iaload, 1) := by decide +kernel
theorem dX9_filmLength_21 : decode cX9_filmLength 21 = .ok (.imul, 1) := by decide +kernel
theorem dX9_filmLength_22 : decode cX9_filmLength 22 = .ok (.goto 4, 3) := by decide +kernel
theorem dX9_filmLength_25 : decode cX9_filmLength 25 = .ok (.iconst 0, 1) := by decide +kernel
theorem dX9_filmLength_26 : decode cX9_filmLength 26 = .ok (.ireturn, 1) := by decide +kernel
theorem dX9_firstOther_0 : decode cX9_firstOther 0 = .ok (.aload_n 0, 1) := by decide +kernel
theorem dX9_firstOther_1 : decode cX9_firstOther 1 = .ok (.getfield 57, 3) := by decide +kernel
theorem dX9_firstOther_4 : decode cX9_firstOther 4 = .ok (.iload_n 1, 1) := by decide +kernel
theorem dX9_firstOther_5 : decode cX9_firstOther 5 = .ok (.invokevirtual 298, 3) := by decide +kernel
theorem dX9_firstOther_8 : decode cX9_firstOther 8 = .ok (.ifCond .eq 15, 3) := by decide +kernel
theorem dX9_firstOther_11 : decode cX9_firstOther 11 = .ok (.aload_n 0, 1) := by decide +kernel
theorem dX9_firstOther_12 : decode cX9_firstOther 12 = .ok (.getfield 57, 3) := by decide +kernel
theorem dX9_firstOther_15 : decode cX9_firstOther 15 = .ok (.getfield 342, 3) := by decide +kernel
theorem dX9_firstOther_18 : decode cX9_firstOther 18 = .ok (.iload_n 1, 1) := by decide +kernel
theorem dX9_firstOther_19 : decode cX9_firstOther 19 = .ok (.iaload, 1) := by decide +kernel
theorem dX9_firstOther_20 : decode cX9_firstOther 20 = .ok (.goto 4, 3) := by decide +kernel
theorem dX9_firstOther_23 : decode cX9_firstOther 23 = .ok (.iconst 0, 1) := by decide +kernel
theorem dX9_firstOther_24 : decode cX9_firstOther 24 = .ok (.istore_n 3, 1) := by decide +kernel
theorem dX9_firstOther_25 : decode cX9_firstOther 25 = .ok (.iconst 0, 1) := by decide +kernel
theorem dX9_firstOther_26 : decode cX9_firstOther 26 = .ok (.istore 4, 2) := by decide +kernel
theorem dX9_firstOther_28 : decode cX9_firstOther 28 = .ok (.iload 4, 2) := by decide +kernel
theorem dX9_firstOther_30 : decode cX9_firstOther 30 = .ok (.iload_n 3, 1) := by decide +kernel
theorem dX9_firstOther_31 : decode cX9_firstOther 31 = .ok (.if_icmp .ge 39, 3) := by decide +kernel
theorem dX9_firstOther_34 : decode cX9_firstOther 34 = .ok (.aload_n 0, 1) := by decide +kernel
theorem dX9_firstOther_35 : decode cX9_firstOther 35 = .ok (.getfield 57, 3) := by decide +kernel
theorem dX9_firstOther_38 : decode cX9_firstOther 38 = .ok (.iload_n 1, 1) := by decide +kernel
theorem dX9_firstOther_39 : decode cX9_firstOther 39 = .ok (.iload 4, 2) := by decide +kernel
theorem dX9_firstOther_41 : decode cX9_firstOther 41 = .ok (.invokevirtual 324, 3) := by decide +kernel
theorem dX9_firstOther_44 : decode cX9_firstOther 44 = .ok (.aload_n 0, 1) := by decide +kernel
theorem dX9_firstOther_45 : decode cX9_firstOther 45 = .ok (.getfield 37, 3) := by decide +kernel
theorem dX9_firstOther_48 : decode cX9_firstOther 48 = .ok (.iconst 5, 1) := by decide +kernel
theorem dX9_firstOther_49 : decode cX9_firstOther 49 = .ok (.iload 4, 2) := by decide +kernel
theorem dX9_firstOther_51 : decode cX9_firstOther 51 = .ok (.iconst 1, 1) := by decide +kernel
theorem dX9_firstOther_52 : decode cX9_firstOther 52 = .ok (.iadd, 1) := by decide +kernel
theorem dX9_firstOther_53 : decode cX9_firstOther 53 = .ok (.imul, 1) := by decide +kernel
theorem dX9_firstOther_54 : decode cX9_firstOther 54 = .ok (.iload_n 2, 1) := by decide +kernel
theorem dX9_firstOther_55 : decode cX9_firstOther 55 = .ok (.invokevirtual 192, 3) := by decide +kernel
theorem dX9_firstOther_58 : decode cX9_firstOther 58 = .ok (.if_icmp .eq 6, 3) := by decide +kernel
theorem dX9_firstOther_61 : decode cX9_firstOther 61 = .ok (.iload 4, 2) := by decide +kernel
theorem dX9_firstOther_63 : decode cX9_firstOther 63 = .ok (.ireturn, 1) := by decide +kernel
theorem dX9_firstOther_64 : decode cX9_firstOther 64 = .ok (.iinc 4 1, 3) := by decide +kernel
theorem dX9_firstOther_67 : decode cX9_firstOther 67 = .ok (.goto (-39), 3) := by decide +kernel
theorem dX9_firstOther_70 : decode cX9_firstOther 70 = .ok (.iconst (-1), 1) := by decide +kernel
theorem dX9_firstOther_71 : decode cX9_firstOther 71 = .ok (.ireturn, 1) := by decide +kernel
