theorem dX3_countHit_8 : decode cX3_countHit 8 = .ok (.return_, 1) := by decide +kernel
theorem dX3_countHit_9 : decode cX3_countHit 9 = .ok (.aload_n 0, 1) := by decide +kernel
theorem dX3_countHit_10 : decode cX3_countHit 10 = .ok (.dup, 1) := by decide +kernel
theorem dX3_countHit_11 : decode cX3_countHit 11 = .ok (.getfield 29, 3) := by decide +kernel
theorem dX3_countHit_14 : decode cX3_countHit 14 = .ok (.iconst 1, 1) := by decide +kernel
theorem dX3_countHit_15 : decode cX3_countHit 15 = .ok (.iadd, 1) := by decide +kernel
theorem dX3_countHit_16 : decode cX3_countHit 16 = .ok (.putfield 29, 3) := by decide +kernel
theorem dX3_countHit_19 : decode cX3_countHit 19 = .ok (.aload_n 0, 1) := by decide +kernel
theorem dX3_countHit_20 : decode cX3_countHit 20 = .ok (.getfield 29, 3) := by decide +kernel
theorem dX3_countHit_23 : decode cX3_countHit 23 = .ok (.bipush 64, 2) := by decide +kernel
theorem dX3_countHit_25 : decode cX3_countHit 25 = .ok (.if_icmp .ne 13, 3) := by decide +kernel
theorem dX3_countHit_28 : decode cX3_countHit 28 = .ok (.aload_n 0, 1) := by decide +kernel
theorem dX3_countHit_29 : decode cX3_countHit 29 = .ok (.iconst 1, 1) := by decide +kernel
theorem dX3_countHit_30 : decode cX3_countHit 30 = .ok (.putfield 25, 3) := by decide +kernel
theorem dX3_countHit_33 : decode cX3_countHit 33 = .ok (.aload_n 0, 1) := by decide +kernel
theorem dX3_countHit_34 : decode cX3_countHit 34 = .ok (.iconst 0, 1) := by decide +kernel
theorem dX3_countHit_35 : decode cX3_countHit 35 = .ok (.putfield 29, 3) := by decide +kernel
theorem dX3_countHit_38 : decode cX3_countHit 38 = .ok (.return_, 1) := by decide +kernel
theorem dX3_countInRow_0 : decode cX3_countInRow 0 = .ok (.aload_n 0, 1) := by decide +kernel
theorem dX3_countInRow_1 : decode cX3_countInRow 1 = .ok (.dup, 1) := by decide +kernel
theorem dX3_countInRow_2 : decode cX3_countInRow 2 = .ok (.getfield 94, 3) := by decide +kernel
theorem dX3_countInRow_5 : decode cX3_countInRow 5 = .ok (.iconst 1, 1) := by decide +kernel
theorem dX3_countInRow_6 : decode cX3_countInRow 6 = .ok (.iadd, 1) := by decide +kernel
theorem dX3_countInRow_7 : decode cX3_countInRow 7 = .ok (.putfield 94, 3) := by decide +kernel
theorem dX3_countInRow_10 : decode cX3_countInRow 10 = .ok (.iload_n 1, 1) := by decide +kernel
theorem dX3_countInRow_11 : decode cX3_countInRow 11 = .ok (.ifCond .ne 13, 3) := by decide +kernel
theorem dX3_countInRow_14 : decode cX3_countInRow 14 = .ok (.aload_n 0, 1) := by decide +kernel
theorem dX3_countInRow_15 : decode cX3_countInRow 15 = .ok (.dup, 1) := by decide +kernel
theorem dX3_countInRow_16 : decode cX3_countInRow 16 = .ok (.getfield 43, 3) := by decide +kernel
theorem dX3_countInRow_19 : decode cX3_countInRow 19 = .ok (.iconst 1, 1) := by decide +kernel
theorem dX3_countInRow_20 : decode cX3_countInRow 20 = .ok (.iadd, 1) := by decide +kernel
theorem dX3_countInRow_21 : decode cX3_countInRow 21 = .ok (.putfield 43, 3) := by decide +kernel
theorem dX3_countInRow_24 : decode cX3_countInRow 24 = .ok (.aload_n 0, 1) := by decide +kernel
theorem dX3_countInRow_25 : decode cX3_countInRow 25 = .ok (.getfield 43, 3) := by decide +kernel
theorem dX3_countInRow_28 : decode cX3_countInRow 28 = .ok (.bipush 16, 2) := by decide +kernel
theorem dX3_countInRow_30 : decode cX3_countInRow 30 = .ok (.if_icmp .ne 10, 3) := by decide +kernel
theorem dX3_countInRow_33 : decode cX3_countInRow 33 = .ok (.aload_n 0, 1) := by decide +kernel
theorem dX3_countInRow_34 : decode cX3_countInRow 34 = .ok (.invokevirtual 91, 3) := by decide +kernel
theorem dX3_countInRow_37 : decode cX3_countInRow 37 = .ok (.goto 16, 3) := by decide +kernel
theorem dX3_countInRow_40 : decode cX3_countInRow 40 = .ok (.aload_n 0, 1) := by decide +kernel
theorem dX3_countInRow_41 : decode cX3_countInRow 41 = .ok (.getfield 94, 3) := by decide +kernel
theorem dX3_countInRow_44 : decode cX3_countInRow 44 = .ok (.bipush 64, 2) := by decide +kernel
theorem dX3_countInRow_46 : decode cX3_countInRow 46 = .ok (.if_icmp .ne 7, 3) := by decide +kernel
theorem dX3_countInRow_49 : decode cX3_countInRow 49 = .ok (.aload_n 0, 1) := by decide +kernel
theorem dX3_countInRow_50 : decode cX3_countInRow 50 = .ok (.invokevirtual 97, 3) := by decide +kernel
theorem dX3_countInRow_53 : decode cX3_countInRow 53 = .ok (.return_, 1) := by decide +kernel
theorem dX3_beginRow_0 : decode cX3_beginRow 0 = .ok (.aload_n 0, 1) := by decide +kernel
theorem dX3_beginRow_1 : decode cX3_beginRow 1 = .ok (.iconst 0, 1) := by decide +kernel
theorem dX3_beginRow_2 : decode cX3_beginRow 2 = .ok (.putfield 94, 3) := by decide +kernel
theorem dX3_beginRow_5 : decode cX3_beginRow 5 = .ok (.aload_n 0, 1) := by decide +kernel
theorem dX3_beginRow_6 : decode cX3_beginRow 6 = .ok (.iconst 0, 1) := by decide +kernel
theorem dX3_beginRow_7 : decode cX3_beginRow 7 = .ok (.putfield 43, 3) := by decide +kernel
theorem dX3_beginRow_10 : decode cX3_beginRow 10 = .ok (.return_, 1) := by decide +kernel
theorem dX3_slip_0 : decode cX3_slip 0 = .ok (.aload_n 0, 1) := by decide +kernel
theorem dX3_slip_1 : decode cX3_slip 1 = .ok (.iconst 0, 1) := by decide +kernel
theorem dX3_slip_2 : decode cX3_slip 2 = .ok (.putfield 25, 3) := by decide +kernel
theorem dX3_slip_5 : decode cX3_slip 5 = .ok (.aload_n 0, 1) := by decide +kernel
theorem dX3_slip_6 : decode cX3_slip 6 = .ok (.iconst 0, 1) := by decide +kernel
theorem dX3_slip_7 : decode cX3_slip 7 = .ok (.putfield 29, 3) := by decide +kernel
theorem dX3_slip_10 : decode cX3_slip 10 = .ok (.aload_n 0, 1) := by decide +kernel
theorem dX3_slip_11 : decode cX3_slip 11 = .ok (.invokevirtual 97, 3) := by decide +kernel
theorem dX3_slip_14 : decode cX3_slip 14 = .ok (.aload_n 0, 1) := by decide +kernel
theorem dX3_slip_15 : decode cX3_slip 15 = .ok (.dup, 1) := by decide +kernel
theorem dX3_slip_16 : decode cX3_slip 16 = .ok (.getfield 33, 3) := by decide +kernel
theorem dX3_slip_19 : decode cX3_slip 19 = .ok (.iconst 1, 1) := by decide +kernel
theorem dX3_slip_20 : decode cX3_slip 20 = .ok (.iadd, 1) := by decide +kernel
theorem dX3_slip_21 : decode cX3_slip 21 = .ok (.putfield 33, 3) := by decide +kernel
theorem dX3_slip_24 : decode cX3_slip 24 = .ok (.aload_n 0, 1) := by decide +kernel
theorem dX3_slip_25 : decode cX3_slip 25 = .ok (.iconst 1, 1) := by decide +kernel
theorem dX3_slip_26 : decode cX3_slip 26 = .ok (.putfield 54, 3) := by decide +kernel
theorem dX3_slip_29 : decode cX3_slip 29 = .ok (.return_, 1) := by decide +kernel
theorem dX4_init_0 : decode cX4_init 0 = .ok (.aload_n 0, 1) := by decide +kernel
theorem dX4_init_1 : decode cX4_init 1 = .ok (.invokespecial 1, 3) := by decide +kernel
theorem dX4_init_4 : decode cX4_init 4 = .ok (.return_, 1) := by decide +kernel
theorem dX4_exchange_0 : decode cX4_exchange 0 = .ok (.aload_n 0, 1) := by decide +kernel
theorem dX4_exchange_1 : decode cX4_exchange 1 = .ok (.getfield 7, 3) := by decide +kernel
theorem dX4_exchange_4 : decode cX4_exchange 4 = .ok (.lstore_n 3, 1) := by decide +kernel
theorem dX4_exchange_5 : decode cX4_exchange 5 = .ok (.aload_n 0, 1) := by decide +kernel
theorem dX4_exchange_6 : decode cX4_exchange 6 = .ok (.lload_n 1, 1) := by decide +kernel
theorem dX4_exchange_7 : decode cX4_exchange 7 = .ok (.ldc2_w 13, 3) := by decide +kernel
theorem dX4_exchange_10 : decode cX4_exchange 10 = .ok (.land, 1) := by decide +kernel
theorem dX4_exchange_11 : decode cX4_exchange 11 = .ok (.putfield 7, 3) := by decide +kernel
theorem dX4_exchange_14 : decode cX4_exchange 14 = .ok (.lload_n 3, 1) := by decide +kernel
theorem dX4_exchange_15 : decode cX4_exchange 15 = .ok (.lreturn, 1) := by decide +kernel
theorem dX4_scramble_0 : decode cX4_scramble 0 = .ok (.aload_n 0, 1) := by decide +kernel
theorem dX4_scramble_1 : decode cX4_scramble 1 = .ok (.iload_n 1, 1) := by decide +kernel
theorem dX4_scramble_2 : decode cX4_scramble 2 = .ok (.invokevirtual 15, 3) := by decide +kernel
theorem dX4_scramble_5 : decode cX4_scramble 5 = .ok (.istore_n 2, 1) := by decide +kernel
theorem dX4_scramble_6 : decode cX4_scramble 6 = .ok (.aload_n 0, 1) := by decide +kernel
theorem dX4_scramble_7 : decode cX4_scramble 7 = .ok (.iload_n 2, 1) := by decide +kernel
theorem dX4_scramble_8 : decode cX4_scramble 8 = .ok (.invokevirtual 19, 3) := by decide +kernel
theorem dX4_scramble_11 : decode cX4_scramble 11 = .ok (.iload_n 2, 1) := by decide +kernel
theorem dX4_scramble_12 : decode cX4_scramble 12 = .ok (.ireturn, 1) := by decide +kernel
theorem dX4_unscramble_0 : decode cX4_unscramble 0 = .ok (.aload_n 0, 1) := by decide +kernel
theorem dX4_unscramble_1 : decode cX4_unscramble 1 = .ok (.iload_n 1, 1) := by decide +kernel
theorem dX4_unscramble_2 : decode cX4_unscramble 2 = .ok (.invokevirtual 15, 3) := by decide +kernel
theorem dX4_unscramble_5 : decode cX4_unscramble 5 = .ok (.istore_n 2, 1) := by decide +kernel
theorem dX4_unscramble_6 : decode cX4_unscramble 6 = .ok (.aload_n 0, 1) := by decide +kernel
theorem dX4_unscramble_7 : decode cX4_unscramble 7 = .ok (.iload_n 1, 1) := by decide +kernel
theorem dX4_unscramble_8 : decode cX4_unscramble 8 = .ok (.invokevirtual 19, 3) := by decide +kernel
theorem dX4_unscramble_11 : decode cX4_unscramble 11 = .ok (.iload_n 2, 1) := by decide +kernel
theorem dX4_unscramble_12 : decode cX4_unscramble 12 = .ok (.ireturn, 1) := by decide +kernel
theorem dX4_mixed_0 : decode cX4_mixed 0 = .ok (.aload_n 0, 1) := by decide +kernel
theorem dX4_mixed_1 : decode cX4_mixed 1 = .ok (.getfield 7, 3) := by decide +kernel
theorem dX4_mixed_4 : decode cX4_mixed 4 = .ok (.bipush 38, 2) := by decide +kernel
theorem dX4_mixed_6 : decode cX4_mixed 6 = .ok (.lushr, 1) := by decide +kernel
theorem dX4_mixed_7 : decode cX4_mixed 7 = .ok (.l2i, 1) := by decide +kernel
theorem dX4_mixed_8 : decode cX4_mixed 8 = .ok (.iconst 1, 1) := by decide +kernel
theorem dX4_mixed_9 : decode cX4_mixed 9 = .ok (.iand, 1) := by decide +kernel
theorem dX4_mixed_10 : decode cX4_mixed 10 = .ok (.istore_n 2, 1) := by decide +kernel
theorem dX4_mixed_11 : decode cX4_mixed 11 = .ok (.aload_n 0, 1) := by decide +kernel
theorem dX4_mixed_12 : decode cX4_mixed 12 = .ok (.getfield 7, 3) := by decide +kernel
theorem dX4_mixed_15 : decode cX4_mixed 15 = .ok (.bipush 57, 2) := by decide +kernel
theorem dX4_mixed_17 : decode cX4_mixed 17 = .ok (.lushr, 1) := by decide +kernel
theorem dX4_mixed_18 : decode cX4_mixed 18 = .ok (.l2i, 1) := by decide +kernel
theorem dX4_mixed_19 : decode cX4_mixed 19 = .ok (.iconst 1, 1) := by decide +kernel
theorem dX4_mixed_20 : decode cX4_mixed 20 = .ok (.iand, 1) := by decide +kernel
theorem dX4_mixed_21 : decode cX4_mixed 21 = .ok (.istore_n 3, 1) := by decide +kernel
theorem dX4_mixed_22 : decode cX4_mixed 22 = .ok (.iload_n 1, 1) := by decide +kernel
theorem dX4_mixed_23 : decode cX4_mixed 23 = .ok (.iload_n 2, 1) := by decide +kernel
theorem dX4_mixed_24 : decode cX4_mixed 24 = .ok (.ixor, 1) := by decide +kernel
theorem dX4_mixed_25 : decode cX4_mixed 25 = .ok (.iload_n 3, 1) := by decide +kernel
theorem dX4_mixed_26 : decode cX4_mixed 26 = .ok (.ixor, 1) := by decide +kernel
theorem dX4_mixed_27 : decode cX4_mixed 27 = .ok (.ireturn, 1) := by decide +kernel
theorem dX4_keep_0 : decode cX4_keep 0 = .ok (.aload_n 0, 1) := by decide +kernel
theorem dX4_keep_1 : decode cX4_keep 1 = .ok (.aload_n 0, 1) := by decide +kernel
theorem dX4_keep_2 : decode cX4_keep 2 = .ok (.getfield 7, 3) := by decide +kernel
theorem dX4_keep_5 : decode cX4_keep 5 = .ok (.iconst 1, 1) := by decide +kernel
theorem dX4_keep_6 : decode cX4_keep 6 = .ok (.lshl, 1) := by decide +kernel
theorem dX4_keep_7 : decode cX4_keep 7 = .ok (.iload_n 1, 1) := by decide +kernel
theorem dX4_keep_8 : decode cX4_keep 8 = .ok (.i2l, 1) := by decide +kernel
theorem dX4_keep_9 : decode cX4_keep 9 = .ok (.lor, 1) := by decide +kernel
theorem dX4_keep_10 : decode cX4_keep 10 = .ok (.ldc2_w 13, 3) := by decide +kernel
theorem dX4_keep_13 : decode cX4_keep 13 = .ok (.land, 1) := by decide +kernel
theorem dX4_keep_14 : decode cX4_keep 14 = .ok (.putfield 7, 3) := by decide +kernel
theorem dX4_keep_17 : decode cX4_keep 17 = .ok (.return_, 1) := by decide +kernel
theorem dX5_init_0 : decode cX5_init 0 = .ok (.aload_n 0, 1) := by decide +kernel
theorem dX5_init_1 : decode cX5_init 1 = .ok (.invokespecial 5, 3) := by decide +kernel
theorem dX5_init_4 : decode cX5_init 4 = .ok (.aload_n 0, 1) := by decide +kernel
theorem dX5_init_5 : decode cX5_init 5 = .ok (.new 11, 3) := by decide +kernel
theorem dX5_init_8 : decode cX5_init 8 = .ok (.dup, 1) := by decide +kernel
theorem dX5_init_9 : decode cX5_init 9 = .ok (.invokespecial 13, 3) := by decide +kernel
theorem dX5_init_12 : decode cX5_init 12 = .ok (.putfield 14, 3) := by decide +kernel
theorem dX5_init_15 : decode cX5_init 15 = .ok (.aload_n 0, 1) := by decide +kernel
theorem dX5_init_16 : decode cX5_init 16 = .ok (.bipush 8, 2) := by decide +kernel
theorem dX5_init_18 : decode cX5_init 18 = .ok (.newarray .int, 2) := by decide +kernel
theorem dX5_init_20 : decode cX5_init 20 = .ok (.putfield 20, 3) := by decide +kernel
theorem dX5_init_23 : decode cX5_init 23 = .ok (.return_, 1) := by decide +kernel
theorem dX5_waitingCount_0 : decode cX5_waitingCount 0 = .ok (.aload_n 0, 1) := by decide +kernel
theorem dX5_waitingCount_1 : decode cX5_waitingCount 1 = .ok (.getfield 24, 3) := by decide +kernel
theorem dX5_waitingCount_4 : decode cX5_waitingCount 4 = .ok (.ireturn, 1) := by decide +kernel
theorem dX5_exchangeState_0 : decode cX5_exchangeState 0 = .ok (.aload_n 0, 1) := by decide +kernel
theorem dX5_exchangeState_1 : decode cX5_exchangeState 1 = .ok (.getfield 14, 3) := by decide +kernel
theorem dX5_exchangeState_4 : decode cX5_exchangeState 4 = .ok (.lload_n 1, 1) := by decide +kernel
theorem dX5_exchangeState_5 : decode cX5_exchangeState 5 = .ok (.invokevirtual 28, 3) := by decide +kernel
theorem dX5_exchangeState_8 : decode cX5_exchangeState 8 = .ok (.lreturn, 1) := by decide +kernel
theorem dX5_accept_0 : decode cX5_accept 0 = .ok (.aload_n 0, 1) := by decide +kernel
theorem dX5_accept_1 : decode cX5_accept 1 = .ok (.getfield 20, 3) := by decide +kernel
theorem dX5_accept_4 : decode cX5_accept 4 = .ok (.aload_n 0, 1) := by decide +kernel
theorem dX5_accept_5 : decode cX5_accept 5 = .ok (.getfield 24, 3) := by decide +kernel
theorem dX5_accept_8 : decode cX5_accept 8 = .ok (.iload_n 1, 1) := by decide +kernel
theorem dX5_accept_9 : decode cX5_accept 9 = .ok (.iastore, 1) := by decide +kernel
theorem dX5_accept_10 : decode cX5_accept 10 = .ok (.aload_n 0, 1) := by decide +kernel
theorem dX5_accept_11 : decode cX5_accept 11 = .ok (.dup, 1) := by decide +kernel
theorem dX5_accept_12 : decode cX5_accept 12 = .ok (.getfield 24, 3) := by decide +kernel
theorem dX5_accept_15 : decode cX5_accept 15 = .ok (.iconst 1, 1) := by decide +kernel
theorem dX5_accept_16 : decode cX5_accept 16 = .ok (.iadd, 1) := by decide +kernel
theorem dX5_accept_17 : decode cX5_accept 17 = .ok (.putfield 24, 3) := by decide +kernel
theorem dX5_accept_20 : decode cX5_accept 20 = .ok (.aload_n 0, 1) := by decide +kernel
theorem dX5_accept_21 : decode cX5_accept 21 = .ok (.getfield 24, 3) := by decide +kernel
theorem dX5_accept_24 : decode cX5_accept 24 = .ok (.bipush 8, 2) := by decide +kernel
theorem dX5_accept_26 : decode cX5_accept 26 = .ok (.if_icmp .ne 13, 3) := by decide +kernel
theorem dX5_accept_29 : decode cX5_accept 29 = .ok (.aload_n 0, 1) := by decide +kernel
theorem dX5_accept_30 : decode cX5_accept 30 = .ok (.iconst 0, 1) := by decide +kernel
theorem dX5_accept_31 : decode cX5_accept 31 = .ok (.putfield 24, 3) := by decide +kernel
theorem dX5_accept_34 : decode cX5_accept 34 = .ok (.aload_n 0, 1) := by decide +kernel
theorem dX5_accept_35 : decode cX5_accept 35 = .ok (.aload_n 2, 1) := by decide +kernel
theorem dX5_accept_36 : decode cX5_accept 36 = .ok (.invokevirtual 32, 3) := by decide +kernel
theorem dX5_accept_39 : decode cX5_accept 39 = .ok (.return_, 1) := by decide +kernel
theorem dX5_acceptBytes_0 : decode cX5_acceptBytes 0 = .ok (.iconst 3, 1) := by decide +kernel
theorem dX5_acceptBytes_1 : decode cX5_acceptBytes 1 = .ok (.istore_n 3, 1) := by decide +kernel
theorem dX5_acceptBytes_2 : decode cX5_acceptBytes 2 = .ok (.iload_n 3, 1) := by decide +kernel
theorem dX5_acceptBytes_3 : decode cX5_acceptBytes 3 = .ok (.ifCond .lt 24, 3) := by decide +kernel
theorem dX5_acceptBytes_6 : decode cX5_acceptBytes 6 = .ok (.aload_n 0, 1) := by decide +kernel
theorem dX5_acceptBytes_7 : decode cX5_acceptBytes 7 = .ok (.iload_n 1, 1) := by decide +kernel
theorem dX5_acceptBytes_8 : decode cX5_acceptBytes 8 = .ok (.iload_n 3, 1) := by decide +kernel
theorem dX5_acceptBytes_9 : decode cX5_acceptBytes 9 = .ok (.bipush 8, 2) := by decide +kernel
theorem dX5_acceptBytes_11 : decode cX5_acceptBytes 11 = .ok (.imul, 1) := by decide +kernel
theorem dX5_acceptBytes_12 : decode cX5_acceptBytes 12 = .ok (.iushr, 1) := by decide +kernel
theorem dX5_acceptBytes_13 : decode cX5_acceptBytes 13 = .ok (.sipush 255, 3) := by decide +kernel
theorem dX5_acceptBytes_16 : decode cX5_acceptBytes 16 = .ok (.iand, 1) := by decide +kernel
theorem dX5_acceptBytes_17 : decode cX5_acceptBytes 17 = .ok (.aload_n 2, 1) := by decide +kernel
theorem dX5_acceptBytes_18 : decode cX5_acceptBytes 18 = .ok (.invokevirtual 36, 3) := by decide +kernel
theorem dX5_acceptBytes_21 : decode cX5_acceptBytes 21 = .ok (.iinc 3 (-1), 3) := by decide +kernel
theorem dX5_acceptBytes_24 : decode cX5_acceptBytes 24 = .ok (.goto (-22), 3) := by decide +kernel
theorem dX5_acceptBytes_27 : decode cX5_acceptBytes 27 = .ok (.return_, 1) := by decide +kernel
theorem dX5_sendIdleGroups_0 : decode cX5_sendIdleGroups 0 = .ok (.iconst 0, 1) := by decide +kernel
theorem dX5_sendIdleGroups_1 : decode cX5_sendIdleGroups 1 = .ok (.istore_n 3, 1) := by decide +kernel
theorem dX5_sendIdleGroups_2 : decode cX5_sendIdleGroups 2 = .ok (.iload_n 3, 1) := by decide +kernel
theorem dX5_sendIdleGroups_3 : decode cX5_sendIdleGroups 3 = .ok (.iload_n 1, 1) := by decide +kernel
theorem dX5_sendIdleGroups_4 : decode cX5_sendIdleGroups 4 = .ok (.if_icmp .ge 18, 3) := by decide +kernel
theorem dX5_sendIdleGroups_7 : decode cX5_sendIdleGroups 7 = .ok (.aload_n 0, 1) := by decide +kernel
theorem dX5_sendIdleGroups_8 : decode cX5_sendIdleGroups 8 = .ok (.iconst 2, 1) := by decide +kernel
theorem dX5_sendIdleGroups_9 : decode cX5_sendIdleGroups 9 = .ok (.ldc2_w 40, 3) := by decide +kernel
theorem dX5_sendIdleGroups_12 : decode cX5_sendIdleGroups 12 = .ok (.aload_n 2, 1) := by decide +kernel
theorem dX5_sendIdleGroups_13 : decode cX5_sendIdleGroups 13 = .ok (.invokevirtual 42, 3) := by decide +kernel
theorem dX5_sendIdleGroups_16 : decode cX5_sendIdleGroups 16 = .ok (.iinc 3 1, 3) := by decide +kernel
theorem dX5_sendIdleGroups_19 : decode cX5_sendIdleGroups 19 = .ok (.goto (-17), 3) := by decide +kernel
theorem dX5_sendIdleGroups_22 : decode cX5_sendIdleGroups 22 = .ok (.return_, 1) := by decide +kernel
theorem dX5_sendGroup_0 : decode cX5_sendGroup 0 = .ok (.aload_n 0, 1) := by decide +kernel
theorem dX5_sendGroup_1 : decode cX5_sendGroup 1 = .ok (.getfield 20, 3) := by decide +kernel
theorem dX5_sendGroup_4 : decode cX5_sendGroup 4 = .ok (.invokestatic 46, 3) := by decide +kernel
theorem dX5_sendGroup_7 : decode cX5_sendGroup 7 = .ok (.istore_n 2, 1) := by decide +kernel
theorem dX5_sendGroup_8 : decode cX5_sendGroup 8 = .ok (.iload_n 2, 1) := by decide +kernel
theorem dX5_sendGroup_9 : decode cX5_sendGroup 9 = .ok (.bipush (-2), 2) := by decide +kernel
theorem dX5_sendGroup_11 : decode cX5_sendGroup 11 = .ok (.if_icmp .ne 16, 3) := by decide +kernel
theorem dX5_sendGroup_14 : decode cX5_sendGroup 14 = .ok (.aload_n 0, 1) := by decide +kernel
theorem dX5_sendGroup_15 : decode cX5_sendGroup 15 = .ok (.getfield 20, 3) := by decide +kernel
theorem dX5_sendGroup_18 : decode cX5_sendGroup 18 = .ok (.sipush 259, 3) := by decide +kernel
theorem dX5_sendGroup_21 : decode cX5_sendGroup 21 = .ok (.invokestatic 50, 3) := by decide +kernel
theorem dX5_sendGroup_24 : decode cX5_sendGroup 24 = .ok (.bipush 30, 2) := by decide +kernel
theorem dX5_sendGroup_26 : decode cX5_sendGroup 26 = .ok (.istore_n 2, 1) := by decide +kernel
theorem dX5_sendGroup_27 : decode cX5_sendGroup 27 = .ok (.iload_n 2, 1) := by decide +kernel
theorem dX5_sendGroup_28 : decode cX5_sendGroup 28 = .ok (.iconst (-1), 1) := by decide +kernel
theorem dX5_sendGroup_29 : decode cX5_sendGroup 29 = .ok (.if_icmp .ne 7, 3) := by decide +kernel
theorem dX5_sendGroup_32 : decode cX5_sendGroup 32 = .ok (.iconst 1, 1) := by decide +kernel
theorem dX5_sendGroup_33 : decode cX5_sendGroup 33 = .ok (.goto 4, 3) := by decide +kernel
theorem dX5_sendGroup_36 : decode cX5_sendGroup 36 = .ok (.iconst 2, 1) := by decide +kernel
theorem dX5_sendGroup_37 : decode cX5_sendGroup 37 = .ok (.istore_n 3, 1) := by decide +kernel
theorem dX5_sendGroup_38 : decode cX5_sendGroup 38 = .ok (.aload_n 0, 1) := by decide +kernel
theorem dX5_sendGroup_39 : decode cX5_sendGroup 39 = .ok (.iload_n 3, 1) := by decide +kernel
theorem dX5_sendGroup_40 : decode cX5_sendGroup 40 = .ok (.iload_n 2, 1) := by decide +kernel
theorem dX5_sendGroup_41 : decode cX5_sendGroup 41 = .ok (.aload_n 0, 1) := by decide +kernel
theorem dX5_sendGroup_42 : decode cX5_sendGroup 42 = .ok (.getfield 20, 3) := by decide +kernel
theorem dX5_sendGroup_45 : decode cX5_sendGroup 45 = .ok (.invokestatic 56, 3) := by decide +kernel
theorem dX5_sendGroup_48 : decode cX5_sendGroup 48 = .ok (.aload_n 1, 1) := by decide +kernel
theorem dX5_sendGroup_49 : decode cX5_sendGroup 49 = .ok (.invokevirtual 42, 3) := by decide +kernel
theorem dX5_sendGroup_52 : decode cX5_sendGroup 52 = .ok (.return_, 1) := by decide +kernel
theorem dX5_sendBlock_0 : decode cX5_sendBlock 0 = .ok (.aload 4, 2) := by decide +kernel
theorem dX5_sendBlock_2 : decode cX5_sendBlock 2 = .ok (.iload_n 1, 1) := by decide +kernel
theorem dX5_sendBlock_3 : decode cX5_sendBlock 3 = .ok (.iconst 1, 1) := by decide +kernel
theorem dX5_sendBlock_4 : decode cX5_sendBlock 4 = .ok (.iushr, 1) := by decide +kernel
theorem dX5_sendBlock_5 : decode cX5_sendBlock 5 = .ok (.invokevirtual 60, 3) := by decide +kernel
theorem dX5_sendBlock_8 : decode cX5_sendBlock 8 = .ok (.aload 4, 2) := by decide +kernel
theorem dX5_sendBlock_10 : decode cX5_sendBlock 10 = .ok (.iload_n 1, 1) := by decide +kernel
theorem dX5_sendBlock_11 : decode cX5_sendBlock 11 = .ok (.iconst 1, 1) := by decide +kernel
theorem dX5_sendBlock_12 : decode cX5_sendBlock 12 = .ok (.iand, 1) := by decide +kernel
theorem dX5_sendBlock_13 : decode cX5_sendBlock 13 = .ok (.invokevirtual 60, 3) := by decide +kernel
theorem dX5_sendBlock_16 : decode cX5_sendBlock 16 = .ok (.iconst 0, 1) := by decide +kernel
theorem dX5_sendBlock_17 : decode cX5_sendBlock 17 = .ok (.istore 5, 2) := by decide +kernel
theorem dX5_sendBlock_19 : decode cX5_sendBlock 19 = .ok (.iload 5, 2) := by decide +kernel
theorem dX5_sendBlock_21 : decode cX5_sendBlock 21 = .ok (.bipush 64, 2) := by decide +kernel
theorem dX5_sendBlock_23 : decode cX5_sendBlock 23 = .ok (.if_icmp .ge 28, 3) := by decide +kernel
theorem dX5_sendBlock_26 : decode cX5_sendBlock 26 = .ok (.aload 4, 2) := by decide +kernel
theorem dX5_sendBlock_28 : decode cX5_sendBlock 28 = .ok (.aload_n 0, 1) := by decide +kernel
theorem dX5_sendBlock_29 : decode cX5_sendBlock 29 = .ok (.getfield 14, 3) := by decide +kernel
theorem dX5_sendBlock_32 : decode cX5_sendBlock 32 = .ok (.lload_n 2, 1) := by decide +kernel
theorem dX5_sendBlock_33 : decode cX5_sendBlock 33 = .ok (.iload 5, 2) := by decide +kernel
theorem dX5_sendBlock_35 : decode cX5_sendBlock 35 = .ok (.lushr, 1) := by decide +kernel
theorem dX5_sendBlock_36 : decode cX5_sendBlock 36 = .ok (.l2i, 1) := by decide +kernel
theorem dX5_sendBlock_37 : decode cX5_sendBlock 37 = .ok (.iconst 1, 1) := by decide +kernel
theorem dX5_sendBlock_38 : decode cX5_sendBlock 38 = .ok (.iand, 1) := by decide +kernel
theorem dX5_sendBlock_39 : decode cX5_sendBlock 39 = .ok (.invokevirtual 66, 3) := by decide +kernel
theorem dX5_sendBlock_42 : decode cX5_sendBlock 42 = .ok (.invokevirtual 60, 3) := by decide +kernel
theorem dX5_sendBlock_45 : decode cX5_sendBlock 45 = .ok (.iinc 5 1, 3) := by decide +kernel
theorem dX5_sendBlock_48 : decode cX5_sendBlock 48 = .ok (.goto (-29), 3) := by decide +kernel
theorem dX5_sendBlock_51 : decode cX5_sendBlock 51 = .ok (.return_, 1) := by decide +kernel
theorem dX6_init_0 : decode cX6_init 0 = .ok (.aload_n 0, 1) := by decide +kernel
theorem dX6_init_1 : decode cX6_init 1 = .ok (.invokespecial 3, 3) := by decide +kernel
theorem dX6_init_4 : decode cX6_init 4 = .ok (.aload_n 0, 1) := by decide +kernel
theorem dX6_init_5 : decode cX6_init 5 = .ok (.new 9, 3) := by decide +kernel
theorem dX6_init_8 : decode cX6_init 8 = .ok (.dup, 1) := by decide +kernel
theorem dX6_init_9 : decode cX6_init 9 = .ok (.invokespecial 11, 3) := by decide +kernel
theorem dX6_init_12 : decode cX6_init 12 = .ok (.putfield 12, 3) := by decide +kernel
theorem dX6_init_15 : decode cX6_init 15 = .ok (.aload_n 0, 1) := by decide +kernel
theorem dX6_init_16 : decode cX6_init 16 = .ok (.new 16, 3) := by decide +kernel
theorem dX6_init_19 : decode cX6_init 19 = .ok (.dup, 1) := by decide +kernel
theorem dX6_init_20 : decode cX6_init 20 = .ok (.invokespecial 18, 3) := by decide +kernel
theorem dX6_init_23 : decode cX6_init 23 = .ok (.putfield 19, 3) := by decide +kernel
theorem dX6_init_26 : decode cX6_init 26 = .ok (.aload_n 0, 1) := by decide +kernel
theorem dX6_init_27 : decode cX6_init 27 = .ok (.new 23, 3) := by decide +kernel
theorem dX6_init_30 : decode cX6_init 30 = .ok (.dup, 1) := by decide +kernel
theorem dX6_init_31 : decode cX6_init 31 = .ok (.invokespecial 25, 3) := by decide +kernel
theorem dX6_init_34 : decode cX6_init 34 = .ok (.putfield 26, 3) := by decide +kernel
theorem dX6_init_37 : decode cX6_init 37 = .ok (.return_, 1) := by decide +kernel
theorem dX6_put_0 : decode cX6_put 0 = .ok (.iload_n 1, 1) := by decide +kernel
theorem dX6_put_1 : decode cX6_put 1 = .ok (.ifCond .lt 10, 3) := by decide +kernel
theorem dX6_put_4 : decode cX6_put 4 = .ok (.iload_n 1, 1) := by decide +kernel
theorem dX6_put_5 : decode cX6_put 5 = .ok (.sipush 259, 3) := by decide +kernel
theorem dX6_put_8 : decode cX6_put 8 = .ok (.if_icmp .le 6, 3) := by decide +kernel
theorem dX6_put_11 : decode cX6_put 11 = .ok (.bipush (-12), 2) := by decide +kernel
theorem dX6_put_13 : decode cX6_put 13 = .ok (.ireturn, 1) := by decide +kernel
theorem dX6_put_14 : decode cX6_put 14 = .ok (.aload_n 0, 1) := by decide +kernel
theorem dX6_put_15 : decode cX6_put 15 = .ok (.getfield 19, 3) := by decide +kernel
theorem dX6_put_18 : decode cX6_put 18 = .ok (.invokevirtual 30, 3) := by decide +kernel
theorem dX6_put_21 : decode cX6_put 21 = .ok (.bipush 7, 2) := by decide +kernel
theorem dX6_put_23 : decode cX6_put 23 = .ok (.if_icmp .ne 19, 3) := by decide +kernel
theorem dX6_put_26 : decode cX6_put 26 = .ok (.aload_n 0, 1) := by decide +kernel
theorem dX6_put_27 : decode cX6_put 27 = .ok (.getfield 12, 3) := by decide +kernel
theorem dX6_put_30 : decode cX6_put 30 = .ok (.invokevirtual 34, 3) := by decide +kernel
theorem dX6_put_33 : decode cX6_put 33 = .ok (.sipush 9000, 3) := by decide +kernel
theorem dX6_put_36 : decode cX6_put 36 = .ok (.if_icmp .lt 6, 3) := by decide +kernel
theorem dX6_put_39 : decode cX6_put 39 = .ok (.bipush (-14), 2) := by decide +kernel
theorem dX6_put_41 : decode cX6_put 41 = .ok (.ireturn, 1) := by decide +kernel
theorem dX6_put_42 : decode cX6_put 42 = .ok (.aload_n 0, 1) := by decide +kernel
theorem dX6_put_43 : decode cX6_put 43 = .ok (.getfield 19, 3) := by decide +kernel
theorem dX6_put_46 : decode cX6_put 46 = .ok (.iload_n 1, 1) := by decide +kernel
theorem dX6_put_47 : decode cX6_put 47 = .ok (.aload_n 0, 1) := by decide +kernel
theorem dX6_put_48 : decode cX6_put 48 = .ok (.getfield 12, 3) := by decide +kernel
theorem dX6_put_51 : decode cX6_put 51 = .ok (.invokevirtual 37, 3) := by decide +kernel
theorem dX6_put_54 : decode cX6_put 54 = .ok (.aload_n 0, 1) := by decide +kernel
theorem dX6_put_55 : decode cX6_put 55 = .ok (.getfield 19, 3) := by decide +kernel
theorem dX6_put_58 : decode cX6_put 58 = .ok (.invokevirtual 30, 3) := by decide +kernel
theorem dX6_put_61 : decode cX6_put 61 = .ok (.ireturn, 1) := by decide +kernel
theorem dX6_word_0 : decode cX6_word 0 = .ok (.aload_n 0, 1) := by decide +kernel
theorem dX6_word_1 : decode cX6_word 1 = .ok (.getfield 12, 3) := by decide +kernel
theorem dX6_word_4 : decode cX6_word 4 = .ok (.invokevirtual 34, 3) := by decide +kernel
theorem dX6_word_7 : decode cX6_word 7 = .ok (.sipush 9000, 3) := by decide +kernel
theorem dX6_word_10 : decode cX6_word 10 = .ok (.if_icmp .lt 6, 3) := by decide +kernel
theorem dX6_word_13 : decode cX6_word 13 = .ok (.bipush (-14), 2) := by decide +kernel
theorem dX6_word_15 : decode cX6_word 15 = .ok (.ireturn, 1) := by decide +kernel
theorem dX6_word_16 : decode cX6_word 16 = .ok (.aload_n 0, 1) := by decide +kernel
theorem dX6_word_17 : decode cX6_word 17 = .ok (.getfield 19, 3) := by decide +kernel
theorem dX6_word_20 : decode cX6_word 20 = .ok (.iload_n 1, 1) := by decide +kernel
theorem dX6_word_21 : decode cX6_word 21 = .ok (.aload_n 0, 1) := by decide +kernel
theorem dX6_word_22 : decode cX6_word 22 = .ok (.getfield 12, 3) := by decide +kernel
theorem dX6_word_25 : decode cX6_word 25 = .ok (.invokevirtual 41, 3) := by decide +kernel
theorem dX6_word_28 : decode cX6_word 28 = .ok (.aload_n 0, 1) := by decide +kernel
theorem dX6_word_29 : decode cX6_word 29 = .ok (.getfield 19, 3) := by decide +kernel
theorem dX6_word_32 : decode cX6_word 32 = .ok (.iload_n 2, 1) := by decide +kernel
theorem dX6_word_33 : decode cX6_word 33 = .ok (.aload_n 0, 1) := by decide +kernel
theorem dX6_word_34 : decode cX6_word 34 = .ok (.getfield 12, 3) := by decide +kernel
theorem dX6_word_37 : decode cX6_word 37 = .ok (.invokevirtual 41, 3) := by decide +kernel
theorem dX6_word_40 : decode cX6_word 40 = .ok (.aload_n 0, 1) := by decide +kernel
theorem dX6_word_41 : decode cX6_word 41 = .ok (.getfield 19, 3) := by decide +kernel
theorem dX6_word_44 : decode cX6_word 44 = .ok (.invokevirtual 30, 3) := by decide +kernel
theorem dX6_word_47 : decode cX6_word 47 = .ok (.ireturn, 1) := by decide +kernel
theorem dX6_idle_0 : decode cX6_idle 0 = .ok (.iload_n 1, 1) := by decide +kernel
theorem dX6_idle_1 : decode cX6_idle 1 = .ok (.iconst 1, 1) := by decide +kernel
theorem dX6_idle_2 : decode cX6_idle 2 = .ok (.if_icmp .lt 19, 3) := by decide +kernel
theorem dX6_idle_5 : decode cX6_idle 5 = .ok (.iload_n 1, 1) := by decide +kernel
theorem dX6_idle_6 : decode cX6_idle 6 = .ok (.bipush 100, 2) := by decide +kernel
theorem dX6_idle_8 : decode cX6_idle 8 = .ok (.if_icmp .gt 13, 3) := by decide +kernel
theorem dX6_idle_11 : decode cX6_idle 11 = .ok (.aload_n 0, 1) := by decide +kernel
theorem dX6_idle_12 : decode cX6_idle 12 = .ok (.getfield 19, 3) := by decide +kernel
theorem dX6_idle_15 : decode cX6_idle 15 = .ok (.invokevirtual 30, 3) := by decide +kernel
theorem dX6_idle_18 : decode cX6_idle 18 = .ok (.ifCond .eq 6, 3) := by decide +kernel
theorem dX6_idle_21 : decode cX6_idle 21 = .ok (.bipush (-12), 2) := by decide +kernel
theorem dX6_idle_23 : decode cX6_idle 23 = .ok (.ireturn, 1) := by decide +kernel
theorem dX6_idle_24 : decode cX6_idle 24 = .ok (.aload_n 0, 1) := by decide +kernel
theorem dX6_idle_25 : decode cX6_idle 25 = .ok (.getfield 12, 3) := by decide +kernel
theorem dX6_idle_28 : decode cX6_idle 28 = .ok (.invokevirtual 34, 3) := by decide +kernel
theorem dX6_idle_31 : decode cX6_idle 31 = .ok (.iload_n 1, 1) := by decide +kernel
theorem dX6_idle_32 : decode cX6_idle 32 = .ok (.iconst 1, 1) := by decide +kernel
theorem dX6_idle_33 : decode cX6_idle 33 = .ok (.isub, 1) := by decide +kernel
theorem dX6_idle_34 : decode cX6_idle 34 = .ok (.bipush 66, 2) := by decide +kernel
theorem dX6_idle_36 : decode cX6_idle 36 = .ok (.imul, 1) := by decide +kernel
theorem dX6_idle_37 : decode cX6_idle 37 = .ok (.iadd, 1) := by decide +kernel
theorem dX6_idle_38 : decode cX6_idle 38 = .ok (.sipush 9000, 3) := by decide +kernel
theorem dX6_idle_41 : decode cX6_idle 41 = .ok (.if_icmp .lt 6, 3) := by decide +kernel
theorem dX6_idle_44 : decode cX6_idle 44 = .ok (.bipush (-14), 2) := by decide +kernel
theorem dX6_idle_46 : decode cX6_idle 46 = .ok (.ireturn, 1) := by decide +kernel
theorem dX6_idle_47 : decode cX6_idle 47 = .ok (.aload_n 0, 1) := by decide +kernel
theorem dX6_idle_48 : decode cX6_idle 48 = .ok (.getfield 19, 3) := by decide +kernel
theorem dX6_idle_51 : decode cX6_idle 51 = .ok (.iload_n 1, 1) := by decide +kernel
theorem dX6_idle_52 : decode cX6_idle 52 = .ok (.aload_n 0, 1) := by decide +kernel
theorem dX6_idle_53 : decode cX6_idle 53 = .ok (.getfield 12, 3) := by decide +kernel
theorem dX6_idle_56 : decode cX6_idle 56 = .ok (.invokevirtual 44, 3) := by decide +kernel
theorem dX6_idle_59 : decode cX6_idle 59 = .ok (.aload_n 0, 1) := by decide +kernel
theorem dX6_idle_60 : decode cX6_idle 60 = .ok (.getfield 12, 3) := by decide +kernel
theorem dX6_idle_63 : decode cX6_idle 63 = .ok (.invokevirtual 34, 3) := by decide +kernel
theorem dX6_idle_66 : decode cX6_idle 66 = .ok (.ireturn, 1) := by decide +kernel
theorem dX6_state_0 : decode cX6_state 0 = .ok (.iload_n 1, 1) := by decide +kernel
theorem dX6_state_1 : decode cX6_state 1 = .ok (.ifCond .ne 12, 3) := by decide +kernel
theorem dX6_state_4 : decode cX6_state 4 = .ok (.aload_n 0, 1) := by decide +kernel
theorem dX6_state_5 : decode cX6_state 5 = .ok (.getfield 19, 3) := by decide +kernel
theorem dX6_state_8 : decode cX6_state 8 = .ok (.lload_n 2, 1) := by decide +kernel
theorem dX6_state_9 : decode cX6_state 9 = .ok (.invokevirtual 47, 3) := by decide +kernel
theorem dX6_state_12 : decode cX6_state 12 = .ok (.lreturn, 1) := by decide +kernel
theorem dX6_state_13 : decode cX6_state 13 = .ok (.iload_n 1, 1) := by decide +kernel
theorem dX6_state_14 : decode cX6_state 14 = .ok (.iconst 1, 1) := by decide +kernel
theorem dX6_state_15 : decode cX6_state 15 = .ok (.if_icmp .ne 12, 3) := by decide +kernel
theorem dX6_state_18 : decode cX6_state 18 = .ok (.aload_n 0, 1) := by decide +kernel
theorem dX6_state_19 : decode cX6_state 19 = .ok (.getfield 26, 3) := by decide +kernel
theorem dX6_state_22 : decode cX6_state 22 = .ok (.lload_n 2, 1) := by decide +kernel
theorem dX6_state_23 : decode cX6_state 23 = .ok (.invokevirtual 51, 3) := by decide +kernel
theorem dX6_state_26 : decode cX6_state 26 = .ok (.lreturn, 1) := by decide +kernel
theorem dX6_state_27 : decode cX6_state 27 = .ok (.ldc2_w 52, 3) := by decide +kernel
theorem dX6_state_30 : decode cX6_state 30 = .ok (.lreturn, 1) := by decide +kernel
theorem dX6_bits_0 : decode cX6_bits 0 = .ok (.aload_n 0, 1) := by decide +kernel
theorem dX6_bits_1 : decode cX6_bits 1 = .ok (.getfield 12, 3) := by decide +kernel
theorem dX6_bits_4 : decode cX6_bits 4 = .ok (.invokevirtual 34, 3) := by decide +kernel
theorem dX6_bits_7 : decode cX6_bits 7 = .ok (.ireturn, 1) := by decide +kernel
theorem dX6_bit_0 : decode cX6_bit 0 = .ok (.aload_n 0, 1) := by decide +kernel
theorem dX6_bit_1 : decode cX6_bit 1 = .ok (.getfield 12, 3) := by decide +kernel
theorem dX6_bit_4 : decode cX6_bit 4 = .ok (.iload_n 1, 1) := by decide +kernel
theorem dX6_bit_5 : decode cX6_bit 5 = .ok (.invokevirtual 54, 3) := by decide +kernel
theorem dX6_bit_8 : decode cX6_bit 8 = .ok (.ifCond .eq 14, 3) := by decide +kernel
theorem dX6_bit_11 : decode cX6_bit 11 = .ok (.aload_n 0, 1) := by decide +kernel
theorem dX6_bit_12 : decode cX6_bit 12 = .ok (.getfield 12, 3) := by decide +kernel
theorem dX6_bit_15 : decode cX6_bit 15 = .ok (.iload_n 1, 1) := by decide +kernel
theorem dX6_bit_16 : decode cX6_bit 16 = .ok (.invokevirtual 58, 3) := by decide +kernel
theorem dX6_bit_19 : decode cX6_bit 19 = .ok (.goto 4, 3) := by decide +kernel
theorem dX6_bit_22 : decode cX6_bit 22 = .ok (.iconst (-1), 1) := by decide +kernel
theorem dX6_bit_23 : decode cX6_bit 23 = .ok (.ireturn, 1) := by decide +kernel
theorem dX6_turn_0 : decode cX6_turn 0 = .ok (.aload_n 0, 1) := by decide +kernel
theorem dX6_turn_1 : decode cX6_turn 1 = .ok (.getfield 12, 3) := by decide +kernel
theorem dX6_turn_4 : decode cX6_turn 4 = .ok (.iload_n 1, 1) := by decide +kernel
theorem dX6_turn_5 : decode cX6_turn 5 = .ok (.invokevirtual 54, 3) := by decide +kernel
theorem dX6_turn_8 : decode cX6_turn 8 = .ok (.ifCond .ne 6, 3) := by decide +kernel
theorem dX6_turn_11 : decode cX6_turn 11 = .ok (.bipush (-12), 2) := by decide +kernel
theorem dX6_turn_13 : decode cX6_turn 13 = .ok (.ireturn, 1) := by decide +kernel
theorem dX6_turn_14 : decode cX6_turn 14 = .ok (.aload_n 0, 1) := by decide +kernel
theorem dX6_turn_15 : decode cX6_turn 15 = .ok (.getfield 12, 3) := by decide +kernel
theorem dX6_turn_18 : decode cX6_turn 18 = .ok (.iload_n 1, 1) := by decide +kernel
theorem dX6_turn_19 : decode cX6_turn 19 = .ok (.invokevirtual 62, 3) := by decide +kernel
theorem dX6_turn_22 : decode cX6_turn 22 = .ok (.aload_n 0, 1) := by decide +kernel
theorem dX6_turn_23 : decode cX6_turn 23 = .ok (.getfield 12, 3) := by decide +kernel
theorem dX6_turn_26 : decode cX6_turn 26 = .ok (.iload_n 1, 1) := by decide +kernel
theorem dX6_turn_27 : decode cX6_turn 27 = .ok (.invokevirtual 58, 3) := by decide +kernel
theorem dX6_turn_30 : decode cX6_turn 30 = .ok (.ireturn, 1) := by decide +kernel
theorem dX6_add_0 : decode cX6_add 0 = .ok (.iload_n 1, 1) := by decide +kernel
theorem dX6_add_1 : decode cX6_add 1 = .ok (.ifCond .eq 11, 3) := by decide +kernel
theorem dX6_add_4 : decode cX6_add 4 = .ok (.iload_n 1, 1) := by decide +kernel
theorem dX6_add_5 : decode cX6_add 5 = .ok (.iconst 1, 1) := by decide +kernel
theorem dX6_add_6 : decode cX6_add 6 = .ok (.if_icmp .eq 6, 3) := by decide +kernel
theorem dX6_add_9 : decode cX6_add 9 = .ok (.bipush (-12), 2) := by decide +kernel
theorem dX6_add_11 : decode cX6_add 11 = .ok (.ireturn, 1) := by decide +kernel
theorem dX6_add_12 : decode cX6_add 12 = .ok (.aload_n 0, 1) := by decide +kernel
theorem dX6_add_13 : decode cX6_add 13 = .ok (.getfield 12, 3) := by decide +kernel
theorem dX6_add_16 : decode cX6_add 16 = .ok (.invokevirtual 34, 3) := by decide +kernel
theorem dX6_add_19 : decode cX6_add 19 = .ok (.sipush 9066, 3) := by decide +kernel
theorem dX6_add_22 : decode cX6_add 22 = .ok (.if_icmp .lt 6, 3) := by decide +kernel
theorem dX6_add_25 : decode cX6_add 25 = .ok (.bipush (-14), 2) := by decide +kernel
theorem dX6_add_27 : decode cX6_add 27 = .ok (.ireturn, 1) := by decide +kernel
theorem dX6_add_28 : decode cX6_add 28 = .ok (.aload_n 0, 1) := by decide +kernel
theorem dX6_add_29 : decode cX6_add 29 = .ok (.getfield 12, 3) := by decide +kernel
theorem dX6_add_32 : decode cX6_add 32 = .ok (.iload_n 1, 1) := by decide +kernel
theorem dX6_add_33 : decode cX6_add 33 = .ok (.invokevirtual 66, 3) := by decide +kernel
theorem dX6_add_36 : decode cX6_add 36 = .ok (.aload_n 0, 1) := by decide +kernel
theorem dX6_add_37 : decode cX6_add 37 = .ok (.getfield 12, 3) := by decide +kernel
theorem dX6_add_40 : decode cX6_add 40 = .ok (.invokevirtual 34, 3) := by decide +kernel
theorem dX6_add_43 : decode cX6_add 43 = .ok (.ireturn, 1) := by decide +kernel
theorem dX6_receive_0 : decode cX6_receive 0 = .ok (.iload_n 1, 1) := by decide +kernel
theorem dX6_receive_1 : decode cX6_receive 1 = .ok (.ifCond .ge 6, 3) := by decide +kernel
theorem dX6_receive_4 : decode cX6_receive 4 = .ok (.bipush (-12), 2) := by decide +kernel
theorem dX6_receive_6 : decode cX6_receive 6 = .ok (.ireturn, 1) := by decide +kernel
theorem dX6_receive_7 : decode cX6_receive 7 = .ok (.aload_n 0, 1) := by decide +kernel
theorem dX6_receive_8 : decode cX6_receive 8 = .ok (.getfield 26, 3) := by decide +kernel
theorem dX6_receive_11 : decode cX6_receive 11 = .ok (.invokevirtual 69, 3) := by decide +kernel
theorem dX6_receive_14 : decode cX6_receive 14 = .ok (.istore_n 2, 1) := by decide +kernel
theorem dX6_receive_15 : decode cX6_receive 15 = .ok (.iload_n 1, 1) := by decide +kernel
theorem dX6_receive_16 : decode cX6_receive 16 = .ok (.aload_n 0, 1) := by decide +kernel
theorem dX6_receive_17 : decode cX6_receive 17 = .ok (.getfield 12, 3) := by decide +kernel
theorem dX6_receive_20 : decode cX6_receive 20 = .ok (.invokevirtual 34, 3) := by decide +kernel
theorem dX6_receive_23 : decode cX6_receive 23 = .ok (.invokestatic 72, 3) := by decide +kernel
theorem dX6_receive_26 : decode cX6_receive 26 = .ok (.istore_n 3, 1) := by decide +kernel
theorem dX6_receive_27 : decode cX6_receive 27 = .ok (.iconst 0, 1) := by decide +kernel
theorem dX6_receive_28 : decode cX6_receive 28 = .ok (.istore 4, 2) := by decide +kernel
theorem dX6_receive_30 : decode cX6_receive 30 = .ok (.iload 4, 2) := by decide +kernel
theorem dX6_receive_32 : decode cX6_receive 32 = .ok (.iload_n 3, 1) := by decide +kernel
theorem dX6_receive_33 : decode cX6_receive 33 = .ok (.if_icmp .ge 25, 3) := by decide +kernel
theorem dX6_receive_36 : decode cX6_receive 36 = .ok (.aload_n 0, 1) := by decide +kernel
theorem dX6_receive_37 : decode cX6_receive 37 = .ok (.getfield 26, 3) := by decide +kernel
theorem dX6_receive_40 : decode cX6_receive 40 = .ok (.aload_n 0, 1) := by decide +kernel
theorem dX6_receive_41 : decode cX6_receive 41 = .ok (.getfield 12, 3) := by decide +kernel
theorem dX6_receive_44 : decode cX6_receive 44 = .ok (.iload 4, 2) := by decide +kernel
theorem dX6_receive_46 : decode cX6_receive 46 = .ok (.invokevirtual 58, 3) := by decide +kernel
theorem dX6_receive_49 : decode cX6_receive 49 = .ok (.invokevirtual 78, 3) := by decide +kernel
theorem dX6_receive_52 : decode cX6_receive 52 = .ok (.iinc 4 1, 3) := by decide +kernel
theorem dX6_receive_55 : decode cX6_receive 55 = .ok (.goto (-25), 3) := by decide +kernel
theorem dX6_receive_58 : decode cX6_receive 58 = .ok (.aload_n 0, 1) := by decide +kernel
theorem dX6_receive_59 : decode cX6_receive 59 = .ok (.getfield 12, 3) := by decide +kernel
theorem dX6_receive_62 : decode cX6_receive 62 = .ok (.iload_n 3, 1) := by decide +kernel
theorem dX6_receive_63 : decode cX6_receive 63 = .ok (.invokevirtual 81, 3) := by decide +kernel
theorem dX6_receive_66 : decode cX6_receive 66 = .ok (.aload_n 0, 1) := by decide +kernel
theorem dX6_receive_67 : decode cX6_receive 67 = .ok (.getfield 26, 3) := by decide +kernel
theorem dX6_receive_70 : decode cX6_receive 70 = .ok (.invokevirtual 69, 3) := by decide +kernel
theorem dX6_receive_73 : decode cX6_receive 73 = .ok (.iload_n 2, 1) := by decide +kernel
theorem dX6_receive_74 : decode cX6_receive 74 = .ok (.isub, 1) := by decide +kernel
theorem dX6_receive_75 : decode cX6_receive 75 = .ok (.ireturn, 1) := by decide +kernel
theorem dX6_told_0 : decode cX6_told 0 = .ok (.aload_n 0, 1) := by decide +kernel
theorem dX6_told_1 : decode cX6_told 1 = .ok (.getfield 26, 3) := by decide +kernel
theorem dX6_told_4 : decode cX6_told 4 = .ok (.iload_n 1, 1) := by decide +kernel
theorem dX6_told_5 : decode cX6_told 5 = .ok (.iload_n 2, 1) := by decide +kernel
theorem dX6_told_6 : decode cX6_told 6 = .ok (.invokevirtual 84, 3) := by decide +kernel
theorem dX6_told_9 : decode cX6_told 9 = .ok (.ireturn, 1) := by decide +kernel
theorem dX6_receiver_0 : decode cX6_receiver 0 = .ok (.iload_n 1, 1) := by decide +kernel
theorem dX6_receiver_1 : decode cX6_receiver 1 = .ok (.tableswitch 95 0 5 #[39, 55, 63, 71, 79, 87], 39) := by decide +kernel
theorem dX6_receiver_40 : decode cX6_receiver 40 = .ok (.aload_n 0, 1) := by decide +kernel
theorem dX6_receiver_41 : decode cX6_receiver 41 = .ok (.getfield 26, 3) := by decide +kernel
theorem dX6_receiver_44 : decode cX6_receiver 44 = .ok (.invokevirtual 87, 3) := by decide +kernel
theorem dX6_receiver_47 : decode cX6_receiver 47 = .ok (.ifCond .eq 7, 3) := by decide +kernel
theorem dX6_receiver_50 : decode cX6_receiver 50 = .ok (.iconst 1, 1) := by decide +kernel
theorem dX6_receiver_51 : decode cX6_receiver 51 = .ok (.goto 4, 3) := by decide +kernel
theorem dX6_receiver_54 : decode cX6_receiver 54 = .ok (.iconst 0, 1) := by decide +kernel
theorem dX6_receiver_55 : decode cX6_receiver 55 = .ok (.ireturn, 1) := by decide +kernel
theorem dX6_receiver_56 : decode cX6_receiver 56 = .ok (.aload_n 0, 1) := by decide +kernel
theorem dX6_receiver_57 : decode cX6_receiver 57 = .ok (.getfield 26, 3) := by decide +kernel
theorem dX6_receiver_60 : decode cX6_receiver 60 = .ok (.invokevirtual 91, 3) := by decide +kernel
theorem dX6_receiver_63 : decode cX6_receiver 63 = .ok (.ireturn, 1) := by decide +kernel
theorem dX6_receiver_64 : decode cX6_receiver 64 = .ok (.aload_n 0, 1) := by decide +kernel
theorem dX6_receiver_65 : decode cX6_receiver 65 = .ok (.getfield 26, 3) := by decide +kernel
theorem dX6_receiver_68 : decode cX6_receiver 68 = .ok (.invokevirtual 94, 3) := by decide +kernel
theorem dX6_receiver_71 : decode cX6_receiver 71 = .ok (.ireturn, 1) := by decide +kernel
theorem dX6_receiver_72 : decode cX6_receiver 72 = .ok (.aload_n 0, 1) := by decide +kernel
theorem dX6_receiver_73 : decode cX6_receiver 73 = .ok (.getfield 26, 3) := by decide +kernel
theorem dX6_receiver_76 : decode cX6_receiver 76 = .ok (.invokevirtual 97, 3) := by decide +kernel
theorem dX6_receiver_79 : decode cX6_receiver 79 = .ok (.ireturn, 1) := by decide +kernel
theorem dX6_receiver_80 : decode cX6_receiver 80 = .ok (.aload_n 0, 1) := by decide +kernel
theorem dX6_receiver_81 : decode cX6_receiver 81 = .ok (.getfield 26, 3) := by decide +kernel
theorem dX6_receiver_84 : decode cX6_receiver 84 = .ok (.invokevirtual 69, 3) := by decide +kernel
theorem dX6_receiver_87 : decode cX6_receiver 87 = .ok (.ireturn, 1) := by decide +kernel
theorem dX6_receiver_88 : decode cX6_receiver 88 = .ok (.aload_n 0, 1) := by decide +kernel
theorem dX6_receiver_89 : decode cX6_receiver 89 = .ok (.getfield 26, 3) := by decide +kernel
theorem dX6_receiver_92 : decode cX6_receiver 92 = .ok (.invokevirtual 100, 3) := by decide +kernel
theorem dX6_receiver_95 : decode cX6_receiver 95 = .ok (.ireturn, 1) := by decide +kernel
theorem dX6_receiver_96 : decode cX6_receiver 96 = .ok (.bipush (-12), 2) := by decide +kernel
theorem dX6_receiver_98 : decode cX6_receiver 98 = .ok (.ireturn, 1) := by decide +kernel
theorem dJ9_floorMod_7cf53_0 : decode cJ9_floorMod_7cf53 0 = .ok (.iload_n 0, 1) := by decide +kernel
theorem dJ9_floorMod_7cf53_1 : decode cJ9_floorMod_7cf53 1 = .ok (.iload_n 1, 1) := by decide +kernel
theorem dJ9_floorMod_7cf53_2 : decode cJ9_floorMod_7cf53 2 = .ok (.irem, 1) := by decide +kernel
theorem dJ9_floorMod_7cf53_3 : decode cJ9_floorMod_7cf53 3 = .ok (.istore_n 2, 1) := by decide +kernel
theorem dJ9_floorMod_7cf53_4 : decode cJ9_floorMod_7cf53 4 = .ok (.iload_n 0, 1) := by decide +kernel
theorem dJ9_floorMod_7cf53_5 : decode cJ9_floorMod_7cf53 5 = .ok (.iload_n 1, 1) := by decide +kernel
theorem dJ9_floorMod_7cf53_6 : decode cJ9_floorMod_7cf53 6 = .ok (.ixor, 1) := by decide +kernel
theorem dJ9_floorMod_7cf53_7 : decode cJ9_floorMod_7cf53 7 = .ok (.ifCond .ge 11, 3) := by decide +kernel
theorem dJ9_floorMod_7cf53_10 : decode cJ9_floorMod_7cf53 10 = .ok (.iload_n 2, 1) := by decide +kernel
theorem dJ9_floorMod_7cf53_11 : decode cJ9_floorMod_7cf53 11 = .ok (.ifCond .eq 7, 3) := by decide +kernel
theorem dJ9_floorMod_7cf53_14 : decode cJ9_floorMod_7cf53 14 = .ok (.iload_n 2, 1) := by decide +kernel
theorem dJ9_floorMod_7cf53_15 : decode cJ9_floorMod_7cf53 15 = .ok (.iload_n 1, 1) := by decide +kernel
theorem dJ9_floorMod_7cf53_16 : decode cJ9_floorMod_7cf53 16 = .ok (.iadd, 1) := by decide +kernel
theorem dJ9_floorMod_7cf53_17 : decode cJ9_floorMod_7cf53 17 = .ok (.ireturn, 1) := by decide +kernel
theorem dJ9_floorMod_7cf53_18 : decode cJ9_floorMod_7cf53 18 = .ok (.iload_n 2, 1) := by decide +kernel
theorem dJ9_floorMod_7cf53_19 : decode cJ9_floorMod_7cf53 19 = .ok (.ireturn, 1) := by decide +kernel
theorem dJ9_min_7cf53_0 : decode cJ9_min_7cf53 0 = .ok (.iload_n 0, 1) := by decide +kernel
theorem dJ9_min_7cf53_1 : decode cJ9_min_7cf53 1 = .ok (.iload_n 1, 1) := by decide +kernel
theorem dJ9_min_7cf53_2 : decode cJ9_min_7cf53 2 = .ok (.if_icmp .gt 7, 3) := by decide +kernel
theorem dJ9_min_7cf53_5 : decode cJ9_min_7cf53 5 = .ok (.iload_n 0, 1) := by decide +kernel
theorem dJ9_min_7cf53_6 : decode cJ9_min_7cf53 6 = .ok (.goto 4, 3) := by decide +kernel
theorem dJ9_min_7cf53_9 : decode cJ9_min_7cf53 9 = .ok (.iload_n 1, 1) := by decide +kernel
theorem dJ9_min_7cf53_10 : decode cJ9_min_7cf53 10 = .ok (.ireturn, 1) := by decide +kernel
theorem dJ7_fill_53178_0 : decode cJ7_fill_53178 0 = .ok (.iconst 0, 1) := by decide +kernel
theorem dJ7_fill_53178_1 : decode cJ7_fill_53178 1 = .ok (.istore_n 2, 1) := by decide +kernel
theorem dJ7_fill_53178_2 : decode cJ7_fill_53178 2 = .ok (.aload_n 0, 1) := by decide +kernel
theorem dJ7_fill_53178_3 : decode cJ7_fill_53178 3 = .ok (.arraylength, 1) := by decide +kernel
theorem dJ7_fill_53178_4 : decode cJ7_fill_53178 4 = .ok (.istore_n 3, 1) := by decide +kernel
theorem dJ7_fill_53178_5 : decode cJ7_fill_53178 5 = .ok (.iload_n 2, 1) := by decide +kernel
theorem dJ7_fill_53178_6 : decode cJ7_fill_53178 6 = .ok (.iload_n 3, 1) := by decide +kernel
theorem dJ7_fill_53178_7 : decode cJ7_fill_53178 7 = .ok (.if_icmp .ge 13, 3) := by decide +kernel
theorem dJ7_fill_53178_10 : decode cJ7_fill_53178 10 = .ok (.aload_n 0, 1) := by decide +kernel
theorem dJ7_fill_53178_11 : decode cJ7_fill_53178 11 = .ok (.iload_n 2, 1) := by decide +kernel
theorem dJ7_fill_53178_12 : decode cJ7_fill_53178 12 = .ok (.iload_n 1, 1) := by decide +kernel
theorem dJ7_fill_53178_13 : decode cJ7_fill_53178 13 = .ok (.iastore, 1) := by decide +kernel
theorem dJ7_fill_53178_14 : decode cJ7_fill_53178 14 = .ok (.iinc 2 1, 3) := by decide +kernel
theorem dJ7_fill_53178_17 : decode cJ7_fill_53178 17 = .ok (.goto (-12), 3) := by decide +kernel
theorem dJ7_fill_53178_20 : decode cJ7_fill_53178 20 = .ok (.return_, 1) := by decide +kernel
