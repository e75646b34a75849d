theorem dX7_idle_17 : decode cX7_idle 17 = .ok (.getfield 73, 3) := by decide +kernel
theorem dX7_idle_20 : decode cX7_idle 20 = .ok (.ifCond .le 6, 3) := by decide +kernel
theorem dX7_idle_23 : decode cX7_idle 23 = .ok (.bipush (-12), 2) := by decide +kernel
theorem dX7_idle_25 : decode cX7_idle 25 = .ok (.ireturn, 1) := by decide +kernel
theorem dX7_idle_26 : decode cX7_idle 26 = .ok (.aload_n 0, 1) := by decide +kernel
theorem dX7_idle_27 : decode cX7_idle 27 = .ok (.getfield 29, 3) := by decide +kernel
theorem dX7_idle_30 : decode cX7_idle 30 = .ok (.bipush 66, 2) := by decide +kernel
theorem dX7_idle_32 : decode cX7_idle 32 = .ok (.iload_n 1, 1) := by decide +kernel
theorem dX7_idle_33 : decode cX7_idle 33 = .ok (.iconst 1, 1) := by decide +kernel
theorem dX7_idle_34 : decode cX7_idle 34 = .ok (.isub, 1) := by decide +kernel
theorem dX7_idle_35 : decode cX7_idle 35 = .ok (.imul, 1) := by decide +kernel
theorem dX7_idle_36 : decode cX7_idle 36 = .ok (.iadd, 1) := by decide +kernel
theorem dX7_idle_37 : decode cX7_idle 37 = .ok (.sipush 9000, 3) := by decide +kernel
theorem dX7_idle_40 : decode cX7_idle 40 = .ok (.if_icmp .lt 6, 3) := by decide +kernel
theorem dX7_idle_43 : decode cX7_idle 43 = .ok (.bipush (-14), 2) := by decide +kernel
theorem dX7_idle_45 : decode cX7_idle 45 = .ok (.ireturn, 1) := by decide +kernel
theorem dX7_idle_46 : decode cX7_idle 46 = .ok (.iconst 0, 1) := by decide +kernel
theorem dX7_idle_47 : decode cX7_idle 47 = .ok (.istore_n 2, 1) := by decide +kernel
theorem dX7_idle_48 : decode cX7_idle 48 = .ok (.iload_n 2, 1) := by decide +kernel
theorem dX7_idle_49 : decode cX7_idle 49 = .ok (.iload_n 1, 1) := by decide +kernel
theorem dX7_idle_50 : decode cX7_idle 50 = .ok (.if_icmp .ge 36, 3) := by decide +kernel
theorem dX7_idle_53 : decode cX7_idle 53 = .ok (.iconst 0, 1) := by decide +kernel
theorem dX7_idle_54 : decode cX7_idle 54 = .ok (.istore_n 3, 1) := by decide +kernel
theorem dX7_idle_55 : decode cX7_idle 55 = .ok (.iload_n 3, 1) := by decide +kernel
theorem dX7_idle_56 : decode cX7_idle 56 = .ok (.bipush 8, 2) := by decide +kernel
theorem dX7_idle_58 : decode cX7_idle 58 = .ok (.if_icmp .ge 18, 3) := by decide +kernel
theorem dX7_idle_61 : decode cX7_idle 61 = .ok (.aload_n 0, 1) := by decide +kernel
theorem dX7_idle_62 : decode cX7_idle 62 = .ok (.getfield 7, 3) := by decide +kernel
theorem dX7_idle_65 : decode cX7_idle 65 = .ok (.iload_n 3, 1) := by decide +kernel
theorem dX7_idle_66 : decode cX7_idle 66 = .ok (.sipush 256, 3) := by decide +kernel
theorem dX7_idle_69 : decode cX7_idle 69 = .ok (.iastore, 1) := by decide +kernel
theorem dX7_idle_70 : decode cX7_idle 70 = .ok (.iinc 3 1, 3) := by decide +kernel
theorem dX7_idle_73 : decode cX7_idle 73 = .ok (.goto (-18), 3) := by decide +kernel
theorem dX7_idle_76 : decode cX7_idle 76 = .ok (.aload_n 0, 1) := by decide +kernel
theorem dX7_idle_77 : decode cX7_idle 77 = .ok (.invokevirtual 76, 3) := by decide +kernel
theorem dX7_idle_80 : decode cX7_idle 80 = .ok (.iinc 2 1, 3) := by decide +kernel
theorem dX7_idle_83 : decode cX7_idle 83 = .ok (.goto (-35), 3) := by decide +kernel
theorem dX7_idle_86 : decode cX7_idle 86 = .ok (.aload_n 0, 1) := by decide +kernel
theorem dX7_idle_87 : decode cX7_idle 87 = .ok (.getfield 29, 3) := by decide +kernel
theorem dX7_idle_90 : decode cX7_idle 90 = .ok (.ireturn, 1) := by decide +kernel
theorem dX7_bits_0 : decode cX7_bits 0 = .ok (.aload_n 0, 1) := by decide +kernel
theorem dX7_bits_1 : decode cX7_bits 1 = .ok (.iconst 0, 1) := by decide +kernel
theorem dX7_bits_2 : decode cX7_bits 2 = .ok (.putfield 33, 3) := by decide +kernel
theorem dX7_bits_5 : decode cX7_bits 5 = .ok (.aload_n 0, 1) := by decide +kernel
theorem dX7_bits_6 : decode cX7_bits 6 = .ok (.getfield 29, 3) := by decide +kernel
theorem dX7_bits_9 : decode cX7_bits 9 = .ok (.ireturn, 1) := by decide +kernel
theorem dX7_bit_0 : decode cX7_bit 0 = .ok (.aload_n 0, 1) := by decide +kernel
theorem dX7_bit_1 : decode cX7_bit 1 = .ok (.iconst 0, 1) := by decide +kernel
theorem dX7_bit_2 : decode cX7_bit 2 = .ok (.putfield 33, 3) := by decide +kernel
theorem dX7_bit_5 : decode cX7_bit 5 = .ok (.iload_n 1, 1) := by decide +kernel
theorem dX7_bit_6 : decode cX7_bit 6 = .ok (.ifCond .lt 11, 3) := by decide +kernel
theorem dX7_bit_9 : decode cX7_bit 9 = .ok (.iload_n 1, 1) := by decide +kernel
theorem dX7_bit_10 : decode cX7_bit 10 = .ok (.aload_n 0, 1) := by decide +kernel
theorem dX7_bit_11 : decode cX7_bit 11 = .ok (.getfield 29, 3) := by decide +kernel
theorem dX7_bit_14 : decode cX7_bit 14 = .ok (.if_icmp .lt 7, 3) := by decide +kernel
theorem dX7_bit_17 : decode cX7_bit 17 = .ok (.iconst (-1), 1) := by decide +kernel
theorem dX7_bit_18 : decode cX7_bit 18 = .ok (.goto 9, 3) := by decide +kernel
theorem dX7_bit_21 : decode cX7_bit 21 = .ok (.aload_n 0, 1) := by decide +kernel
theorem dX7_bit_22 : decode cX7_bit 22 = .ok (.getfield 13, 3) := by decide +kernel
theorem dX7_bit_25 : decode cX7_bit 25 = .ok (.iload_n 1, 1) := by decide +kernel
theorem dX7_bit_26 : decode cX7_bit 26 = .ok (.baload, 1) := by decide +kernel
theorem dX7_bit_27 : decode cX7_bit 27 = .ok (.ireturn, 1) := by decide +kernel
theorem dX7_turn_0 : decode cX7_turn 0 = .ok (.aload_n 0, 1) := by decide +kernel
theorem dX7_turn_1 : decode cX7_turn 1 = .ok (.iconst 0, 1) := by decide +kernel
theorem dX7_turn_2 : decode cX7_turn 2 = .ok (.putfield 33, 3) := by decide +kernel
theorem dX7_turn_5 : decode cX7_turn 5 = .ok (.iload_n 1, 1) := by decide +kernel
theorem dX7_turn_6 : decode cX7_turn 6 = .ok (.ifCond .lt 11, 3) := by decide +kernel
theorem dX7_turn_9 : decode cX7_turn 9 = .ok (.iload_n 1, 1) := by decide +kernel
theorem dX7_turn_10 : decode cX7_turn 10 = .ok (.aload_n 0, 1) := by decide +kernel
theorem dX7_turn_11 : decode cX7_turn 11 = .ok (.getfield 29, 3) := by decide +kernel
theorem dX7_turn_14 : decode cX7_turn 14 = .ok (.if_icmp .lt 6, 3) := by decide +kernel
theorem dX7_turn_17 : decode cX7_turn 17 = .ok (.bipush (-12), 2) := by decide +kernel
theorem dX7_turn_19 : decode cX7_turn 19 = .ok (.ireturn, 1) := by decide +kernel
theorem dX7_turn_20 : decode cX7_turn 20 = .ok (.aload_n 0, 1) := by decide +kernel
theorem dX7_turn_21 : decode cX7_turn 21 = .ok (.getfield 13, 3) := by decide +kernel
theorem dX7_turn_24 : decode cX7_turn 24 = .ok (.iload_n 1, 1) := by decide +kernel
theorem dX7_turn_25 : decode cX7_turn 25 = .ok (.iconst 1, 1) := by decide +kernel
theorem dX7_turn_26 : decode cX7_turn 26 = .ok (.aload_n 0, 1) := by decide +kernel
theorem dX7_turn_27 : decode cX7_turn 27 = .ok (.getfield 13, 3) := by decide +kernel
theorem dX7_turn_30 : decode cX7_turn 30 = .ok (.iload_n 1, 1) := by decide +kernel
theorem dX7_turn_31 : decode cX7_turn 31 = .ok (.baload, 1) := by decide +kernel
theorem dX7_turn_32 : decode cX7_turn 32 = .ok (.isub, 1) := by decide +kernel
theorem dX7_turn_33 : decode cX7_turn 33 = .ok (.i2b, 1) := by decide +kernel
theorem dX7_turn_34 : decode cX7_turn 34 = .ok (.bastore, 1) := by decide +kernel
theorem dX7_turn_35 : decode cX7_turn 35 = .ok (.aload_n 0, 1) := by decide +kernel
theorem dX7_turn_36 : decode cX7_turn 36 = .ok (.getfield 13, 3) := by decide +kernel
theorem dX7_turn_39 : decode cX7_turn 39 = .ok (.iload_n 1, 1) := by decide +kernel
theorem dX7_turn_40 : decode cX7_turn 40 = .ok (.baload, 1) := by decide +kernel
theorem dX7_turn_41 : decode cX7_turn 41 = .ok (.ireturn, 1) := by decide +kernel
theorem dX7_add_0 : decode cX7_add 0 = .ok (.aload_n 0, 1) := by decide +kernel
theorem dX7_add_1 : decode cX7_add 1 = .ok (.iconst 0, 1) := by decide +kernel
theorem dX7_add_2 : decode cX7_add 2 = .ok (.putfield 33, 3) := by decide +kernel
theorem dX7_add_5 : decode cX7_add 5 = .ok (.iload_n 1, 1) := by decide +kernel
theorem dX7_add_6 : decode cX7_add 6 = .ok (.ifCond .eq 11, 3) := by decide +kernel
theorem dX7_add_9 : decode cX7_add 9 = .ok (.iload_n 1, 1) := by decide +kernel
theorem dX7_add_10 : decode cX7_add 10 = .ok (.iconst 1, 1) := by decide +kernel
theorem dX7_add_11 : decode cX7_add 11 = .ok (.if_icmp .eq 6, 3) := by decide +kernel
theorem dX7_add_14 : decode cX7_add 14 = .ok (.bipush (-12), 2) := by decide +kernel
theorem dX7_add_16 : decode cX7_add 16 = .ok (.ireturn, 1) := by decide +kernel
theorem dX7_add_17 : decode cX7_add 17 = .ok (.aload_n 0, 1) := by decide +kernel
theorem dX7_add_18 : decode cX7_add 18 = .ok (.getfield 29, 3) := by decide +kernel
theorem dX7_add_21 : decode cX7_add 21 = .ok (.sipush 9066, 3) := by decide +kernel
theorem dX7_add_24 : decode cX7_add 24 = .ok (.if_icmp .lt 6, 3) := by decide +kernel
theorem dX7_add_27 : decode cX7_add 27 = .ok (.bipush (-14), 2) := by decide +kernel
theorem dX7_add_29 : decode cX7_add 29 = .ok (.ireturn, 1) := by decide +kernel
theorem dX7_add_30 : decode cX7_add 30 = .ok (.aload_n 0, 1) := by decide +kernel
theorem dX7_add_31 : decode cX7_add 31 = .ok (.getfield 13, 3) := by decide +kernel
theorem dX7_add_34 : decode cX7_add 34 = .ok (.aload_n 0, 1) := by decide +kernel
theorem dX7_add_35 : decode cX7_add 35 = .ok (.getfield 29, 3) := by decide +kernel
theorem dX7_add_38 : decode cX7_add 38 = .ok (.iload_n 1, 1) := by decide +kernel
theorem dX7_add_39 : decode cX7_add 39 = .ok (.i2b, 1) := by decide +kernel
theorem dX7_add_40 : decode cX7_add 40 = .ok (.bastore, 1) := by decide +kernel
theorem dX7_add_41 : decode cX7_add 41 = .ok (.aload_n 0, 1) := by decide +kernel
theorem dX7_add_42 : decode cX7_add 42 = .ok (.dup, 1) := by decide +kernel
theorem dX7_add_43 : decode cX7_add 43 = .ok (.getfield 29, 3) := by decide +kernel
theorem dX7_add_46 : decode cX7_add 46 = .ok (.iconst 1, 1) := by decide +kernel
theorem dX7_add_47 : decode cX7_add 47 = .ok (.iadd, 1) := by decide +kernel
theorem dX7_add_48 : decode cX7_add 48 = .ok (.putfield 29, 3) := by decide +kernel
theorem dX7_add_51 : decode cX7_add 51 = .ok (.aload_n 0, 1) := by decide +kernel
theorem dX7_add_52 : decode cX7_add 52 = .ok (.getfield 29, 3) := by decide +kernel
theorem dX7_add_55 : decode cX7_add 55 = .ok (.ireturn, 1) := by decide +kernel
theorem dX7_get_0 : decode cX7_get 0 = .ok (.iconst 0, 1) := by decide +kernel
theorem dX7_get_1 : decode cX7_get 1 = .ok (.istore_n 3, 1) := by decide +kernel
theorem dX7_get_2 : decode cX7_get 2 = .ok (.iconst 0, 1) := by decide +kernel
theorem dX7_get_3 : decode cX7_get 3 = .ok (.istore 4, 2) := by decide +kernel
theorem dX7_get_5 : decode cX7_get 5 = .ok (.iload 4, 2) := by decide +kernel
theorem dX7_get_7 : decode cX7_get 7 = .ok (.iload_n 2, 1) := by decide +kernel
theorem dX7_get_8 : decode cX7_get 8 = .ok (.if_icmp .ge 24, 3) := by decide +kernel
theorem dX7_get_11 : decode cX7_get 11 = .ok (.iload_n 3, 1) := by decide +kernel
theorem dX7_get_12 : decode cX7_get 12 = .ok (.aload_n 0, 1) := by decide +kernel
theorem dX7_get_13 : decode cX7_get 13 = .ok (.getfield 23, 3) := by decide +kernel
theorem dX7_get_16 : decode cX7_get 16 = .ok (.iload_n 1, 1) := by decide +kernel
theorem dX7_get_17 : decode cX7_get 17 = .ok (.iload 4, 2) := by decide +kernel
theorem dX7_get_19 : decode cX7_get 19 = .ok (.iadd, 1) := by decide +kernel
theorem dX7_get_20 : decode cX7_get 20 = .ok (.iaload, 1) := by decide +kernel
theorem dX7_get_21 : decode cX7_get 21 = .ok (.iload 4, 2) := by decide +kernel
theorem dX7_get_23 : decode cX7_get 23 = .ok (.ishl, 1) := by decide +kernel
theorem dX7_get_24 : decode cX7_get 24 = .ok (.ior, 1) := by decide +kernel
theorem dX7_get_25 : decode cX7_get 25 = .ok (.istore_n 3, 1) := by decide +kernel
theorem dX7_get_26 : decode cX7_get 26 = .ok (.iinc 4 1, 3) := by decide +kernel
theorem dX7_get_29 : decode cX7_get 29 = .ok (.goto (-24), 3) := by decide +kernel
theorem dX7_get_32 : decode cX7_get 32 = .ok (.iload_n 3, 1) := by decide +kernel
theorem dX7_get_33 : decode cX7_get 33 = .ok (.ireturn, 1) := by decide +kernel
theorem dX7_codeAt_0 : decode cX7_codeAt 0 = .ok (.aload_n 0, 1) := by decide +kernel
theorem dX7_codeAt_1 : decode cX7_codeAt 1 = .ok (.iload_n 1, 1) := by decide +kernel
theorem dX7_codeAt_2 : decode cX7_codeAt 2 = .ok (.bipush 7, 2) := by decide +kernel
theorem dX7_codeAt_4 : decode cX7_codeAt 4 = .ok (.invokevirtual 82, 3) := by decide +kernel
theorem dX7_codeAt_7 : decode cX7_codeAt 7 = .ok (.ifCond .ne 9, 3) := by decide +kernel
theorem dX7_codeAt_10 : decode cX7_codeAt 10 = .ok (.sipush 256, 3) := by decide +kernel
theorem dX7_codeAt_13 : decode cX7_codeAt 13 = .ok (.goto 6, 3) := by decide +kernel
theorem dX7_codeAt_16 : decode cX7_codeAt 16 = .ok (.sipush 259, 3) := by decide +kernel
theorem dX7_codeAt_19 : decode cX7_codeAt 19 = .ok (.ireturn, 1) := by decide +kernel
theorem dX7_endOf_0 : decode cX7_endOf 0 = .ok (.iconst (-1), 1) := by decide +kernel
theorem dX7_endOf_1 : decode cX7_endOf 1 = .ok (.istore_n 2, 1) := by decide +kernel
theorem dX7_endOf_2 : decode cX7_endOf 2 = .ok (.iconst 0, 1) := by decide +kernel
theorem dX7_endOf_3 : decode cX7_endOf 3 = .ok (.istore_n 3, 1) := by decide +kernel
theorem dX7_endOf_4 : decode cX7_endOf 4 = .ok (.iload_n 3, 1) := by decide +kernel
theorem dX7_endOf_5 : decode cX7_endOf 5 = .ok (.bipush 8, 2) := by decide +kernel
theorem dX7_endOf_7 : decode cX7_endOf 7 = .ok (.if_icmp .ge 23, 3) := by decide +kernel
theorem dX7_endOf_10 : decode cX7_endOf 10 = .ok (.iload_n 3, 1) := by decide +kernel
theorem dX7_endOf_11 : decode cX7_endOf 11 = .ok (.invokestatic 59, 3) := by decide +kernel
theorem dX7_endOf_14 : decode cX7_endOf 14 = .ok (.iload_n 1, 1) := by decide +kernel
theorem dX7_endOf_15 : decode cX7_endOf 15 = .ok (.if_icmp .ne 7, 3) := by decide +kernel
theorem dX7_endOf_18 : decode cX7_endOf 18 = .ok (.iload_n 3, 1) := by decide +kernel
theorem dX7_endOf_19 : decode cX7_endOf 19 = .ok (.goto 4, 3) := by decide +kernel
theorem dX7_endOf_22 : decode cX7_endOf 22 = .ok (.iload_n 2, 1) := by decide +kernel
theorem dX7_endOf_23 : decode cX7_endOf 23 = .ok (.istore_n 2, 1) := by decide +kernel
theorem dX7_endOf_24 : decode cX7_endOf 24 = .ok (.iinc 3 1, 3) := by decide +kernel
theorem dX7_endOf_27 : decode cX7_endOf 27 = .ok (.goto (-23), 3) := by decide +kernel
theorem dX7_endOf_30 : decode cX7_endOf 30 = .ok (.iload_n 2, 1) := by decide +kernel
theorem dX7_endOf_31 : decode cX7_endOf 31 = .ok (.ireturn, 1) := by decide +kernel
theorem dX7_character_0 : decode cX7_character 0 = .ok (.aload_n 0, 1) := by decide +kernel
theorem dX7_character_1 : decode cX7_character 1 = .ok (.getfield 23, 3) := by decide +kernel
theorem dX7_character_4 : decode cX7_character 4 = .ok (.iconst 0, 1) := by decide +kernel
theorem dX7_character_5 : decode cX7_character 5 = .ok (.iaload, 1) := by decide +kernel
theorem dX7_character_6 : decode cX7_character 6 = .ok (.aload_n 0, 1) := by decide +kernel
theorem dX7_character_7 : decode cX7_character 7 = .ok (.getfield 23, 3) := by decide +kernel
theorem dX7_character_10 : decode cX7_character 10 = .ok (.iconst 1, 1) := by decide +kernel
theorem dX7_character_11 : decode cX7_character 11 = .ok (.iaload, 1) := by decide +kernel
theorem dX7_character_12 : decode cX7_character 12 = .ok (.if_icmp .ne 7, 3) := by decide +kernel
theorem dX7_character_15 : decode cX7_character 15 = .ok (.sipush 259, 3) := by decide +kernel
theorem dX7_character_18 : decode cX7_character 18 = .ok (.ireturn, 1) := by decide +kernel
theorem dX7_character_19 : decode cX7_character 19 = .ok (.aload_n 0, 1) := by decide +kernel
theorem dX7_character_20 : decode cX7_character 20 = .ok (.getfield 23, 3) := by decide +kernel
theorem dX7_character_23 : decode cX7_character 23 = .ok (.iconst 0, 1) := by decide +kernel
theorem dX7_character_24 : decode cX7_character 24 = .ok (.iaload, 1) := by decide +kernel
theorem dX7_character_25 : decode cX7_character 25 = .ok (.ifCond .ne 16, 3) := by decide +kernel
theorem dX7_character_28 : decode cX7_character 28 = .ok (.aload_n 0, 1) := by decide +kernel
theorem dX7_character_29 : decode cX7_character 29 = .ok (.iconst 2, 1) := by decide +kernel
theorem dX7_character_30 : decode cX7_character 30 = .ok (.bipush 8, 2) := by decide +kernel
theorem dX7_character_32 : decode cX7_character 32 = .ok (.iload_n 1, 1) := by decide +kernel
theorem dX7_character_33 : decode cX7_character 33 = .ok (.imul, 1) := by decide +kernel
theorem dX7_character_34 : decode cX7_character 34 = .ok (.iadd, 1) := by decide +kernel
theorem dX7_character_35 : decode cX7_character 35 = .ok (.bipush 8, 2) := by decide +kernel
theorem dX7_character_37 : decode cX7_character 37 = .ok (.invokevirtual 82, 3) := by decide +kernel
theorem dX7_character_40 : decode cX7_character 40 = .ok (.ireturn, 1) := by decide +kernel
theorem dX7_character_41 : decode cX7_character 41 = .ok (.aload_n 0, 1) := by decide +kernel
theorem dX7_character_42 : decode cX7_character 42 = .ok (.iconst 2, 1) := by decide +kernel
theorem dX7_character_43 : decode cX7_character 43 = .ok (.bipush 8, 2) := by decide +kernel
theorem dX7_character_45 : decode cX7_character 45 = .ok (.invokevirtual 82, 3) := by decide +kernel
theorem dX7_character_48 : decode cX7_character 48 = .ok (.istore_n 2, 1) := by decide +kernel
theorem dX7_character_49 : decode cX7_character 49 = .ok (.iload_n 2, 1) := by decide +kernel
theorem dX7_character_50 : decode cX7_character 50 = .ok (.bipush 30, 2) := by decide +kernel
theorem dX7_character_52 : decode cX7_character 52 = .ok (.if_icmp .ne 15, 3) := by decide +kernel
theorem dX7_character_55 : decode cX7_character 55 = .ok (.aload_n 0, 1) := by decide +kernel
theorem dX7_character_56 : decode cX7_character 56 = .ok (.bipush 10, 2) := by decide +kernel
theorem dX7_character_58 : decode cX7_character 58 = .ok (.bipush 7, 2) := by decide +kernel
theorem dX7_character_60 : decode cX7_character 60 = .ok (.iload_n 1, 1) := by decide +kernel
theorem dX7_character_61 : decode cX7_character 61 = .ok (.imul, 1) := by decide +kernel
theorem dX7_character_62 : decode cX7_character 62 = .ok (.iadd, 1) := by decide +kernel
theorem dX7_character_63 : decode cX7_character 63 = .ok (.invokevirtual 85, 3) := by decide +kernel
theorem dX7_character_66 : decode cX7_character 66 = .ok (.ireturn, 1) := by decide +kernel
theorem dX7_character_67 : decode cX7_character 67 = .ok (.iload_n 2, 1) := by decide +kernel
theorem dX7_character_68 : decode cX7_character 68 = .ok (.bipush 120, 2) := by decide +kernel
theorem dX7_character_70 : decode cX7_character 70 = .ok (.if_icmp .ne 26, 3) := by decide +kernel
theorem dX7_character_73 : decode cX7_character 73 = .ok (.iload_n 1, 1) := by decide +kernel
theorem dX7_character_74 : decode cX7_character 74 = .ok (.ifCond .ne 9, 3) := by decide +kernel
theorem dX7_character_77 : decode cX7_character 77 = .ok (.sipush 257, 3) := by decide +kernel
theorem dX7_character_80 : decode cX7_character 80 = .ok (.goto 15, 3) := by decide +kernel
theorem dX7_character_83 : decode cX7_character 83 = .ok (.aload_n 0, 1) := by decide +kernel
theorem dX7_character_84 : decode cX7_character 84 = .ok (.iconst 2, 1) := by decide +kernel
theorem dX7_character_85 : decode cX7_character 85 = .ok (.bipush 8, 2) := by decide +kernel
theorem dX7_character_87 : decode cX7_character 87 = .ok (.iload_n 1, 1) := by decide +kernel
theorem dX7_character_88 : decode cX7_character 88 = .ok (.imul, 1) := by decide +kernel
theorem dX7_character_89 : decode cX7_character 89 = .ok (.iadd, 1) := by decide +kernel
theorem dX7_character_90 : decode cX7_character 90 = .ok (.bipush 8, 2) := by decide +kernel
theorem dX7_character_92 : decode cX7_character 92 = .ok (.invokevirtual 82, 3) := by decide +kernel
theorem dX7_character_95 : decode cX7_character 95 = .ok (.ireturn, 1) := by decide +kernel
theorem dX7_character_96 : decode cX7_character 96 = .ok (.iload_n 2, 1) := by decide +kernel
theorem dX7_character_97 : decode cX7_character 97 = .ok (.bipush 51, 2) := by decide +kernel
theorem dX7_character_99 : decode cX7_character 99 = .ok (.if_icmp .ne 46, 3) := by decide +kernel
theorem dX7_character_102 : decode cX7_character 102 = .ok (.iload_n 1, 1) := by decide +kernel
theorem dX7_character_103 : decode cX7_character 103 = .ok (.iconst 4, 1) := by decide +kernel
theorem dX7_character_104 : decode cX7_character 104 = .ok (.if_icmp .ge 17, 3) := by decide +kernel
theorem dX7_character_107 : decode cX7_character 107 = .ok (.aload_n 0, 1) := by decide +kernel
theorem dX7_character_108 : decode cX7_character 108 = .ok (.bipush 10, 2) := by decide +kernel
theorem dX7_character_110 : decode cX7_character 110 = .ok (.bipush 7, 2) := by decide +kernel
theorem dX7_character_112 : decode cX7_character 112 = .ok (.iload_n 1, 1) := by decide +kernel
theorem dX7_character_113 : decode cX7_character 113 = .ok (.imul, 1) := by decide +kernel
theorem dX7_character_114 : decode cX7_character 114 = .ok (.iadd, 1) := by decide +kernel
theorem dX7_character_115 : decode cX7_character 115 = .ok (.invokevirtual 85, 3) := by decide +kernel
theorem dX7_character_118 : decode cX7_character 118 = .ok (.goto 26, 3) := by decide +kernel
theorem dX7_character_121 : decode cX7_character 121 = .ok (.iload_n 1, 1) := by decide +kernel
theorem dX7_character_122 : decode cX7_character 122 = .ok (.iconst 4, 1) := by decide +kernel
theorem dX7_character_123 : decode cX7_character 123 = .ok (.if_icmp .ne 9, 3) := by decide +kernel
theorem dX7_character_126 : decode cX7_character 126 = .ok (.sipush 257, 3) := by decide +kernel
theorem dX7_character_129 : decode cX7_character 129 = .ok (.goto 15, 3) := by decide +kernel
theorem dX7_character_132 : decode cX7_character 132 = .ok (.aload_n 0, 1) := by decide +kernel
theorem dX7_character_133 : decode cX7_character 133 = .ok (.iconst 2, 1) := by decide +kernel
theorem dX7_character_134 : decode cX7_character 134 = .ok (.bipush 8, 2) := by decide +kernel
theorem dX7_character_136 : decode cX7_character 136 = .ok (.iload_n 1, 1) := by decide +kernel
theorem dX7_character_137 : decode cX7_character 137 = .ok (.imul, 1) := by decide +kernel
theorem dX7_character_138 : decode cX7_character 138 = .ok (.iadd, 1) := by decide +kernel
theorem dX7_character_139 : decode cX7_character 139 = .ok (.bipush 8, 2) := by decide +kernel
theorem dX7_character_141 : decode cX7_character 141 = .ok (.invokevirtual 82, 3) := by decide +kernel
theorem dX7_character_144 : decode cX7_character 144 = .ok (.ireturn, 1) := by decide +kernel
theorem dX7_character_145 : decode cX7_character 145 = .ok (.aload_n 0, 1) := by decide +kernel
theorem dX7_character_146 : decode cX7_character 146 = .ok (.iload_n 2, 1) := by decide +kernel
theorem dX7_character_147 : decode cX7_character 147 = .ok (.invokevirtual 88, 3) := by decide +kernel
theorem dX7_character_150 : decode cX7_character 150 = .ok (.istore_n 3, 1) := by decide +kernel
theorem dX7_character_151 : decode cX7_character 151 = .ok (.iload_n 3, 1) := by decide +kernel
theorem dX7_character_152 : decode cX7_character 152 = .ok (.ifCond .ge 9, 3) := by decide +kernel
theorem dX7_character_155 : decode cX7_character 155 = .ok (.sipush 259, 3) := by decide +kernel
theorem dX7_character_158 : decode cX7_character 158 = .ok (.goto 49, 3) := by decide +kernel
theorem dX7_character_161 : decode cX7_character 161 = .ok (.iload_n 1, 1) := by decide +kernel
theorem dX7_character_162 : decode cX7_character 162 = .ok (.iload_n 3, 1) := by decide +kernel
theorem dX7_character_163 : decode cX7_character 163 = .ok (.if_icmp .ge 19, 3) := by decide +kernel
theorem dX7_character_166 : decode cX7_character 166 = .ok (.aload_n 0, 1) := by decide +kernel
theorem dX7_character_167 : decode cX7_character 167 = .ok (.bipush 10, 2) := by decide +kernel
theorem dX7_character_169 : decode cX7_character 169 = .ok (.bipush 8, 2) := by decide +kernel
theorem dX7_character_171 : decode cX7_character 171 = .ok (.iload_n 1, 1) := by decide +kernel
theorem dX7_character_172 : decode cX7_character 172 = .ok (.imul, 1) := by decide +kernel
theorem dX7_character_173 : decode cX7_character 173 = .ok (.iadd, 1) := by decide +kernel
theorem dX7_character_174 : decode cX7_character 174 = .ok (.bipush 8, 2) := by decide +kernel
theorem dX7_character_176 : decode cX7_character 176 = .ok (.invokevirtual 82, 3) := by decide +kernel
theorem dX7_character_179 : decode cX7_character 179 = .ok (.goto 28, 3) := by decide +kernel
theorem dX7_character_182 : decode cX7_character 182 = .ok (.iload_n 1, 1) := by decide +kernel
theorem dX7_character_183 : decode cX7_character 183 = .ok (.iload_n 3, 1) := by decide +kernel
theorem dX7_character_184 : decode cX7_character 184 = .ok (.if_icmp .ne 9, 3) := by decide +kernel
theorem dX7_character_187 : decode cX7_character 187 = .ok (.sipush 258, 3) := by decide +kernel
theorem dX7_character_190 : decode cX7_character 190 = .ok (.goto 17, 3) := by decide +kernel
theorem dX7_character_193 : decode cX7_character 193 = .ok (.aload_n 0, 1) := by decide +kernel
theorem dX7_character_194 : decode cX7_character 194 = .ok (.bipush 66, 2) := by decide +kernel
theorem dX7_character_196 : decode cX7_character 196 = .ok (.bipush 7, 2) := by decide +kernel
theorem dX7_character_198 : decode cX7_character 198 = .ok (.bipush 8, 2) := by decide +kernel
theorem dX7_character_200 : decode cX7_character 200 = .ok (.iload_n 1, 1) := by decide +kernel
theorem dX7_character_201 : decode cX7_character 201 = .ok (.isub, 1) := by decide +kernel
theorem dX7_character_202 : decode cX7_character 202 = .ok (.imul, 1) := by decide +kernel
theorem dX7_character_203 : decode cX7_character 203 = .ok (.isub, 1) := by decide +kernel
theorem dX7_character_204 : decode cX7_character 204 = .ok (.invokevirtual 85, 3) := by decide +kernel
theorem dX7_character_207 : decode cX7_character 207 = .ok (.ireturn, 1) := by decide +kernel
theorem dX7_tell_0 : decode cX7_tell 0 = .ok (.iconst 0, 1) := by decide +kernel
theorem dX7_tell_1 : decode cX7_tell 1 = .ok (.istore_n 1, 1) := by decide +kernel
theorem dX7_tell_2 : decode cX7_tell 2 = .ok (.iload_n 1, 1) := by decide +kernel
theorem dX7_tell_3 : decode cX7_tell 3 = .ok (.bipush 8, 2) := by decide +kernel
theorem dX7_tell_5 : decode cX7_tell 5 = .ok (.if_icmp .ge 32, 3) := by decide +kernel
theorem dX7_tell_8 : decode cX7_tell 8 = .ok (.aload_n 0, 1) := by decide +kernel
theorem dX7_tell_9 : decode cX7_tell 9 = .ok (.getfield 26, 3) := by decide +kernel
theorem dX7_tell_12 : decode cX7_tell 12 = .ok (.bipush 8, 2) := by decide +kernel
theorem dX7_tell_14 : decode cX7_tell 14 = .ok (.aload_n 0, 1) := by decide +kernel
theorem dX7_tell_15 : decode cX7_tell 15 = .ok (.getfield 91, 3) := by decide +kernel
theorem dX7_tell_18 : decode cX7_tell 18 = .ok (.sipush 300, 3) := by decide +kernel
theorem dX7_tell_21 : decode cX7_tell 21 = .ok (.irem, 1) := by decide +kernel
theorem dX7_tell_22 : decode cX7_tell 22 = .ok (.imul, 1) := by decide +kernel
theorem dX7_tell_23 : decode cX7_tell 23 = .ok (.iload_n 1, 1) := by decide +kernel
theorem dX7_tell_24 : decode cX7_tell 24 = .ok (.iadd, 1) := by decide +kernel
theorem dX7_tell_25 : decode cX7_tell 25 = .ok (.aload_n 0, 1) := by decide +kernel
theorem dX7_tell_26 : decode cX7_tell 26 = .ok (.iload_n 1, 1) := by decide +kernel
theorem dX7_tell_27 : decode cX7_tell 27 = .ok (.invokevirtual 94, 3) := by decide +kernel
theorem dX7_tell_30 : decode cX7_tell 30 = .ok (.iastore, 1) := by decide +kernel
theorem dX7_tell_31 : decode cX7_tell 31 = .ok (.iinc 1 1, 3) := by decide +kernel
theorem dX7_tell_34 : decode cX7_tell 34 = .ok (.goto (-32), 3) := by decide +kernel
theorem dX7_tell_37 : decode cX7_tell 37 = .ok (.aload_n 0, 1) := by decide +kernel
theorem dX7_tell_38 : decode cX7_tell 38 = .ok (.dup, 1) := by decide +kernel
theorem dX7_tell_39 : decode cX7_tell 39 = .ok (.getfield 91, 3) := by decide +kernel
theorem dX7_tell_42 : decode cX7_tell 42 = .ok (.iconst 1, 1) := by decide +kernel
theorem dX7_tell_43 : decode cX7_tell 43 = .ok (.iadd, 1) := by decide +kernel
theorem dX7_tell_44 : decode cX7_tell 44 = .ok (.putfield 91, 3) := by decide +kernel
theorem dX7_tell_47 : decode cX7_tell 47 = .ok (.return_, 1) := by decide +kernel
theorem dX7_slip_0 : decode cX7_slip 0 = .ok (.aload_n 0, 1) := by decide +kernel
theorem dX7_slip_1 : decode cX7_slip 1 = .ok (.iconst 1, 1) := by decide +kernel
theorem dX7_slip_2 : decode cX7_slip 2 = .ok (.putfield 97, 3) := by decide +kernel
theorem dX7_slip_5 : decode cX7_slip 5 = .ok (.aload_n 0, 1) := by decide +kernel
theorem dX7_slip_6 : decode cX7_slip 6 = .ok (.dup, 1) := by decide +kernel
theorem dX7_slip_7 : decode cX7_slip 7 = .ok (.getfield 101, 3) := by decide +kernel
theorem dX7_slip_10 : decode cX7_slip 10 = .ok (.iconst 1, 1) := by decide +kernel
theorem dX7_slip_11 : decode cX7_slip 11 = .ok (.iadd, 1) := by decide +kernel
theorem dX7_slip_12 : decode cX7_slip 12 = .ok (.putfield 101, 3) := by decide +kernel
theorem dX7_slip_15 : decode cX7_slip 15 = .ok (.return_, 1) := by decide +kernel
theorem dX7_whole_0 : decode cX7_whole 0 = .ok (.aload_n 0, 1) := by decide +kernel
theorem dX7_whole_1 : decode cX7_whole 1 = .ok (.iconst 0, 1) := by decide +kernel
theorem dX7_whole_2 : decode cX7_whole 2 = .ok (.putfield 104, 3) := by decide +kernel
theorem dX7_whole_5 : decode cX7_whole 5 = .ok (.iconst 2, 1) := by decide +kernel
theorem dX7_whole_6 : decode cX7_whole 6 = .ok (.istore_n 1, 1) := by decide +kernel
theorem dX7_whole_7 : decode cX7_whole 7 = .ok (.iload_n 1, 1) := by decide +kernel
theorem dX7_whole_8 : decode cX7_whole 8 = .ok (.bipush 66, 2) := by decide +kernel
theorem dX7_whole_10 : decode cX7_whole 10 = .ok (.if_icmp .ge 34, 3) := by decide +kernel
theorem dX7_whole_13 : decode cX7_whole 13 = .ok (.aload_n 0, 1) := by decide +kernel
theorem dX7_whole_14 : decode cX7_whole 14 = .ok (.getfield 23, 3) := by decide +kernel
theorem dX7_whole_17 : decode cX7_whole 17 = .ok (.iload_n 1, 1) := by decide +kernel
theorem dX7_whole_18 : decode cX7_whole 18 = .ok (.iaload, 1) := by decide +kernel
theorem dX7_whole_19 : decode cX7_whole 19 = .ok (.istore_n 2, 1) := by decide +kernel
theorem dX7_whole_20 : decode cX7_whole 20 = .ok (.aload_n 0, 1) := by decide +kernel
theorem dX7_whole_21 : decode cX7_whole 21 = .ok (.getfield 23, 3) := by decide +kernel
theorem dX7_whole_24 : decode cX7_whole 24 = .ok (.iload_n 1, 1) := by decide +kernel
theorem dX7_whole_25 : decode cX7_whole 25 = .ok (.aload_n 0, 1) := by decide +kernel
theorem dX7_whole_26 : decode cX7_whole 26 = .ok (.iconst 1, 1) := by decide +kernel
theorem dX7_whole_27 : decode cX7_whole 27 = .ok (.iload_n 2, 1) := by decide +kernel
theorem dX7_whole_28 : decode cX7_whole 28 = .ok (.invokevirtual 66, 3) := by decide +kernel
theorem dX7_whole_31 : decode cX7_whole 31 = .ok (.iastore, 1) := by decide +kernel
theorem dX7_whole_32 : decode cX7_whole 32 = .ok (.aload_n 0, 1) := by decide +kernel
theorem dX7_whole_33 : decode cX7_whole 33 = .ok (.iconst 1, 1) := by decide +kernel
theorem dX7_whole_34 : decode cX7_whole 34 = .ok (.iload_n 2, 1) := by decide +kernel
theorem dX7_whole_35 : decode cX7_whole 35 = .ok (.invokevirtual 70, 3) := by decide +kernel
theorem dX7_whole_38 : decode cX7_whole 38 = .ok (.iinc 1 1, 3) := by decide +kernel
theorem dX7_whole_41 : decode cX7_whole 41 = .ok (.goto (-34), 3) := by decide +kernel
theorem dX7_whole_44 : decode cX7_whole 44 = .ok (.aload_n 0, 1) := by decide +kernel
theorem dX7_whole_45 : decode cX7_whole 45 = .ok (.getfield 23, 3) := by decide +kernel
theorem dX7_whole_48 : decode cX7_whole 48 = .ok (.iconst 0, 1) := by decide +kernel
theorem dX7_whole_49 : decode cX7_whole 49 = .ok (.iaload, 1) := by decide +kernel
theorem dX7_whole_50 : decode cX7_whole 50 = .ok (.aload_n 0, 1) := by decide +kernel
theorem dX7_whole_51 : decode cX7_whole 51 = .ok (.getfield 23, 3) := by decide +kernel
theorem dX7_whole_54 : decode cX7_whole 54 = .ok (.iconst 1, 1) := by decide +kernel
theorem dX7_whole_55 : decode cX7_whole 55 = .ok (.iaload, 1) := by decide +kernel
theorem dX7_whole_56 : decode cX7_whole 56 = .ok (.if_icmp .eq 7, 3) := by decide +kernel
theorem dX7_whole_59 : decode cX7_whole 59 = .ok (.iconst 1, 1) := by decide +kernel
theorem dX7_whole_60 : decode cX7_whole 60 = .ok (.goto 4, 3) := by decide +kernel
theorem dX7_whole_63 : decode cX7_whole 63 = .ok (.iconst 0, 1) := by decide +kernel
theorem dX7_whole_64 : decode cX7_whole 64 = .ok (.istore_n 1, 1) := by decide +kernel
theorem dX7_whole_65 : decode cX7_whole 65 = .ok (.aload_n 0, 1) := by decide +kernel
theorem dX7_whole_66 : decode cX7_whole 66 = .ok (.getfield 107, 3) := by decide +kernel
theorem dX7_whole_69 : decode cX7_whole 69 = .ok (.ifCond .ne 77, 3) := by decide +kernel
theorem dX7_whole_72 : decode cX7_whole 72 = .ok (.aload_n 0, 1) := by decide +kernel
theorem dX7_whole_73 : decode cX7_whole 73 = .ok (.iload_n 1, 1) := by decide +kernel
theorem dX7_whole_74 : decode cX7_whole 74 = .ok (.ifCond .eq 12, 3) := by decide +kernel
theorem dX7_whole_77 : decode cX7_whole 77 = .ok (.aload_n 0, 1) := by decide +kernel
theorem dX7_whole_78 : decode cX7_whole 78 = .ok (.getfield 110, 3) := by decide +kernel
theorem dX7_whole_81 : decode cX7_whole 81 = .ok (.iconst 1, 1) := by decide +kernel
theorem dX7_whole_82 : decode cX7_whole 82 = .ok (.iadd, 1) := by decide +kernel
theorem dX7_whole_83 : decode cX7_whole 83 = .ok (.goto 4, 3) := by decide +kernel
theorem dX7_whole_86 : decode cX7_whole 86 = .ok (.iconst 0, 1) := by decide +kernel
theorem dX7_whole_87 : decode cX7_whole 87 = .ok (.putfield 110, 3) := by decide +kernel
theorem dX7_whole_90 : decode cX7_whole 90 = .ok (.iload_n 1, 1) := by decide +kernel
theorem dX7_whole_91 : decode cX7_whole 91 = .ok (.ifCond .ne 7, 3) := by decide +kernel
theorem dX7_whole_94 : decode cX7_whole 94 = .ok (.aload_n 0, 1) := by decide +kernel
theorem dX7_whole_95 : decode cX7_whole 95 = .ok (.invokevirtual 113, 3) := by decide +kernel
theorem dX7_whole_98 : decode cX7_whole 98 = .ok (.aload_n 0, 1) := by decide +kernel
theorem dX7_whole_99 : decode cX7_whole 99 = .ok (.aload_n 0, 1) := by decide +kernel
theorem dX7_whole_100 : decode cX7_whole 100 = .ok (.getfield 110, 3) := by decide +kernel
theorem dX7_whole_103 : decode cX7_whole 103 = .ok (.bipush 64, 2) := by decide +kernel
theorem dX7_whole_105 : decode cX7_whole 105 = .ok (.if_icmp .ne 7, 3) := by decide +kernel
theorem dX7_whole_108 : decode cX7_whole 108 = .ok (.iconst 1, 1) := by decide +kernel
theorem dX7_whole_109 : decode cX7_whole 109 = .ok (.goto 4, 3) := by decide +kernel
theorem dX7_whole_112 : decode cX7_whole 112 = .ok (.iconst 0, 1) := by decide +kernel
theorem dX7_whole_113 : decode cX7_whole 113 = .ok (.putfield 107, 3) := by decide +kernel
theorem dX7_whole_116 : decode cX7_whole 116 = .ok (.aload_n 0, 1) := by decide +kernel
theorem dX7_whole_117 : decode cX7_whole 117 = .ok (.aload_n 0, 1) := by decide +kernel
theorem dX7_whole_118 : decode cX7_whole 118 = .ok (.getfield 107, 3) := by decide +kernel
theorem dX7_whole_121 : decode cX7_whole 121 = .ok (.ifCond .eq 7, 3) := by decide +kernel
theorem dX7_whole_124 : decode cX7_whole 124 = .ok (.iconst 0, 1) := by decide +kernel
theorem dX7_whole_125 : decode cX7_whole 125 = .ok (.goto 7, 3) := by decide +kernel
theorem dX7_whole_128 : decode cX7_whole 128 = .ok (.aload_n 0, 1) := by decide +kernel
theorem dX7_whole_129 : decode cX7_whole 129 = .ok (.getfield 110, 3) := by decide +kernel
theorem dX7_whole_132 : decode cX7_whole 132 = .ok (.putfield 110, 3) := by decide +kernel
theorem dX7_whole_135 : decode cX7_whole 135 = .ok (.aload_n 0, 1) := by decide +kernel
theorem dX7_whole_136 : decode cX7_whole 136 = .ok (.iconst 0, 1) := by decide +kernel
theorem dX7_whole_137 : decode cX7_whole 137 = .ok (.putfield 116, 3) := by decide +kernel
theorem dX7_whole_140 : decode cX7_whole 140 = .ok (.aload_n 0, 1) := by decide +kernel
theorem dX7_whole_141 : decode cX7_whole 141 = .ok (.iconst 0, 1) := by decide +kernel
theorem dX7_whole_142 : decode cX7_whole 142 = .ok (.putfield 119, 3) := by decide +kernel
theorem dX7_whole_145 : decode cX7_whole 145 = .ok (.return_, 1) := by decide +kernel
theorem dX7_whole_146 : decode cX7_whole 146 = .ok (.aload_n 0, 1) := by decide +kernel
theorem dX7_whole_147 : decode cX7_whole 147 = .ok (.invokevirtual 122, 3) := by decide +kernel
theorem dX7_whole_150 : decode cX7_whole 150 = .ok (.aload_n 0, 1) := by decide +kernel
theorem dX7_whole_151 : decode cX7_whole 151 = .ok (.dup, 1) := by decide +kernel
theorem dX7_whole_152 : decode cX7_whole 152 = .ok (.getfield 116, 3) := by decide +kernel
theorem dX7_whole_155 : decode cX7_whole 155 = .ok (.iconst 1, 1) := by decide +kernel
theorem dX7_whole_156 : decode cX7_whole 156 = .ok (.iadd, 1) := by decide +kernel
theorem dX7_whole_157 : decode cX7_whole 157 = .ok (.putfield 116, 3) := by decide +kernel
theorem dX7_whole_160 : decode cX7_whole 160 = .ok (.aload_n 0, 1) := by decide +kernel
theorem dX7_whole_161 : decode cX7_whole 161 = .ok (.iload_n 1, 1) := by decide +kernel
theorem dX7_whole_162 : decode cX7_whole 162 = .ok (.ifCond .eq 10, 3) := by decide +kernel
theorem dX7_whole_165 : decode cX7_whole 165 = .ok (.aload_n 0, 1) := by decide +kernel
theorem dX7_whole_166 : decode cX7_whole 166 = .ok (.getfield 119, 3) := by decide +kernel
theorem dX7_whole_169 : decode cX7_whole 169 = .ok (.goto 9, 3) := by decide +kernel
theorem dX7_whole_172 : decode cX7_whole 172 = .ok (.aload_n 0, 1) := by decide +kernel
theorem dX7_whole_173 : decode cX7_whole 173 = .ok (.getfield 119, 3) := by decide +kernel
theorem dX7_whole_176 : decode cX7_whole 176 = .ok (.iconst 1, 1) := by decide +kernel
theorem dX7_whole_177 : decode cX7_whole 177 = .ok (.iadd, 1) := by decide +kernel
theorem dX7_whole_178 : decode cX7_whole 178 = .ok (.putfield 119, 3) := by decide +kernel
theorem dX7_whole_181 : decode cX7_whole 181 = .ok (.aload_n 0, 1) := by decide +kernel
theorem dX7_whole_182 : decode cX7_whole 182 = .ok (.getfield 119, 3) := by decide +kernel
theorem dX7_whole_185 : decode cX7_whole 185 = .ok (.bipush 16, 2) := by decide +kernel
theorem dX7_whole_187 : decode cX7_whole 187 = .ok (.if_icmp .ne 25, 3) := by decide +kernel
theorem dX7_whole_190 : decode cX7_whole 190 = .ok (.aload_n 0, 1) := by decide +kernel
theorem dX7_whole_191 : decode cX7_whole 191 = .ok (.iconst 0, 1) := by decide +kernel
theorem dX7_whole_192 : decode cX7_whole 192 = .ok (.putfield 107, 3) := by decide +kernel
theorem dX7_whole_195 : decode cX7_whole 195 = .ok (.aload_n 0, 1) := by decide +kernel
theorem dX7_whole_196 : decode cX7_whole 196 = .ok (.iconst 0, 1) := by decide +kernel
theorem dX7_whole_197 : decode cX7_whole 197 = .ok (.putfield 110, 3) := by decide +kernel
theorem dX7_whole_200 : decode cX7_whole 200 = .ok (.aload_n 0, 1) := by decide +kernel
theorem dX7_whole_201 : decode cX7_whole 201 = .ok (.iconst 0, 1) := by decide +kernel
theorem dX7_whole_202 : decode cX7_whole 202 = .ok (.putfield 119, 3) := by decide +kernel
theorem dX7_whole_205 : decode cX7_whole 205 = .ok (.aload_n 0, 1) := by decide +kernel
theorem dX7_whole_206 : decode cX7_whole 206 = .ok (.invokevirtual 113, 3) := by decide +kernel
theorem dX7_whole_209 : decode cX7_whole 209 = .ok (.goto 22, 3) := by decide +kernel
theorem dX7_whole_212 : decode cX7_whole 212 = .ok (.aload_n 0, 1) := by decide +kernel
theorem dX7_whole_213 : decode cX7_whole 213 = .ok (.getfield 116, 3) := by decide +kernel
theorem dX7_whole_216 : decode cX7_whole 216 = .ok (.bipush 64, 2) := by decide +kernel
theorem dX7_whole_218 : decode cX7_whole 218 = .ok (.if_icmp .ne 13, 3) := by decide +kernel
theorem dX7_whole_221 : decode cX7_whole 221 = .ok (.aload_n 0, 1) := by decide +kernel
theorem dX7_whole_222 : decode cX7_whole 222 = .ok (.iconst 0, 1) := by decide +kernel
theorem dX7_whole_223 : decode cX7_whole 223 = .ok (.putfield 116, 3) := by decide +kernel
theorem dX7_whole_226 : decode cX7_whole 226 = .ok (.aload_n 0, 1) := by decide +kernel
theorem dX7_whole_227 : decode cX7_whole 227 = .ok (.iconst 0, 1) := by decide +kernel
theorem dX7_whole_228 : decode cX7_whole 228 = .ok (.putfield 119, 3) := by decide +kernel
theorem dX7_whole_231 : decode cX7_whole 231 = .ok (.return_, 1) := by decide +kernel
theorem dX7_receive_0 : decode cX7_receive 0 = .ok (.aload_n 0, 1) := by decide +kernel
theorem dX7_receive_1 : decode cX7_receive 1 = .ok (.iconst 0, 1) := by decide +kernel
theorem dX7_receive_2 : decode cX7_receive 2 = .ok (.putfield 33, 3) := by decide +kernel
theorem dX7_receive_5 : decode cX7_receive 5 = .ok (.iload_n 1, 1) := by decide +kernel
theorem dX7_receive_6 : decode cX7_receive 6 = .ok (.ifCond .ge 6, 3) := by decide +kernel
theorem dX7_receive_9 : decode cX7_receive 9 = .ok (.bipush (-12), 2) := by decide +kernel
theorem dX7_receive_11 : decode cX7_receive 11 = .ok (.ireturn, 1) := by decide +kernel
theorem dX7_receive_12 : decode cX7_receive 12 = .ok (.iload_n 1, 1) := by decide +kernel
theorem dX7_receive_13 : decode cX7_receive 13 = .ok (.aload_n 0, 1) := by decide +kernel
theorem dX7_receive_14 : decode cX7_receive 14 = .ok (.getfield 29, 3) := by decide +kernel
theorem dX7_receive_17 : decode cX7_receive 17 = .ok (.if_icmp .ge 7, 3) := by decide +kernel
theorem dX7_receive_20 : decode cX7_receive 20 = .ok (.iload_n 1, 1) := by decide +kernel
theorem dX7_receive_21 : decode cX7_receive 21 = .ok (.goto 7, 3) := by decide +kernel
theorem dX7_receive_24 : decode cX7_receive 24 = .ok (.aload_n 0, 1) := by decide +kernel
theorem dX7_receive_25 : decode cX7_receive 25 = .ok (.getfield 29, 3) := by decide +kernel
theorem dX7_receive_28 : decode cX7_receive 28 = .ok (.istore_n 2, 1) := by decide +kernel
theorem dX7_receive_29 : decode cX7_receive 29 = .ok (.aload_n 0, 1) := by decide +kernel
theorem dX7_receive_30 : decode cX7_receive 30 = .ok (.getfield 91, 3) := by decide +kernel
theorem dX7_receive_33 : decode cX7_receive 33 = .ok (.istore_n 3, 1) := by decide +kernel
theorem dX7_receive_34 : decode cX7_receive 34 = .ok (.iconst 0, 1) := by decide +kernel
theorem dX7_receive_35 : decode cX7_receive 35 = .ok (.istore 4, 2) := by decide +kernel
theorem dX7_receive_37 : decode cX7_receive 37 = .ok (.iload 4, 2) := by decide +kernel
theorem dX7_receive_39 : decode cX7_receive 39 = .ok (.iload_n 2, 1) := by decide +kernel
theorem dX7_receive_40 : decode cX7_receive 40 = .ok (.if_icmp .ge 63, 3) := by decide +kernel
theorem dX7_receive_43 : decode cX7_receive 43 = .ok (.aload_n 0, 1) := by decide +kernel
theorem dX7_receive_44 : decode cX7_receive 44 = .ok (.getfield 97, 3) := by decide +kernel
theorem dX7_receive_47 : decode cX7_receive 47 = .ok (.ifCond .eq 11, 3) := by decide +kernel
theorem dX7_receive_50 : decode cX7_receive 50 = .ok (.aload_n 0, 1) := by decide +kernel
theorem dX7_receive_51 : decode cX7_receive 51 = .ok (.iconst 0, 1) := by decide +kernel
theorem dX7_receive_52 : decode cX7_receive 52 = .ok (.putfield 97, 3) := by decide +kernel
theorem dX7_receive_55 : decode cX7_receive 55 = .ok (.goto 42, 3) := by decide +kernel
theorem dX7_receive_58 : decode cX7_receive 58 = .ok (.aload_n 0, 1) := by decide +kernel
theorem dX7_receive_59 : decode cX7_receive 59 = .ok (.getfield 23, 3) := by decide +kernel
theorem dX7_receive_62 : decode cX7_receive 62 = .ok (.aload_n 0, 1) := by decide +kernel
theorem dX7_receive_63 : decode cX7_receive 63 = .ok (.getfield 104, 3) := by decide +kernel
theorem dX7_receive_66 : decode cX7_receive 66 = .ok (.aload_n 0, 1) := by decide +kernel
theorem dX7_receive_67 : decode cX7_receive 67 = .ok (.getfield 13, 3) := by decide +kernel
theorem dX7_receive_70 : decode cX7_receive 70 = .ok (.iload 4, 2) := by decide +kernel
theorem dX7_receive_72 : decode cX7_receive 72 = .ok (.baload, 1) := by decide +kernel
theorem dX7_receive_73 : decode cX7_receive 73 = .ok (.iastore, 1) := by decide +kernel
theorem dX7_receive_74 : decode cX7_receive 74 = .ok (.aload_n 0, 1) := by decide +kernel
theorem dX7_receive_75 : decode cX7_receive 75 = .ok (.dup, 1) := by decide +kernel
theorem dX7_receive_76 : decode cX7_receive 76 = .ok (.getfield 104, 3) := by decide +kernel
theorem dX7_receive_79 : decode cX7_receive 79 = .ok (.iconst 1, 1) := by decide +kernel
theorem dX7_receive_80 : decode cX7_receive 80 = .ok (.iadd, 1) := by decide +kernel
theorem dX7_receive_81 : decode cX7_receive 81 = .ok (.putfield 104, 3) := by decide +kernel
theorem dX7_receive_84 : decode cX7_receive 84 = .ok (.aload_n 0, 1) := by decide +kernel
theorem dX7_receive_85 : decode cX7_receive 85 = .ok (.getfield 104, 3) := by decide +kernel
theorem dX7_receive_88 : decode cX7_receive 88 = .ok (.bipush 66, 2) := by decide +kernel
theorem dX7_receive_90 : decode cX7_receive 90 = .ok (.if_icmp .ne 7, 3) := by decide +kernel
theorem dX7_receive_93 : decode cX7_receive 93 = .ok (.aload_n 0, 1) := by decide +kernel
theorem dX7_receive_94 : decode cX7_receive 94 = .ok (.invokevirtual 125, 3) := by decide +kernel
theorem dX7_receive_97 : decode cX7_receive 97 = .ok (.iinc 4 1, 3) := by decide +kernel
theorem dX7_receive_100 : decode cX7_receive 100 = .ok (.goto (-63), 3) := by decide +kernel
theorem dX7_receive_103 : decode cX7_receive 103 = .ok (.aload_n 0, 1) := by decide +kernel
theorem dX7_receive_104 : decode cX7_receive 104 = .ok (.aload_n 0, 1) := by decide +kernel
theorem dX7_receive_105 : decode cX7_receive 105 = .ok (.getfield 29, 3) := by decide +kernel
theorem dX7_receive_108 : decode cX7_receive 108 = .ok (.iload_n 2, 1) := by decide +kernel
theorem dX7_receive_109 : decode cX7_receive 109 = .ok (.isub, 1) := by decide +kernel
theorem dX7_receive_110 : decode cX7_receive 110 = .ok (.putfield 29, 3) := by decide +kernel
theorem dX7_receive_113 : decode cX7_receive 113 = .ok (.iconst 0, 1) := by decide +kernel
theorem dX7_receive_114 : decode cX7_receive 114 = .ok (.istore 4, 2) := by decide +kernel
theorem dX7_receive_116 : decode cX7_receive 116 = .ok (.iload 4, 2) := by decide +kernel
theorem dX7_receive_118 : decode cX7_receive 118 = .ok (.aload_n 0, 1) := by decide +kernel
theorem dX7_receive_119 : decode cX7_receive 119 = .ok (.getfield 29, 3) := by decide +kernel
theorem dX7_receive_122 : decode cX7_receive 122 = .ok (.if_icmp .ge 25, 3) := by decide +kernel
theorem dX7_receive_125 : decode cX7_receive 125 = .ok (.aload_n 0, 1) := by decide +kernel
theorem dX7_receive_126 : decode cX7_receive 126 = .ok (.getfield 13, 3) := by decide +kernel
theorem dX7_receive_129 : decode cX7_receive 129 = .ok (.iload 4, 2) := by decide +kernel
theorem dX7_receive_131 : decode cX7_receive 131 = .ok (.aload_n 0, 1) := by decide +kernel
theorem dX7_receive_132 : decode cX7_receive 132 = .ok (.getfield 13, 3) := by decide +kernel
theorem dX7_receive_135 : decode cX7_receive 135 = .ok (.iload 4, 2) := by decide +kernel
theorem dX7_receive_137 : decode cX7_receive 137 = .ok (.iload_n 2, 1) := by decide +kernel
theorem dX7_receive_138 : decode cX7_receive 138 = .ok (.iadd, 1) := by decide +kernel
theorem dX7_receive_139 : decode cX7_receive 139 = .ok (.baload, 1) := by decide +kernel
theorem dX7_receive_140 : decode cX7_receive 140 = .ok (.bastore, 1) := by decide +kernel
theorem dX7_receive_141 : decode cX7_receive 141 = .ok (.iinc 4 1, 3) := by decide +kernel
theorem dX7_receive_144 : decode cX7_receive 144 = .ok (.goto (-28), 3) := by decide +kernel
theorem dX7_receive_147 : decode cX7_receive 147 = .ok (.aload_n 0, 1) := by decide +kernel
theorem dX7_receive_148 : decode cX7_receive 148 = .ok (.getfield 91, 3) := by decide +kernel
theorem dX7_receive_151 : decode cX7_receive 151 = .ok (.iload_n 3, 1) := by decide +kernel
theorem dX7_receive_152 : decode cX7_receive 152 = .ok (.isub, 1) := by decide +kernel
theorem dX7_receive_153 : decode cX7_receive 153 = .ok (.ireturn, 1) := by decide +kernel
theorem dX7_told_0 : decode cX7_told 0 = .ok (.aload_n 0, 1) := by decide +kernel
theorem dX7_told_1 : decode cX7_told 1 = .ok (.iconst 0, 1) := by decide +kernel
theorem dX7_told_2 : decode cX7_told 2 = .ok (.putfield 33, 3) := by decide +kernel
theorem dX7_told_5 : decode cX7_told 5 = .ok (.iload_n 1, 1) := by decide +kernel
theorem dX7_told_6 : decode cX7_told 6 = .ok (.ifCond .lt 33, 3) := by decide +kernel
theorem dX7_told_9 : decode cX7_told 9 = .ok (.iload_n 1, 1) := by decide +kernel
theorem dX7_told_10 : decode cX7_told 10 = .ok (.aload_n 0, 1) := by decide +kernel
theorem dX7_told_11 : decode cX7_told 11 = .ok (.getfield 91, 3) := by decide +kernel
theorem dX7_told_14 : decode cX7_told 14 = .ok (.if_icmp .ge 25, 3) := by decide +kernel
theorem dX7_told_17 : decode cX7_told 17 = .ok (.iload_n 1, 1) := by decide +kernel
theorem dX7_told_18 : decode cX7_told 18 = .ok (.aload_n 0, 1) := by decide +kernel
theorem dX7_told_19 : decode cX7_told 19 = .ok (.getfield 91, 3) := by decide +kernel
theorem dX7_told_22 : decode cX7_told 22 = .ok (.sipush 300, 3) := by decide +kernel
theorem dX7_told_25 : decode cX7_told 25 = .ok (.isub, 1) := by decide +kernel
theorem dX7_told_26 : decode cX7_told 26 = .ok (.if_icmp .lt 13, 3) := by decide +kernel
theorem dX7_told_29 : decode cX7_told 29 = .ok (.iload_n 2, 1) := by decide +kernel
theorem dX7_told_30 : decode cX7_told 30 = .ok (.ifCond .lt 9, 3) := by decide +kernel
theorem dX7_told_33 : decode cX7_told 33 = .ok (.iload_n 2, 1) := by decide +kernel
theorem dX7_told_34 : decode cX7_told 34 = .ok (.bipush 7, 2) := by decide +kernel
theorem dX7_told_36 : decode cX7_told 36 = .ok (.if_icmp .le 7, 3) := by decide +kernel
theorem dX7_told_39 : decode cX7_told 39 = .ok (.iconst (-1), 1) := by decide +kernel
theorem dX7_told_40 : decode cX7_told 40 = .ok (.goto 18, 3) := by decide +kernel
theorem dX7_told_43 : decode cX7_told 43 = .ok (.aload_n 0, 1) := by decide +kernel
theorem dX7_told_44 : decode cX7_told 44 = .ok (.getfield 26, 3) := by decide +kernel
theorem dX7_told_47 : decode cX7_told 47 = .ok (.bipush 8, 2) := by decide +kernel
theorem dX7_told_49 : decode cX7_told 49 = .ok (.iload_n 1, 1) := by decide +kernel
theorem dX7_told_50 : decode cX7_told 50 = .ok (.sipush 300, 3) := by decide +kernel
theorem dX7_told_53 : decode cX7_told 53 = .ok (.irem, 1) := by decide +kernel
theorem dX7_told_54 : decode cX7_told 54 = .ok (.imul, 1) := by decide +kernel
theorem dX7_told_55 : decode cX7_told 55 = .ok (.iload_n 2, 1) := by decide +kernel
theorem dX7_told_56 : decode cX7_told 56 = .ok (.iadd, 1) := by decide +kernel
theorem dX7_told_57 : decode cX7_told 57 = .ok (.iaload, 1) := by decide +kernel
theorem dX7_told_58 : decode cX7_told 58 = .ok (.ireturn, 1) := by decide +kernel
theorem dX7_receiver_0 : decode cX7_receiver 0 = .ok (.aload_n 0, 1) := by decide +kernel
theorem dX7_receiver_1 : decode cX7_receiver 1 = .ok (.iconst 0, 1) := by decide +kernel
theorem dX7_receiver_2 : decode cX7_receiver 2 = .ok (.putfield 33, 3) := by decide +kernel
theorem dX7_receiver_5 : decode cX7_receiver 5 = .ok (.iload_n 1, 1) := by decide +kernel
theorem dX7_receiver_6 : decode cX7_receiver 6 = .ok (.tableswitch 76 0 5 #[38, 51, 56, 61, 66, 71], 38) := by decide +kernel
theorem dX7_receiver_44 : decode cX7_receiver 44 = .ok (.aload_n 0, 1) := by decide +kernel
theorem dX7_receiver_45 : decode cX7_receiver 45 = .ok (.getfield 107, 3) := by decide +kernel
theorem dX7_receiver_48 : decode cX7_receiver 48 = .ok (.ifCond .eq 7, 3) := by decide +kernel
theorem dX7_receiver_51 : decode cX7_receiver 51 = .ok (.iconst 1, 1) := by decide +kernel
theorem dX7_receiver_52 : decode cX7_receiver 52 = .ok (.goto 4, 3) := by decide +kernel
theorem dX7_receiver_55 : decode cX7_receiver 55 = .ok (.iconst 0, 1) := by decide +kernel
theorem dX7_receiver_56 : decode cX7_receiver 56 = .ok (.ireturn, 1) := by decide +kernel
theorem dX7_receiver_57 : decode cX7_receiver 57 = .ok (.aload_n 0, 1) := by decide +kernel
theorem dX7_receiver_58 : decode cX7_receiver 58 = .ok (.getfield 110, 3) := by decide +kernel
theorem dX7_receiver_61 : decode cX7_receiver 61 = .ok (.ireturn, 1) := by decide +kernel
theorem dX7_receiver_62 : decode cX7_receiver 62 = .ok (.aload_n 0, 1) := by decide +kernel
theorem dX7_receiver_63 : decode cX7_receiver 63 = .ok (.getfield 101, 3) := by decide +kernel
theorem dX7_receiver_66 : decode cX7_receiver 66 = .ok (.ireturn, 1) := by decide +kernel
theorem dX7_receiver_67 : decode cX7_receiver 67 = .ok (.aload_n 0, 1) := by decide +kernel
theorem dX7_receiver_68 : decode cX7_receiver 68 = .ok (.getfield 104, 3) := by decide +kernel
theorem dX7_receiver_71 : decode cX7_receiver 71 = .ok (.ireturn, 1) := by decide +kernel
theorem dX7_receiver_72 : decode cX7_receiver 72 = .ok (.aload_n 0, 1) := by decide +kernel
theorem dX7_receiver_73 : decode cX7_receiver 73 = .ok (.getfield 91, 3) := by decide +kernel
theorem dX7_receiver_76 : decode cX7_receiver 76 = .ok (.ireturn, 1) := by decide +kernel
theorem dX7_receiver_77 : decode cX7_receiver 77 = .ok (.aload_n 0, 1) := by decide +kernel
theorem dX7_receiver_78 : decode cX7_receiver 78 = .ok (.getfield 119, 3) := by decide +kernel
theorem dX7_receiver_81 : decode cX7_receiver 81 = .ok (.ireturn, 1) := by decide +kernel
theorem dX7_receiver_82 : decode cX7_receiver 82 = .ok (.bipush (-12), 2) := by decide +kernel
theorem dX7_receiver_84 : decode cX7_receiver 84 = .ok (.ireturn, 1) := by decide +kernel
