theorem dX7_init_0 : decode cX7_init 0 = .ok (.aload_n 0, 1) := by decide +kernel
theorem dX7_init_1 : decode cX7_init 1 = .ok (.invokespecial 1, 3) := by decide +kernel
theorem dX7_init_4 : decode cX7_init 4 = .ok (.aload_n 0, 1) := by decide +kernel
theorem dX7_init_5 : decode cX7_init 5 = .ok (.bipush 8, 2) := by decide +kernel
theorem dX7_init_7 : decode cX7_init 7 = .ok (.newarray .int, 2) := by decide +kernel
theorem dX7_init_9 : decode cX7_init 9 = .ok (.putfield 7, 3) := by decide +kernel
theorem dX7_init_12 : decode cX7_init 12 = .ok (.aload_n 0, 1) := by decide +kernel
theorem dX7_init_13 : decode cX7_init 13 = .ok (.sipush 9200, 3) := by decide +kernel
theorem dX7_init_16 : decode cX7_init 16 = .ok (.newarray .byte, 2) := by decide +kernel
theorem dX7_init_18 : decode cX7_init 18 = .ok (.putfield 13, 3) := by decide +kernel
theorem dX7_init_21 : decode cX7_init 21 = .ok (.aload_n 0, 1) := by decide +kernel
theorem dX7_init_22 : decode cX7_init 22 = .ok (.bipush 116, 2) := by decide +kernel
theorem dX7_init_24 : decode cX7_init 24 = .ok (.newarray .int, 2) := by decide +kernel
theorem dX7_init_26 : decode cX7_init 26 = .ok (.putfield 17, 3) := by decide +kernel
theorem dX7_init_29 : decode cX7_init 29 = .ok (.aload_n 0, 1) := by decide +kernel
theorem dX7_init_30 : decode cX7_init 30 = .ok (.bipush 66, 2) := by decide +kernel
theorem dX7_init_32 : decode cX7_init 32 = .ok (.newarray .int, 2) := by decide +kernel
theorem dX7_init_34 : decode cX7_init 34 = .ok (.putfield 20, 3) := by decide +kernel
theorem dX7_init_37 : decode cX7_init 37 = .ok (.aload_n 0, 1) := by decide +kernel
theorem dX7_init_38 : decode cX7_init 38 = .ok (.bipush 66, 2) := by decide +kernel
theorem dX7_init_40 : decode cX7_init 40 = .ok (.newarray .int, 2) := by decide +kernel
theorem dX7_init_42 : decode cX7_init 42 = .ok (.putfield 23, 3) := by decide +kernel
theorem dX7_init_45 : decode cX7_init 45 = .ok (.aload_n 0, 1) := by decide +kernel
theorem dX7_init_46 : decode cX7_init 46 = .ok (.sipush 2400, 3) := by decide +kernel
theorem dX7_init_49 : decode cX7_init 49 = .ok (.newarray .int, 2) := by decide +kernel
theorem dX7_init_51 : decode cX7_init 51 = .ok (.putfield 26, 3) := by decide +kernel
theorem dX7_init_54 : decode cX7_init 54 = .ok (.aload_n 0, 1) := by decide +kernel
theorem dX7_init_55 : decode cX7_init 55 = .ok (.iconst 0, 1) := by decide +kernel
theorem dX7_init_56 : decode cX7_init 56 = .ok (.putfield 29, 3) := by decide +kernel
theorem dX7_init_59 : decode cX7_init 59 = .ok (.return_, 1) := by decide +kernel
theorem dX7_mixed_0 : decode cX7_mixed 0 = .ok (.iload_n 2, 1) := by decide +kernel
theorem dX7_mixed_1 : decode cX7_mixed 1 = .ok (.aload_n 0, 1) := by decide +kernel
theorem dX7_mixed_2 : decode cX7_mixed 2 = .ok (.getfield 17, 3) := by decide +kernel
theorem dX7_mixed_5 : decode cX7_mixed 5 = .ok (.bipush 58, 2) := by decide +kernel
theorem dX7_mixed_7 : decode cX7_mixed 7 = .ok (.iload_n 1, 1) := by decide +kernel
theorem dX7_mixed_8 : decode cX7_mixed 8 = .ok (.imul, 1) := by decide +kernel
theorem dX7_mixed_9 : decode cX7_mixed 9 = .ok (.bipush 38, 2) := by decide +kernel
theorem dX7_mixed_11 : decode cX7_mixed 11 = .ok (.iadd, 1) := by decide +kernel
theorem dX7_mixed_12 : decode cX7_mixed 12 = .ok (.iaload, 1) := by decide +kernel
theorem dX7_mixed_13 : decode cX7_mixed 13 = .ok (.ixor, 1) := by decide +kernel
theorem dX7_mixed_14 : decode cX7_mixed 14 = .ok (.aload_n 0, 1) := by decide +kernel
theorem dX7_mixed_15 : decode cX7_mixed 15 = .ok (.getfield 17, 3) := by decide +kernel
theorem dX7_mixed_18 : decode cX7_mixed 18 = .ok (.bipush 58, 2) := by decide +kernel
theorem dX7_mixed_20 : decode cX7_mixed 20 = .ok (.iload_n 1, 1) := by decide +kernel
theorem dX7_mixed_21 : decode cX7_mixed 21 = .ok (.imul, 1) := by decide +kernel
theorem dX7_mixed_22 : decode cX7_mixed 22 = .ok (.bipush 57, 2) := by decide +kernel
theorem dX7_mixed_24 : decode cX7_mixed 24 = .ok (.iadd, 1) := by decide +kernel
theorem dX7_mixed_25 : decode cX7_mixed 25 = .ok (.iaload, 1) := by decide +kernel
theorem dX7_mixed_26 : decode cX7_mixed 26 = .ok (.ixor, 1) := by decide +kernel
theorem dX7_mixed_27 : decode cX7_mixed 27 = .ok (.ireturn, 1) := by decide +kernel
theorem dX7_remember_0 : decode cX7_remember 0 = .ok (.bipush 57, 2) := by decide +kernel
theorem dX7_remember_2 : decode cX7_remember 2 = .ok (.istore_n 3, 1) := by decide +kernel
theorem dX7_remember_3 : decode cX7_remember 3 = .ok (.iload_n 3, 1) := by decide +kernel
theorem dX7_remember_4 : decode cX7_remember 4 = .ok (.ifCond .le 33, 3) := by decide +kernel
theorem dX7_remember_7 : decode cX7_remember 7 = .ok (.aload_n 0, 1) := by decide +kernel
theorem dX7_remember_8 : decode cX7_remember 8 = .ok (.getfield 17, 3) := by decide +kernel
theorem dX7_remember_11 : decode cX7_remember 11 = .ok (.bipush 58, 2) := by decide +kernel
theorem dX7_remember_13 : decode cX7_remember 13 = .ok (.iload_n 1, 1) := by decide +kernel
theorem dX7_remember_14 : decode cX7_remember 14 = .ok (.imul, 1) := by decide +kernel
theorem dX7_remember_15 : decode cX7_remember 15 = .ok (.iload_n 3, 1) := by decide +kernel
theorem dX7_remember_16 : decode cX7_remember 16 = .ok (.iadd, 1) := by decide +kernel
theorem dX7_remember_17 : decode cX7_remember 17 = .ok (.aload_n 0, 1) := by decide +kernel
theorem dX7_remember_18 : decode cX7_remember 18 = .ok (.getfield 17, 3) := by decide +kernel
theorem dX7_remember_21 : decode cX7_remember 21 = .ok (.bipush 58, 2) := by decide +kernel
theorem dX7_remember_23 : decode cX7_remember 23 = .ok (.iload_n 1, 1) := by decide +kernel
theorem dX7_remember_24 : decode cX7_remember 24 = .ok (.imul, 1) := by decide +kernel
theorem dX7_remember_25 : decode cX7_remember 25 = .ok (.iload_n 3, 1) := by decide +kernel
theorem dX7_remember_26 : decode cX7_remember 26 = .ok (.iadd, 1) := by decide +kernel
theorem dX7_remember_27 : decode cX7_remember 27 = .ok (.iconst 1, 1) := by decide +kernel
theorem dX7_remember_28 : decode cX7_remember 28 = .ok (.isub, 1) := by decide +kernel
theorem dX7_remember_29 : decode cX7_remember 29 = .ok (.iaload, 1) := by decide +kernel
theorem dX7_remember_30 : decode cX7_remember 30 = .ok (.iastore, 1) := by decide +kernel
theorem dX7_remember_31 : decode cX7_remember 31 = .ok (.iinc 3 (-1), 3) := by decide +kernel
theorem dX7_remember_34 : decode cX7_remember 34 = .ok (.goto (-31), 3) := by decide +kernel
theorem dX7_remember_37 : decode cX7_remember 37 = .ok (.aload_n 0, 1) := by decide +kernel
theorem dX7_remember_38 : decode cX7_remember 38 = .ok (.getfield 17, 3) := by decide +kernel
theorem dX7_remember_41 : decode cX7_remember 41 = .ok (.bipush 58, 2) := by decide +kernel
theorem dX7_remember_43 : decode cX7_remember 43 = .ok (.iload_n 1, 1) := by decide +kernel
theorem dX7_remember_44 : decode cX7_remember 44 = .ok (.imul, 1) := by decide +kernel
theorem dX7_remember_45 : decode cX7_remember 45 = .ok (.iload_n 2, 1) := by decide +kernel
theorem dX7_remember_46 : decode cX7_remember 46 = .ok (.iastore, 1) := by decide +kernel
theorem dX7_remember_47 : decode cX7_remember 47 = .ok (.return_, 1) := by decide +kernel
theorem dX7_state_0 : decode cX7_state 0 = .ok (.aload_n 0, 1) := by decide +kernel
theorem dX7_state_1 : decode cX7_state 1 = .ok (.iconst 0, 1) := by decide +kernel
theorem dX7_state_2 : decode cX7_state 2 = .ok (.putfield 33, 3) := by decide +kernel
theorem dX7_state_5 : decode cX7_state 5 = .ok (.iload_n 1, 1) := by decide +kernel
theorem dX7_state_6 : decode cX7_state 6 = .ok (.ifCond .lt 8, 3) := by decide +kernel
theorem dX7_state_9 : decode cX7_state 9 = .ok (.iload_n 1, 1) := by decide +kernel
theorem dX7_state_10 : decode cX7_state 10 = .ok (.iconst 1, 1) := by decide +kernel
theorem dX7_state_11 : decode cX7_state 11 = .ok (.if_icmp .le 7, 3) := by decide +kernel
theorem dX7_state_14 : decode cX7_state 14 = .ok (.ldc2_w 36, 3) := by decide +kernel
theorem dX7_state_17 : decode cX7_state 17 = .ok (.lreturn, 1) := by decide +kernel
theorem dX7_state_18 : decode cX7_state 18 = .ok (.lconst 0, 1) := by decide +kernel
theorem dX7_state_19 : decode cX7_state 19 = .ok (.lstore 4, 2) := by decide +kernel
theorem dX7_state_21 : decode cX7_state 21 = .ok (.bipush 57, 2) := by decide +kernel
theorem dX7_state_23 : decode cX7_state 23 = .ok (.istore 6, 2) := by decide +kernel
theorem dX7_state_25 : decode cX7_state 25 = .ok (.iload 6, 2) := by decide +kernel
theorem dX7_state_27 : decode cX7_state 27 = .ok (.ifCond .lt 50, 3) := by decide +kernel
theorem dX7_state_30 : decode cX7_state 30 = .ok (.ldc2_w 38, 3) := by decide +kernel
theorem dX7_state_33 : decode cX7_state 33 = .ok (.lload 4, 2) := by decide +kernel
theorem dX7_state_35 : decode cX7_state 35 = .ok (.lmul, 1) := by decide +kernel
theorem dX7_state_36 : decode cX7_state 36 = .ok (.aload_n 0, 1) := by decide +kernel
theorem dX7_state_37 : decode cX7_state 37 = .ok (.getfield 17, 3) := by decide +kernel
theorem dX7_state_40 : decode cX7_state 40 = .ok (.bipush 58, 2) := by decide +kernel
theorem dX7_state_42 : decode cX7_state 42 = .ok (.iload_n 1, 1) := by decide +kernel
theorem dX7_state_43 : decode cX7_state 43 = .ok (.imul, 1) := by decide +kernel
theorem dX7_state_44 : decode cX7_state 44 = .ok (.iload 6, 2) := by decide +kernel
theorem dX7_state_46 : decode cX7_state 46 = .ok (.iadd, 1) := by decide +kernel
theorem dX7_state_47 : decode cX7_state 47 = .ok (.iaload, 1) := by decide +kernel
theorem dX7_state_48 : decode cX7_state 48 = .ok (.i2l, 1) := by decide +kernel
theorem dX7_state_49 : decode cX7_state 49 = .ok (.ladd, 1) := by decide +kernel
theorem dX7_state_50 : decode cX7_state 50 = .ok (.lstore 4, 2) := by decide +kernel
theorem dX7_state_52 : decode cX7_state 52 = .ok (.aload_n 0, 1) := by decide +kernel
theorem dX7_state_53 : decode cX7_state 53 = .ok (.getfield 17, 3) := by decide +kernel
theorem dX7_state_56 : decode cX7_state 56 = .ok (.bipush 58, 2) := by decide +kernel
theorem dX7_state_58 : decode cX7_state 58 = .ok (.iload_n 1, 1) := by decide +kernel
theorem dX7_state_59 : decode cX7_state 59 = .ok (.imul, 1) := by decide +kernel
theorem dX7_state_60 : decode cX7_state 60 = .ok (.iload 6, 2) := by decide +kernel
theorem dX7_state_62 : decode cX7_state 62 = .ok (.iadd, 1) := by decide +kernel
theorem dX7_state_63 : decode cX7_state 63 = .ok (.lload_n 2, 1) := by decide +kernel
theorem dX7_state_64 : decode cX7_state 64 = .ok (.iload 6, 2) := by decide +kernel
theorem dX7_state_66 : decode cX7_state 66 = .ok (.lshr, 1) := by decide +kernel
theorem dX7_state_67 : decode cX7_state 67 = .ok (.lconst 1, 1) := by decide +kernel
theorem dX7_state_68 : decode cX7_state 68 = .ok (.land, 1) := by decide +kernel
theorem dX7_state_69 : decode cX7_state 69 = .ok (.l2i, 1) := by decide +kernel
theorem dX7_state_70 : decode cX7_state 70 = .ok (.iastore, 1) := by decide +kernel
theorem dX7_state_71 : decode cX7_state 71 = .ok (.iinc 6 (-1), 3) := by decide +kernel
theorem dX7_state_74 : decode cX7_state 74 = .ok (.goto (-49), 3) := by decide +kernel
theorem dX7_state_77 : decode cX7_state 77 = .ok (.lload 4, 2) := by decide +kernel
theorem dX7_state_79 : decode cX7_state 79 = .ok (.lreturn, 1) := by decide +kernel
theorem dX7_isData_0 : decode cX7_isData 0 = .ok (.iload_n 0, 1) := by decide +kernel
theorem dX7_isData_1 : decode cX7_isData 1 = .ok (.sipush 256, 3) := by decide +kernel
theorem dX7_isData_4 : decode cX7_isData 4 = .ok (.if_icmp .ge 7, 3) := by decide +kernel
theorem dX7_isData_7 : decode cX7_isData 7 = .ok (.iconst 1, 1) := by decide +kernel
theorem dX7_isData_8 : decode cX7_isData 8 = .ok (.goto 4, 3) := by decide +kernel
theorem dX7_isData_11 : decode cX7_isData 11 = .ok (.iconst 0, 1) := by decide +kernel
theorem dX7_isData_12 : decode cX7_isData 12 = .ok (.ireturn, 1) := by decide +kernel
theorem dX7_isQuiet_0 : decode cX7_isQuiet 0 = .ok (.iload_n 0, 1) := by decide +kernel
theorem dX7_isQuiet_1 : decode cX7_isQuiet 1 = .ok (.sipush 256, 3) := by decide +kernel
theorem dX7_isQuiet_4 : decode cX7_isQuiet 4 = .ok (.if_icmp .eq 10, 3) := by decide +kernel
theorem dX7_isQuiet_7 : decode cX7_isQuiet 7 = .ok (.iload_n 0, 1) := by decide +kernel
theorem dX7_isQuiet_8 : decode cX7_isQuiet 8 = .ok (.sipush 259, 3) := by decide +kernel
theorem dX7_isQuiet_11 : decode cX7_isQuiet 11 = .ok (.if_icmp .ne 7, 3) := by decide +kernel
theorem dX7_isQuiet_14 : decode cX7_isQuiet 14 = .ok (.iconst 1, 1) := by decide +kernel
theorem dX7_isQuiet_15 : decode cX7_isQuiet 15 = .ok (.goto 4, 3) := by decide +kernel
theorem dX7_isQuiet_18 : decode cX7_isQuiet 18 = .ok (.iconst 0, 1) := by decide +kernel
theorem dX7_isQuiet_19 : decode cX7_isQuiet 19 = .ok (.ireturn, 1) := by decide +kernel
theorem dX7_are_0 : decode cX7_are 0 = .ok (.iconst 1, 1) := by decide +kernel
theorem dX7_are_1 : decode cX7_are 1 = .ok (.istore 4, 2) := by decide +kernel
theorem dX7_are_3 : decode cX7_are 3 = .ok (.iload_n 1, 1) := by decide +kernel
theorem dX7_are_4 : decode cX7_are 4 = .ok (.istore 5, 2) := by decide +kernel
theorem dX7_are_6 : decode cX7_are 6 = .ok (.iload 5, 2) := by decide +kernel
theorem dX7_are_8 : decode cX7_are 8 = .ok (.iload_n 2, 1) := by decide +kernel
theorem dX7_are_9 : decode cX7_are 9 = .ok (.if_icmp .ge 54, 3) := by decide +kernel
theorem dX7_are_12 : decode cX7_are 12 = .ok (.iload 4, 2) := by decide +kernel
theorem dX7_are_14 : decode cX7_are 14 = .ok (.ifCond .eq 40, 3) := by decide +kernel
theorem dX7_are_17 : decode cX7_are 17 = .ok (.iload_n 3, 1) := by decide +kernel
theorem dX7_are_18 : decode cX7_are 18 = .ok (.ifCond .eq 19, 3) := by decide +kernel
theorem dX7_are_21 : decode cX7_are 21 = .ok (.aload_n 0, 1) := by decide +kernel
theorem dX7_are_22 : decode cX7_are 22 = .ok (.getfield 7, 3) := by decide +kernel
theorem dX7_are_25 : decode cX7_are 25 = .ok (.iload 5, 2) := by decide +kernel
theorem dX7_are_27 : decode cX7_are 27 = .ok (.iaload, 1) := by decide +kernel
theorem dX7_are_28 : decode cX7_are 28 = .ok (.invokestatic 40, 3) := by decide +kernel
theorem dX7_are_31 : decode cX7_are 31 = .ok (.ifCond .eq 23, 3) := by decide +kernel
theorem dX7_are_34 : decode cX7_are 34 = .ok (.goto 16, 3) := by decide +kernel
theorem dX7_are_37 : decode cX7_are 37 = .ok (.aload_n 0, 1) := by decide +kernel
theorem dX7_are_38 : decode cX7_are 38 = .ok (.getfield 7, 3) := by decide +kernel
theorem dX7_are_41 : decode cX7_are 41 = .ok (.iload 5, 2) := by decide +kernel
theorem dX7_are_43 : decode cX7_are 43 = .ok (.iaload, 1) := by decide +kernel
theorem dX7_are_44 : decode cX7_are 44 = .ok (.invokestatic 44, 3) := by decide +kernel
theorem dX7_are_47 : decode cX7_are 47 = .ok (.ifCond .eq 7, 3) := by decide +kernel
theorem dX7_are_50 : decode cX7_are 50 = .ok (.iconst 1, 1) := by decide +kernel
theorem dX7_are_51 : decode cX7_are 51 = .ok (.goto 4, 3) := by decide +kernel
theorem dX7_are_54 : decode cX7_are 54 = .ok (.iconst 0, 1) := by decide +kernel
theorem dX7_are_55 : decode cX7_are 55 = .ok (.istore 4, 2) := by decide +kernel
theorem dX7_are_57 : decode cX7_are 57 = .ok (.iinc 5 1, 3) := by decide +kernel
theorem dX7_are_60 : decode cX7_are 60 = .ok (.goto (-54), 3) := by decide +kernel
theorem dX7_are_63 : decode cX7_are 63 = .ok (.iload 4, 2) := by decide +kernel
theorem dX7_are_65 : decode cX7_are 65 = .ok (.ireturn, 1) := by decide +kernel
theorem dX7_typeOf_0 : decode cX7_typeOf 0 = .ok (.iload_n 0, 1) := by decide +kernel
theorem dX7_typeOf_1 : decode cX7_typeOf 1 = .ok (.ifCond .ne 9, 3) := by decide +kernel
theorem dX7_typeOf_4 : decode cX7_typeOf 4 = .ok (.sipush 135, 3) := by decide +kernel
theorem dX7_typeOf_7 : decode cX7_typeOf 7 = .ok (.goto 73, 3) := by decide +kernel
theorem dX7_typeOf_10 : decode cX7_typeOf 10 = .ok (.iload_n 0, 1) := by decide +kernel
theorem dX7_typeOf_11 : decode cX7_typeOf 11 = .ok (.iconst 1, 1) := by decide +kernel
theorem dX7_typeOf_12 : decode cX7_typeOf 12 = .ok (.if_icmp .ne 9, 3) := by decide +kernel
theorem dX7_typeOf_15 : decode cX7_typeOf 15 = .ok (.sipush 153, 3) := by decide +kernel
theorem dX7_typeOf_18 : decode cX7_typeOf 18 = .ok (.goto 62, 3) := by decide +kernel
theorem dX7_typeOf_21 : decode cX7_typeOf 21 = .ok (.iload_n 0, 1) := by decide +kernel
theorem dX7_typeOf_22 : decode cX7_typeOf 22 = .ok (.iconst 2, 1) := by decide +kernel
theorem dX7_typeOf_23 : decode cX7_typeOf 23 = .ok (.if_icmp .ne 9, 3) := by decide +kernel
theorem dX7_typeOf_26 : decode cX7_typeOf 26 = .ok (.sipush 170, 3) := by decide +kernel
theorem dX7_typeOf_29 : decode cX7_typeOf 29 = .ok (.goto 51, 3) := by decide +kernel
theorem dX7_typeOf_32 : decode cX7_typeOf 32 = .ok (.iload_n 0, 1) := by decide +kernel
theorem dX7_typeOf_33 : decode cX7_typeOf 33 = .ok (.iconst 3, 1) := by decide +kernel
theorem dX7_typeOf_34 : decode cX7_typeOf 34 = .ok (.if_icmp .ne 9, 3) := by decide +kernel
theorem dX7_typeOf_37 : decode cX7_typeOf 37 = .ok (.sipush 180, 3) := by decide +kernel
theorem dX7_typeOf_40 : decode cX7_typeOf 40 = .ok (.goto 40, 3) := by decide +kernel
theorem dX7_typeOf_43 : decode cX7_typeOf 43 = .ok (.iload_n 0, 1) := by decide +kernel
theorem dX7_typeOf_44 : decode cX7_typeOf 44 = .ok (.iconst 4, 1) := by decide +kernel
theorem dX7_typeOf_45 : decode cX7_typeOf 45 = .ok (.if_icmp .ne 9, 3) := by decide +kernel
theorem dX7_typeOf_48 : decode cX7_typeOf 48 = .ok (.sipush 204, 3) := by decide +kernel
theorem dX7_typeOf_51 : decode cX7_typeOf 51 = .ok (.goto 29, 3) := by decide +kernel
theorem dX7_typeOf_54 : decode cX7_typeOf 54 = .ok (.iload_n 0, 1) := by decide +kernel
theorem dX7_typeOf_55 : decode cX7_typeOf 55 = .ok (.iconst 5, 1) := by decide +kernel
theorem dX7_typeOf_56 : decode cX7_typeOf 56 = .ok (.if_icmp .ne 9, 3) := by decide +kernel
theorem dX7_typeOf_59 : decode cX7_typeOf 59 = .ok (.sipush 210, 3) := by decide +kernel
theorem dX7_typeOf_62 : decode cX7_typeOf 62 = .ok (.goto 18, 3) := by decide +kernel
theorem dX7_typeOf_65 : decode cX7_typeOf 65 = .ok (.iload_n 0, 1) := by decide +kernel
theorem dX7_typeOf_66 : decode cX7_typeOf 66 = .ok (.bipush 6, 2) := by decide +kernel
theorem dX7_typeOf_68 : decode cX7_typeOf 68 = .ok (.if_icmp .ne 9, 3) := by decide +kernel
theorem dX7_typeOf_71 : decode cX7_typeOf 71 = .ok (.sipush 225, 3) := by decide +kernel
theorem dX7_typeOf_74 : decode cX7_typeOf 74 = .ok (.goto 6, 3) := by decide +kernel
theorem dX7_typeOf_77 : decode cX7_typeOf 77 = .ok (.sipush 255, 3) := by decide +kernel
theorem dX7_typeOf_80 : decode cX7_typeOf 80 = .ok (.ireturn, 1) := by decide +kernel
theorem dX7_setBits_0 : decode cX7_setBits 0 = .ok (.iconst 0, 1) := by decide +kernel
theorem dX7_setBits_1 : decode cX7_setBits 1 = .ok (.istore 4, 2) := by decide +kernel
theorem dX7_setBits_3 : decode cX7_setBits 3 = .ok (.iload 4, 2) := by decide +kernel
theorem dX7_setBits_5 : decode cX7_setBits 5 = .ok (.iload_n 3, 1) := by decide +kernel
theorem dX7_setBits_6 : decode cX7_setBits 6 = .ok (.if_icmp .ge 24, 3) := by decide +kernel
theorem dX7_setBits_9 : decode cX7_setBits 9 = .ok (.aload_n 0, 1) := by decide +kernel
theorem dX7_setBits_10 : decode cX7_setBits 10 = .ok (.getfield 20, 3) := by decide +kernel
theorem dX7_setBits_13 : decode cX7_setBits 13 = .ok (.iload_n 2, 1) := by decide +kernel
theorem dX7_setBits_14 : decode cX7_setBits 14 = .ok (.iload 4, 2) := by decide +kernel
theorem dX7_setBits_16 : decode cX7_setBits 16 = .ok (.iadd, 1) := by decide +kernel
theorem dX7_setBits_17 : decode cX7_setBits 17 = .ok (.iload_n 1, 1) := by decide +kernel
theorem dX7_setBits_18 : decode cX7_setBits 18 = .ok (.iload 4, 2) := by decide +kernel
theorem dX7_setBits_20 : decode cX7_setBits 20 = .ok (.ishr, 1) := by decide +kernel
theorem dX7_setBits_21 : decode cX7_setBits 21 = .ok (.iconst 1, 1) := by decide +kernel
theorem dX7_setBits_22 : decode cX7_setBits 22 = .ok (.iand, 1) := by decide +kernel
theorem dX7_setBits_23 : decode cX7_setBits 23 = .ok (.iastore, 1) := by decide +kernel
theorem dX7_setBits_24 : decode cX7_setBits 24 = .ok (.iinc 4 1, 3) := by decide +kernel
theorem dX7_setBits_27 : decode cX7_setBits 27 = .ok (.goto (-24), 3) := by decide +kernel
theorem dX7_setBits_30 : decode cX7_setBits 30 = .ok (.return_, 1) := by decide +kernel
theorem dX7_putCode_0 : decode cX7_putCode 0 = .ok (.aload_n 0, 1) := by decide +kernel
theorem dX7_putCode_1 : decode cX7_putCode 1 = .ok (.aload_n 0, 1) := by decide +kernel
theorem dX7_putCode_2 : decode cX7_putCode 2 = .ok (.getfield 7, 3) := by decide +kernel
theorem dX7_putCode_5 : decode cX7_putCode 5 = .ok (.iload_n 1, 1) := by decide +kernel
theorem dX7_putCode_6 : decode cX7_putCode 6 = .ok (.iaload, 1) := by decide +kernel
theorem dX7_putCode_7 : decode cX7_putCode 7 = .ok (.sipush 256, 3) := by decide +kernel
theorem dX7_putCode_10 : decode cX7_putCode 10 = .ok (.if_icmp .ne 7, 3) := by decide +kernel
theorem dX7_putCode_13 : decode cX7_putCode 13 = .ok (.iconst 0, 1) := by decide +kernel
theorem dX7_putCode_14 : decode cX7_putCode 14 = .ok (.goto 5, 3) := by decide +kernel
theorem dX7_putCode_17 : decode cX7_putCode 17 = .ok (.bipush 30, 2) := by decide +kernel
theorem dX7_putCode_19 : decode cX7_putCode 19 = .ok (.iload_n 2, 1) := by decide +kernel
theorem dX7_putCode_20 : decode cX7_putCode 20 = .ok (.bipush 7, 2) := by decide +kernel
theorem dX7_putCode_22 : decode cX7_putCode 22 = .ok (.invokevirtual 47, 3) := by decide +kernel
theorem dX7_putCode_25 : decode cX7_putCode 25 = .ok (.return_, 1) := by decide +kernel
theorem dX7_encode_0 : decode cX7_encode 0 = .ok (.iconst 0, 1) := by decide +kernel
theorem dX7_encode_1 : decode cX7_encode 1 = .ok (.istore_n 1, 1) := by decide +kernel
theorem dX7_encode_2 : decode cX7_encode 2 = .ok (.iload_n 1, 1) := by decide +kernel
theorem dX7_encode_3 : decode cX7_encode 3 = .ok (.bipush 66, 2) := by decide +kernel
theorem dX7_encode_5 : decode cX7_encode 5 = .ok (.if_icmp .ge 16, 3) := by decide +kernel
theorem dX7_encode_8 : decode cX7_encode 8 = .ok (.aload_n 0, 1) := by decide +kernel
theorem dX7_encode_9 : decode cX7_encode 9 = .ok (.getfield 20, 3) := by decide +kernel
theorem dX7_encode_12 : decode cX7_encode 12 = .ok (.iload_n 1, 1) := by decide +kernel
theorem dX7_encode_13 : decode cX7_encode 13 = .ok (.iconst 0, 1) := by decide +kernel
theorem dX7_encode_14 : decode cX7_encode 14 = .ok (.iastore, 1) := by decide +kernel
theorem dX7_encode_15 : decode cX7_encode 15 = .ok (.iinc 1 1, 3) := by decide +kernel
theorem dX7_encode_18 : decode cX7_encode 18 = .ok (.goto (-16), 3) := by decide +kernel
theorem dX7_encode_21 : decode cX7_encode 21 = .ok (.iconst (-1), 1) := by decide +kernel
theorem dX7_encode_22 : decode cX7_encode 22 = .ok (.istore_n 1, 1) := by decide +kernel
theorem dX7_encode_23 : decode cX7_encode 23 = .ok (.iconst 0, 1) := by decide +kernel
theorem dX7_encode_24 : decode cX7_encode 24 = .ok (.istore_n 2, 1) := by decide +kernel
theorem dX7_encode_25 : decode cX7_encode 25 = .ok (.iload_n 2, 1) := by decide +kernel
theorem dX7_encode_26 : decode cX7_encode 26 = .ok (.bipush 8, 2) := by decide +kernel
theorem dX7_encode_28 : decode cX7_encode 28 = .ok (.if_icmp .ge 31, 3) := by decide +kernel
theorem dX7_encode_31 : decode cX7_encode 31 = .ok (.aload_n 0, 1) := by decide +kernel
theorem dX7_encode_32 : decode cX7_encode 32 = .ok (.getfield 7, 3) := by decide +kernel
theorem dX7_encode_35 : decode cX7_encode 35 = .ok (.iload_n 2, 1) := by decide +kernel
theorem dX7_encode_36 : decode cX7_encode 36 = .ok (.iaload, 1) := by decide +kernel
theorem dX7_encode_37 : decode cX7_encode 37 = .ok (.sipush 258, 3) := by decide +kernel
theorem dX7_encode_40 : decode cX7_encode 40 = .ok (.if_icmp .ne 11, 3) := by decide +kernel
theorem dX7_encode_43 : decode cX7_encode 43 = .ok (.iload_n 1, 1) := by decide +kernel
theorem dX7_encode_44 : decode cX7_encode 44 = .ok (.ifCond .ge 7, 3) := by decide +kernel
theorem dX7_encode_47 : decode cX7_encode 47 = .ok (.iload_n 2, 1) := by decide +kernel
theorem dX7_encode_48 : decode cX7_encode 48 = .ok (.goto 4, 3) := by decide +kernel
theorem dX7_encode_51 : decode cX7_encode 51 = .ok (.iload_n 1, 1) := by decide +kernel
theorem dX7_encode_52 : decode cX7_encode 52 = .ok (.istore_n 1, 1) := by decide +kernel
theorem dX7_encode_53 : decode cX7_encode 53 = .ok (.iinc 2 1, 3) := by decide +kernel
theorem dX7_encode_56 : decode cX7_encode 56 = .ok (.goto (-31), 3) := by decide +kernel
theorem dX7_encode_59 : decode cX7_encode 59 = .ok (.aload_n 0, 1) := by decide +kernel
theorem dX7_encode_60 : decode cX7_encode 60 = .ok (.iconst 0, 1) := by decide +kernel
theorem dX7_encode_61 : decode cX7_encode 61 = .ok (.bipush 8, 2) := by decide +kernel
theorem dX7_encode_63 : decode cX7_encode 63 = .ok (.iconst 1, 1) := by decide +kernel
theorem dX7_encode_64 : decode cX7_encode 64 = .ok (.invokevirtual 51, 3) := by decide +kernel
theorem dX7_encode_67 : decode cX7_encode 67 = .ok (.ifCond .eq 43, 3) := by decide +kernel
theorem dX7_encode_70 : decode cX7_encode 70 = .ok (.aload_n 0, 1) := by decide +kernel
theorem dX7_encode_71 : decode cX7_encode 71 = .ok (.getfield 20, 3) := by decide +kernel
theorem dX7_encode_74 : decode cX7_encode 74 = .ok (.iconst 1, 1) := by decide +kernel
theorem dX7_encode_75 : decode cX7_encode 75 = .ok (.iconst 1, 1) := by decide +kernel
theorem dX7_encode_76 : decode cX7_encode 76 = .ok (.iastore, 1) := by decide +kernel
theorem dX7_encode_77 : decode cX7_encode 77 = .ok (.iconst 0, 1) := by decide +kernel
theorem dX7_encode_78 : decode cX7_encode 78 = .ok (.istore_n 2, 1) := by decide +kernel
theorem dX7_encode_79 : decode cX7_encode 79 = .ok (.iload_n 2, 1) := by decide +kernel
theorem dX7_encode_80 : decode cX7_encode 80 = .ok (.bipush 8, 2) := by decide +kernel
theorem dX7_encode_82 : decode cX7_encode 82 = .ok (.if_icmp .ge 27, 3) := by decide +kernel
theorem dX7_encode_85 : decode cX7_encode 85 = .ok (.aload_n 0, 1) := by decide +kernel
theorem dX7_encode_86 : decode cX7_encode 86 = .ok (.aload_n 0, 1) := by decide +kernel
theorem dX7_encode_87 : decode cX7_encode 87 = .ok (.getfield 7, 3) := by decide +kernel
theorem dX7_encode_90 : decode cX7_encode 90 = .ok (.iload_n 2, 1) := by decide +kernel
theorem dX7_encode_91 : decode cX7_encode 91 = .ok (.iaload, 1) := by decide +kernel
theorem dX7_encode_92 : decode cX7_encode 92 = .ok (.iconst 2, 1) := by decide +kernel
theorem dX7_encode_93 : decode cX7_encode 93 = .ok (.bipush 8, 2) := by decide +kernel
theorem dX7_encode_95 : decode cX7_encode 95 = .ok (.iload_n 2, 1) := by decide +kernel
theorem dX7_encode_96 : decode cX7_encode 96 = .ok (.imul, 1) := by decide +kernel
theorem dX7_encode_97 : decode cX7_encode 97 = .ok (.iadd, 1) := by decide +kernel
theorem dX7_encode_98 : decode cX7_encode 98 = .ok (.bipush 8, 2) := by decide +kernel
theorem dX7_encode_100 : decode cX7_encode 100 = .ok (.invokevirtual 47, 3) := by decide +kernel
theorem dX7_encode_103 : decode cX7_encode 103 = .ok (.iinc 2 1, 3) := by decide +kernel
theorem dX7_encode_106 : decode cX7_encode 106 = .ok (.goto (-27), 3) := by decide +kernel
theorem dX7_encode_109 : decode cX7_encode 109 = .ok (.return_, 1) := by decide +kernel
theorem dX7_encode_110 : decode cX7_encode 110 = .ok (.aload_n 0, 1) := by decide +kernel
theorem dX7_encode_111 : decode cX7_encode 111 = .ok (.getfield 20, 3) := by decide +kernel
theorem dX7_encode_114 : decode cX7_encode 114 = .ok (.iconst 0, 1) := by decide +kernel
theorem dX7_encode_115 : decode cX7_encode 115 = .ok (.iconst 1, 1) := by decide +kernel
theorem dX7_encode_116 : decode cX7_encode 116 = .ok (.iastore, 1) := by decide +kernel
theorem dX7_encode_117 : decode cX7_encode 117 = .ok (.aload_n 0, 1) := by decide +kernel
theorem dX7_encode_118 : decode cX7_encode 118 = .ok (.getfield 7, 3) := by decide +kernel
theorem dX7_encode_121 : decode cX7_encode 121 = .ok (.iconst 0, 1) := by decide +kernel
theorem dX7_encode_122 : decode cX7_encode 122 = .ok (.iaload, 1) := by decide +kernel
theorem dX7_encode_123 : decode cX7_encode 123 = .ok (.sipush 257, 3) := by decide +kernel
theorem dX7_encode_126 : decode cX7_encode 126 = .ok (.if_icmp .ne 58, 3) := by decide +kernel
theorem dX7_encode_129 : decode cX7_encode 129 = .ok (.aload_n 0, 1) := by decide +kernel
theorem dX7_encode_130 : decode cX7_encode 130 = .ok (.iconst 1, 1) := by decide +kernel
theorem dX7_encode_131 : decode cX7_encode 131 = .ok (.bipush 8, 2) := by decide +kernel
theorem dX7_encode_133 : decode cX7_encode 133 = .ok (.iconst 1, 1) := by decide +kernel
theorem dX7_encode_134 : decode cX7_encode 134 = .ok (.invokevirtual 51, 3) := by decide +kernel
theorem dX7_encode_137 : decode cX7_encode 137 = .ok (.ifCond .eq 47, 3) := by decide +kernel
theorem dX7_encode_140 : decode cX7_encode 140 = .ok (.aload_n 0, 1) := by decide +kernel
theorem dX7_encode_141 : decode cX7_encode 141 = .ok (.bipush 120, 2) := by decide +kernel
theorem dX7_encode_143 : decode cX7_encode 143 = .ok (.iconst 2, 1) := by decide +kernel
theorem dX7_encode_144 : decode cX7_encode 144 = .ok (.bipush 8, 2) := by decide +kernel
theorem dX7_encode_146 : decode cX7_encode 146 = .ok (.invokevirtual 47, 3) := by decide +kernel
theorem dX7_encode_149 : decode cX7_encode 149 = .ok (.iconst 1, 1) := by decide +kernel
theorem dX7_encode_150 : decode cX7_encode 150 = .ok (.istore_n 2, 1) := by decide +kernel
theorem dX7_encode_151 : decode cX7_encode 151 = .ok (.iload_n 2, 1) := by decide +kernel
theorem dX7_encode_152 : decode cX7_encode 152 = .ok (.bipush 8, 2) := by decide +kernel
theorem dX7_encode_154 : decode cX7_encode 154 = .ok (.if_icmp .ge 27, 3) := by decide +kernel
theorem dX7_encode_157 : decode cX7_encode 157 = .ok (.aload_n 0, 1) := by decide +kernel
theorem dX7_encode_158 : decode cX7_encode 158 = .ok (.aload_n 0, 1) := by decide +kernel
theorem dX7_encode_159 : decode cX7_encode 159 = .ok (.getfield 7, 3) := by decide +kernel
theorem dX7_encode_162 : decode cX7_encode 162 = .ok (.iload_n 2, 1) := by decide +kernel
theorem dX7_encode_163 : decode cX7_encode 163 = .ok (.iaload, 1) := by decide +kernel
theorem dX7_encode_164 : decode cX7_encode 164 = .ok (.iconst 2, 1) := by decide +kernel
theorem dX7_encode_165 : decode cX7_encode 165 = .ok (.bipush 8, 2) := by decide +kernel
theorem dX7_encode_167 : decode cX7_encode 167 = .ok (.iload_n 2, 1) := by decide +kernel
theorem dX7_encode_168 : decode cX7_encode 168 = .ok (.imul, 1) := by decide +kernel
theorem dX7_encode_169 : decode cX7_encode 169 = .ok (.iadd, 1) := by decide +kernel
theorem dX7_encode_170 : decode cX7_encode 170 = .ok (.bipush 8, 2) := by decide +kernel
theorem dX7_encode_172 : decode cX7_encode 172 = .ok (.invokevirtual 47, 3) := by decide +kernel
theorem dX7_encode_175 : decode cX7_encode 175 = .ok (.iinc 2 1, 3) := by decide +kernel
theorem dX7_encode_178 : decode cX7_encode 178 = .ok (.goto (-27), 3) := by decide +kernel
theorem dX7_encode_181 : decode cX7_encode 181 = .ok (.goto 275, 3) := by decide +kernel
theorem dX7_encode_184 : decode cX7_encode 184 = .ok (.aload_n 0, 1) := by decide +kernel
theorem dX7_encode_185 : decode cX7_encode 185 = .ok (.getfield 7, 3) := by decide +kernel
theorem dX7_encode_188 : decode cX7_encode 188 = .ok (.iconst 4, 1) := by decide +kernel
theorem dX7_encode_189 : decode cX7_encode 189 = .ok (.iaload, 1) := by decide +kernel
theorem dX7_encode_190 : decode cX7_encode 190 = .ok (.sipush 257, 3) := by decide +kernel
theorem dX7_encode_193 : decode cX7_encode 193 = .ok (.if_icmp .ne 93, 3) := by decide +kernel
theorem dX7_encode_196 : decode cX7_encode 196 = .ok (.aload_n 0, 1) := by decide +kernel
theorem dX7_encode_197 : decode cX7_encode 197 = .ok (.iconst 0, 1) := by decide +kernel
theorem dX7_encode_198 : decode cX7_encode 198 = .ok (.iconst 4, 1) := by decide +kernel
theorem dX7_encode_199 : decode cX7_encode 199 = .ok (.iconst 0, 1) := by decide +kernel
theorem dX7_encode_200 : decode cX7_encode 200 = .ok (.invokevirtual 51, 3) := by decide +kernel
theorem dX7_encode_203 : decode cX7_encode 203 = .ok (.ifCond .eq 83, 3) := by decide +kernel
theorem dX7_encode_206 : decode cX7_encode 206 = .ok (.aload_n 0, 1) := by decide +kernel
theorem dX7_encode_207 : decode cX7_encode 207 = .ok (.iconst 5, 1) := by decide +kernel
theorem dX7_encode_208 : decode cX7_encode 208 = .ok (.bipush 8, 2) := by decide +kernel
theorem dX7_encode_210 : decode cX7_encode 210 = .ok (.iconst 1, 1) := by decide +kernel
theorem dX7_encode_211 : decode cX7_encode 211 = .ok (.invokevirtual 51, 3) := by decide +kernel
theorem dX7_encode_214 : decode cX7_encode 214 = .ok (.ifCond .eq 72, 3) := by decide +kernel
theorem dX7_encode_217 : decode cX7_encode 217 = .ok (.aload_n 0, 1) := by decide +kernel
theorem dX7_encode_218 : decode cX7_encode 218 = .ok (.bipush 51, 2) := by decide +kernel
theorem dX7_encode_220 : decode cX7_encode 220 = .ok (.iconst 2, 1) := by decide +kernel
theorem dX7_encode_221 : decode cX7_encode 221 = .ok (.bipush 8, 2) := by decide +kernel
theorem dX7_encode_223 : decode cX7_encode 223 = .ok (.invokevirtual 47, 3) := by decide +kernel
theorem dX7_encode_226 : decode cX7_encode 226 = .ok (.iconst 0, 1) := by decide +kernel
theorem dX7_encode_227 : decode cX7_encode 227 = .ok (.istore_n 2, 1) := by decide +kernel
theorem dX7_encode_228 : decode cX7_encode 228 = .ok (.iload_n 2, 1) := by decide +kernel
theorem dX7_encode_229 : decode cX7_encode 229 = .ok (.iconst 4, 1) := by decide +kernel
theorem dX7_encode_230 : decode cX7_encode 230 = .ok (.if_icmp .ge 21, 3) := by decide +kernel
theorem dX7_encode_233 : decode cX7_encode 233 = .ok (.aload_n 0, 1) := by decide +kernel
theorem dX7_encode_234 : decode cX7_encode 234 = .ok (.iload_n 2, 1) := by decide +kernel
theorem dX7_encode_235 : decode cX7_encode 235 = .ok (.bipush 10, 2) := by decide +kernel
theorem dX7_encode_237 : decode cX7_encode 237 = .ok (.bipush 7, 2) := by decide +kernel
theorem dX7_encode_239 : decode cX7_encode 239 = .ok (.iload_n 2, 1) := by decide +kernel
theorem dX7_encode_240 : decode cX7_encode 240 = .ok (.imul, 1) := by decide +kernel
theorem dX7_encode_241 : decode cX7_encode 241 = .ok (.iadd, 1) := by decide +kernel
theorem dX7_encode_242 : decode cX7_encode 242 = .ok (.invokevirtual 55, 3) := by decide +kernel
theorem dX7_encode_245 : decode cX7_encode 245 = .ok (.iinc 2 1, 3) := by decide +kernel
theorem dX7_encode_248 : decode cX7_encode 248 = .ok (.goto (-20), 3) := by decide +kernel
theorem dX7_encode_251 : decode cX7_encode 251 = .ok (.iconst 5, 1) := by decide +kernel
theorem dX7_encode_252 : decode cX7_encode 252 = .ok (.istore_n 2, 1) := by decide +kernel
theorem dX7_encode_253 : decode cX7_encode 253 = .ok (.iload_n 2, 1) := by decide +kernel
theorem dX7_encode_254 : decode cX7_encode 254 = .ok (.bipush 8, 2) := by decide +kernel
theorem dX7_encode_256 : decode cX7_encode 256 = .ok (.if_icmp .ge 27, 3) := by decide +kernel
theorem dX7_encode_259 : decode cX7_encode 259 = .ok (.aload_n 0, 1) := by decide +kernel
theorem dX7_encode_260 : decode cX7_encode 260 = .ok (.aload_n 0, 1) := by decide +kernel
theorem dX7_encode_261 : decode cX7_encode 261 = .ok (.getfield 7, 3) := by decide +kernel
theorem dX7_encode_264 : decode cX7_encode 264 = .ok (.iload_n 2, 1) := by decide +kernel
theorem dX7_encode_265 : decode cX7_encode 265 = .ok (.iaload, 1) := by decide +kernel
theorem dX7_encode_266 : decode cX7_encode 266 = .ok (.iconst 2, 1) := by decide +kernel
theorem dX7_encode_267 : decode cX7_encode 267 = .ok (.bipush 8, 2) := by decide +kernel
theorem dX7_encode_269 : decode cX7_encode 269 = .ok (.iload_n 2, 1) := by decide +kernel
theorem dX7_encode_270 : decode cX7_encode 270 = .ok (.imul, 1) := by decide +kernel
theorem dX7_encode_271 : decode cX7_encode 271 = .ok (.iadd, 1) := by decide +kernel
theorem dX7_encode_272 : decode cX7_encode 272 = .ok (.bipush 8, 2) := by decide +kernel
theorem dX7_encode_274 : decode cX7_encode 274 = .ok (.invokevirtual 47, 3) := by decide +kernel
theorem dX7_encode_277 : decode cX7_encode 277 = .ok (.iinc 2 1, 3) := by decide +kernel
theorem dX7_encode_280 : decode cX7_encode 280 = .ok (.goto (-27), 3) := by decide +kernel
theorem dX7_encode_283 : decode cX7_encode 283 = .ok (.goto 173, 3) := by decide +kernel
theorem dX7_encode_286 : decode cX7_encode 286 = .ok (.iload_n 1, 1) := by decide +kernel
theorem dX7_encode_287 : decode cX7_encode 287 = .ok (.ifCond .lt 103, 3) := by decide +kernel
theorem dX7_encode_290 : decode cX7_encode 290 = .ok (.aload_n 0, 1) := by decide +kernel
theorem dX7_encode_291 : decode cX7_encode 291 = .ok (.iconst 0, 1) := by decide +kernel
theorem dX7_encode_292 : decode cX7_encode 292 = .ok (.iload_n 1, 1) := by decide +kernel
theorem dX7_encode_293 : decode cX7_encode 293 = .ok (.iconst 1, 1) := by decide +kernel
theorem dX7_encode_294 : decode cX7_encode 294 = .ok (.invokevirtual 51, 3) := by decide +kernel
theorem dX7_encode_297 : decode cX7_encode 297 = .ok (.ifCond .eq 93, 3) := by decide +kernel
theorem dX7_encode_300 : decode cX7_encode 300 = .ok (.aload_n 0, 1) := by decide +kernel
theorem dX7_encode_301 : decode cX7_encode 301 = .ok (.iload_n 1, 1) := by decide +kernel
theorem dX7_encode_302 : decode cX7_encode 302 = .ok (.iconst 1, 1) := by decide +kernel
theorem dX7_encode_303 : decode cX7_encode 303 = .ok (.iadd, 1) := by decide +kernel
theorem dX7_encode_304 : decode cX7_encode 304 = .ok (.bipush 8, 2) := by decide +kernel
theorem dX7_encode_306 : decode cX7_encode 306 = .ok (.iconst 0, 1) := by decide +kernel
theorem dX7_encode_307 : decode cX7_encode 307 = .ok (.invokevirtual 51, 3) := by decide +kernel
theorem dX7_encode_310 : decode cX7_encode 310 = .ok (.ifCond .eq 80, 3) := by decide +kernel
theorem dX7_encode_313 : decode cX7_encode 313 = .ok (.aload_n 0, 1) := by decide +kernel
theorem dX7_encode_314 : decode cX7_encode 314 = .ok (.iload_n 1, 1) := by decide +kernel
theorem dX7_encode_315 : decode cX7_encode 315 = .ok (.invokestatic 59, 3) := by decide +kernel
theorem dX7_encode_318 : decode cX7_encode 318 = .ok (.iconst 2, 1) := by decide +kernel
theorem dX7_encode_319 : decode cX7_encode 319 = .ok (.bipush 8, 2) := by decide +kernel
theorem dX7_encode_321 : decode cX7_encode 321 = .ok (.invokevirtual 47, 3) := by decide +kernel
theorem dX7_encode_324 : decode cX7_encode 324 = .ok (.iconst 0, 1) := by decide +kernel
theorem dX7_encode_325 : decode cX7_encode 325 = .ok (.istore_n 2, 1) := by decide +kernel
theorem dX7_encode_326 : decode cX7_encode 326 = .ok (.iload_n 2, 1) := by decide +kernel
theorem dX7_encode_327 : decode cX7_encode 327 = .ok (.iload_n 1, 1) := by decide +kernel
theorem dX7_encode_328 : decode cX7_encode 328 = .ok (.if_icmp .ge 28, 3) := by decide +kernel
theorem dX7_encode_331 : decode cX7_encode 331 = .ok (.aload_n 0, 1) := by decide +kernel
theorem dX7_encode_332 : decode cX7_encode 332 = .ok (.aload_n 0, 1) := by decide +kernel
theorem dX7_encode_333 : decode cX7_encode 333 = .ok (.getfield 7, 3) := by decide +kernel
theorem dX7_encode_336 : decode cX7_encode 336 = .ok (.iload_n 2, 1) := by decide +kernel
theorem dX7_encode_337 : decode cX7_encode 337 = .ok (.iaload, 1) := by decide +kernel
theorem dX7_encode_338 : decode cX7_encode 338 = .ok (.bipush 10, 2) := by decide +kernel
theorem dX7_encode_340 : decode cX7_encode 340 = .ok (.bipush 8, 2) := by decide +kernel
theorem dX7_encode_342 : decode cX7_encode 342 = .ok (.iload_n 2, 1) := by decide +kernel
theorem dX7_encode_343 : decode cX7_encode 343 = .ok (.imul, 1) := by decide +kernel
theorem dX7_encode_344 : decode cX7_encode 344 = .ok (.iadd, 1) := by decide +kernel
theorem dX7_encode_345 : decode cX7_encode 345 = .ok (.bipush 8, 2) := by decide +kernel
theorem dX7_encode_347 : decode cX7_encode 347 = .ok (.invokevirtual 47, 3) := by decide +kernel
theorem dX7_encode_350 : decode cX7_encode 350 = .ok (.iinc 2 1, 3) := by decide +kernel
theorem dX7_encode_353 : decode cX7_encode 353 = .ok (.goto (-27), 3) := by decide +kernel
theorem dX7_encode_356 : decode cX7_encode 356 = .ok (.iload_n 1, 1) := by decide +kernel
theorem dX7_encode_357 : decode cX7_encode 357 = .ok (.iconst 1, 1) := by decide +kernel
theorem dX7_encode_358 : decode cX7_encode 358 = .ok (.iadd, 1) := by decide +kernel
theorem dX7_encode_359 : decode cX7_encode 359 = .ok (.istore_n 2, 1) := by decide +kernel
theorem dX7_encode_360 : decode cX7_encode 360 = .ok (.iload_n 2, 1) := by decide +kernel
theorem dX7_encode_361 : decode cX7_encode 361 = .ok (.bipush 8, 2) := by decide +kernel
theorem dX7_encode_363 : decode cX7_encode 363 = .ok (.if_icmp .ge 24, 3) := by decide +kernel
theorem dX7_encode_366 : decode cX7_encode 366 = .ok (.aload_n 0, 1) := by decide +kernel
theorem dX7_encode_367 : decode cX7_encode 367 = .ok (.iload_n 2, 1) := by decide +kernel
theorem dX7_encode_368 : decode cX7_encode 368 = .ok (.bipush 66, 2) := by decide +kernel
theorem dX7_encode_370 : decode cX7_encode 370 = .ok (.bipush 7, 2) := by decide +kernel
theorem dX7_encode_372 : decode cX7_encode 372 = .ok (.bipush 8, 2) := by decide +kernel
theorem dX7_encode_374 : decode cX7_encode 374 = .ok (.iload_n 2, 1) := by decide +kernel
theorem dX7_encode_375 : decode cX7_encode 375 = .ok (.isub, 1) := by decide +kernel
theorem dX7_encode_376 : decode cX7_encode 376 = .ok (.imul, 1) := by decide +kernel
theorem dX7_encode_377 : decode cX7_encode 377 = .ok (.isub, 1) := by decide +kernel
theorem dX7_encode_378 : decode cX7_encode 378 = .ok (.invokevirtual 55, 3) := by decide +kernel
theorem dX7_encode_381 : decode cX7_encode 381 = .ok (.iinc 2 1, 3) := by decide +kernel
theorem dX7_encode_384 : decode cX7_encode 384 = .ok (.goto (-24), 3) := by decide +kernel
theorem dX7_encode_387 : decode cX7_encode 387 = .ok (.goto 69, 3) := by decide +kernel
theorem dX7_encode_390 : decode cX7_encode 390 = .ok (.aload_n 0, 1) := by decide +kernel
theorem dX7_encode_391 : decode cX7_encode 391 = .ok (.iconst 0, 1) := by decide +kernel
theorem dX7_encode_392 : decode cX7_encode 392 = .ok (.bipush 8, 2) := by decide +kernel
theorem dX7_encode_394 : decode cX7_encode 394 = .ok (.iconst 0, 1) := by decide +kernel
theorem dX7_encode_395 : decode cX7_encode 395 = .ok (.invokevirtual 51, 3) := by decide +kernel
theorem dX7_encode_398 : decode cX7_encode 398 = .ok (.istore_n 2, 1) := by decide +kernel
theorem dX7_encode_399 : decode cX7_encode 399 = .ok (.aload_n 0, 1) := by decide +kernel
theorem dX7_encode_400 : decode cX7_encode 400 = .ok (.bipush 30, 2) := by decide +kernel
theorem dX7_encode_402 : decode cX7_encode 402 = .ok (.iconst 2, 1) := by decide +kernel
theorem dX7_encode_403 : decode cX7_encode 403 = .ok (.bipush 8, 2) := by decide +kernel
theorem dX7_encode_405 : decode cX7_encode 405 = .ok (.invokevirtual 47, 3) := by decide +kernel
theorem dX7_encode_408 : decode cX7_encode 408 = .ok (.iconst 0, 1) := by decide +kernel
theorem dX7_encode_409 : decode cX7_encode 409 = .ok (.istore_n 3, 1) := by decide +kernel
theorem dX7_encode_410 : decode cX7_encode 410 = .ok (.iload_n 3, 1) := by decide +kernel
theorem dX7_encode_411 : decode cX7_encode 411 = .ok (.bipush 8, 2) := by decide +kernel
theorem dX7_encode_413 : decode cX7_encode 413 = .ok (.if_icmp .ge 43, 3) := by decide +kernel
theorem dX7_encode_416 : decode cX7_encode 416 = .ok (.aload_n 0, 1) := by decide +kernel
theorem dX7_encode_417 : decode cX7_encode 417 = .ok (.getfield 7, 3) := by decide +kernel
theorem dX7_encode_420 : decode cX7_encode 420 = .ok (.iload_n 3, 1) := by decide +kernel
theorem dX7_encode_421 : decode cX7_encode 421 = .ok (.iload_n 2, 1) := by decide +kernel
theorem dX7_encode_422 : decode cX7_encode 422 = .ok (.ifCond .eq 12, 3) := by decide +kernel
theorem dX7_encode_425 : decode cX7_encode 425 = .ok (.aload_n 0, 1) := by decide +kernel
theorem dX7_encode_426 : decode cX7_encode 426 = .ok (.getfield 7, 3) := by decide +kernel
theorem dX7_encode_429 : decode cX7_encode 429 = .ok (.iload_n 3, 1) := by decide +kernel
theorem dX7_encode_430 : decode cX7_encode 430 = .ok (.iaload, 1) := by decide +kernel
theorem dX7_encode_431 : decode cX7_encode 431 = .ok (.goto 6, 3) := by decide +kernel
theorem dX7_encode_434 : decode cX7_encode 434 = .ok (.sipush 259, 3) := by decide +kernel
theorem dX7_encode_437 : decode cX7_encode 437 = .ok (.iastore, 1) := by decide +kernel
theorem dX7_encode_438 : decode cX7_encode 438 = .ok (.aload_n 0, 1) := by decide +kernel
theorem dX7_encode_439 : decode cX7_encode 439 = .ok (.iload_n 3, 1) := by decide +kernel
theorem dX7_encode_440 : decode cX7_encode 440 = .ok (.bipush 10, 2) := by decide +kernel
theorem dX7_encode_442 : decode cX7_encode 442 = .ok (.bipush 7, 2) := by decide +kernel
theorem dX7_encode_444 : decode cX7_encode 444 = .ok (.iload_n 3, 1) := by decide +kernel
theorem dX7_encode_445 : decode cX7_encode 445 = .ok (.imul, 1) := by decide +kernel
theorem dX7_encode_446 : decode cX7_encode 446 = .ok (.iadd, 1) := by decide +kernel
theorem dX7_encode_447 : decode cX7_encode 447 = .ok (.invokevirtual 55, 3) := by decide +kernel
theorem dX7_encode_450 : decode cX7_encode 450 = .ok (.iinc 3 1, 3) := by decide +kernel
theorem dX7_encode_453 : decode cX7_encode 453 = .ok (.goto (-43), 3) := by decide +kernel
theorem dX7_encode_456 : decode cX7_encode 456 = .ok (.return_, 1) := by decide +kernel
theorem dX7_send_0 : decode cX7_send 0 = .ok (.aload_n 0, 1) := by decide +kernel
theorem dX7_send_1 : decode cX7_send 1 = .ok (.invokevirtual 63, 3) := by decide +kernel
theorem dX7_send_4 : decode cX7_send 4 = .ok (.iconst 0, 1) := by decide +kernel
theorem dX7_send_5 : decode cX7_send 5 = .ok (.istore_n 1, 1) := by decide +kernel
theorem dX7_send_6 : decode cX7_send 6 = .ok (.iload_n 1, 1) := by decide +kernel
theorem dX7_send_7 : decode cX7_send 7 = .ok (.bipush 66, 2) := by decide +kernel
theorem dX7_send_9 : decode cX7_send 9 = .ok (.if_icmp .ge 67, 3) := by decide +kernel
theorem dX7_send_12 : decode cX7_send 12 = .ok (.iload_n 1, 1) := by decide +kernel
theorem dX7_send_13 : decode cX7_send 13 = .ok (.iconst 2, 1) := by decide +kernel
theorem dX7_send_14 : decode cX7_send 14 = .ok (.if_icmp .ge 12, 3) := by decide +kernel
theorem dX7_send_17 : decode cX7_send 17 = .ok (.aload_n 0, 1) := by decide +kernel
theorem dX7_send_18 : decode cX7_send 18 = .ok (.getfield 20, 3) := by decide +kernel
theorem dX7_send_21 : decode cX7_send 21 = .ok (.iload_n 1, 1) := by decide +kernel
theorem dX7_send_22 : decode cX7_send 22 = .ok (.iaload, 1) := by decide +kernel
theorem dX7_send_23 : decode cX7_send 23 = .ok (.goto 14, 3) := by decide +kernel
theorem dX7_send_26 : decode cX7_send 26 = .ok (.aload_n 0, 1) := by decide +kernel
theorem dX7_send_27 : decode cX7_send 27 = .ok (.iconst 0, 1) := by decide +kernel
theorem dX7_send_28 : decode cX7_send 28 = .ok (.aload_n 0, 1) := by decide +kernel
theorem dX7_send_29 : decode cX7_send 29 = .ok (.getfield 20, 3) := by decide +kernel
theorem dX7_send_32 : decode cX7_send 32 = .ok (.iload_n 1, 1) := by decide +kernel
theorem dX7_send_33 : decode cX7_send 33 = .ok (.iaload, 1) := by decide +kernel
theorem dX7_send_34 : decode cX7_send 34 = .ok (.invokevirtual 66, 3) := by decide +kernel
theorem dX7_send_37 : decode cX7_send 37 = .ok (.istore_n 2, 1) := by decide +kernel
theorem dX7_send_38 : decode cX7_send 38 = .ok (.iload_n 1, 1) := by decide +kernel
theorem dX7_send_39 : decode cX7_send 39 = .ok (.iconst 1, 1) := by decide +kernel
theorem dX7_send_40 : decode cX7_send 40 = .ok (.if_icmp .le 9, 3) := by decide +kernel
theorem dX7_send_43 : decode cX7_send 43 = .ok (.aload_n 0, 1) := by decide +kernel
theorem dX7_send_44 : decode cX7_send 44 = .ok (.iconst 0, 1) := by decide +kernel
theorem dX7_send_45 : decode cX7_send 45 = .ok (.iload_n 2, 1) := by decide +kernel
theorem dX7_send_46 : decode cX7_send 46 = .ok (.invokevirtual 70, 3) := by decide +kernel
theorem dX7_send_49 : decode cX7_send 49 = .ok (.aload_n 0, 1) := by decide +kernel
theorem dX7_send_50 : decode cX7_send 50 = .ok (.getfield 13, 3) := by decide +kernel
theorem dX7_send_53 : decode cX7_send 53 = .ok (.aload_n 0, 1) := by decide +kernel
theorem dX7_send_54 : decode cX7_send 54 = .ok (.getfield 29, 3) := by decide +kernel
theorem dX7_send_57 : decode cX7_send 57 = .ok (.iload_n 2, 1) := by decide +kernel
theorem dX7_send_58 : decode cX7_send 58 = .ok (.i2b, 1) := by decide +kernel
theorem dX7_send_59 : decode cX7_send 59 = .ok (.bastore, 1) := by decide +kernel
theorem dX7_send_60 : decode cX7_send 60 = .ok (.aload_n 0, 1) := by decide +kernel
theorem dX7_send_61 : decode cX7_send 61 = .ok (.dup, 1) := by decide +kernel
theorem dX7_send_62 : decode cX7_send 62 = .ok (.getfield 29, 3) := by decide +kernel
theorem dX7_send_65 : decode cX7_send 65 = .ok (.iconst 1, 1) := by decide +kernel
theorem dX7_send_66 : decode cX7_send 66 = .ok (.iadd, 1) := by decide +kernel
theorem dX7_send_67 : decode cX7_send 67 = .ok (.putfield 29, 3) := by decide +kernel
theorem dX7_send_70 : decode cX7_send 70 = .ok (.iinc 1 1, 3) := by decide +kernel
theorem dX7_send_73 : decode cX7_send 73 = .ok (.goto (-67), 3) := by decide +kernel
theorem dX7_send_76 : decode cX7_send 76 = .ok (.aload_n 0, 1) := by decide +kernel
theorem dX7_send_77 : decode cX7_send 77 = .ok (.iconst 0, 1) := by decide +kernel
theorem dX7_send_78 : decode cX7_send 78 = .ok (.putfield 73, 3) := by decide +kernel
theorem dX7_send_81 : decode cX7_send 81 = .ok (.return_, 1) := by decide +kernel
theorem dX7_put_0 : decode cX7_put 0 = .ok (.aload_n 0, 1) := by decide +kernel
theorem dX7_put_1 : decode cX7_put 1 = .ok (.iconst 0, 1) := by decide +kernel
theorem dX7_put_2 : decode cX7_put 2 = .ok (.putfield 33, 3) := by decide +kernel
theorem dX7_put_5 : decode cX7_put 5 = .ok (.iload_n 1, 1) := by decide +kernel
theorem dX7_put_6 : decode cX7_put 6 = .ok (.ifCond .lt 10, 3) := by decide +kernel
theorem dX7_put_9 : decode cX7_put 9 = .ok (.iload_n 1, 1) := by decide +kernel
theorem dX7_put_10 : decode cX7_put 10 = .ok (.sipush 259, 3) := by decide +kernel
theorem dX7_put_13 : decode cX7_put 13 = .ok (.if_icmp .le 6, 3) := by decide +kernel
theorem dX7_put_16 : decode cX7_put 16 = .ok (.bipush (-12), 2) := by decide +kernel
theorem dX7_put_18 : decode cX7_put 18 = .ok (.ireturn, 1) := by decide +kernel
theorem dX7_put_19 : decode cX7_put 19 = .ok (.aload_n 0, 1) := by decide +kernel
theorem dX7_put_20 : decode cX7_put 20 = .ok (.getfield 73, 3) := by decide +kernel
theorem dX7_put_23 : decode cX7_put 23 = .ok (.bipush 7, 2) := by decide +kernel
theorem dX7_put_25 : decode cX7_put 25 = .ok (.if_icmp .ne 16, 3) := by decide +kernel
theorem dX7_put_28 : decode cX7_put 28 = .ok (.aload_n 0, 1) := by decide +kernel
theorem dX7_put_29 : decode cX7_put 29 = .ok (.getfield 29, 3) := by decide +kernel
theorem dX7_put_32 : decode cX7_put 32 = .ok (.sipush 9000, 3) := by decide +kernel
theorem dX7_put_35 : decode cX7_put 35 = .ok (.if_icmp .lt 6, 3) := by decide +kernel
theorem dX7_put_38 : decode cX7_put 38 = .ok (.bipush (-14), 2) := by decide +kernel
theorem dX7_put_40 : decode cX7_put 40 = .ok (.ireturn, 1) := by decide +kernel
theorem dX7_put_41 : decode cX7_put 41 = .ok (.aload_n 0, 1) := by decide +kernel
theorem dX7_put_42 : decode cX7_put 42 = .ok (.getfield 7, 3) := by decide +kernel
theorem dX7_put_45 : decode cX7_put 45 = .ok (.aload_n 0, 1) := by decide +kernel
theorem dX7_put_46 : decode cX7_put 46 = .ok (.getfield 73, 3) := by decide +kernel
theorem dX7_put_49 : decode cX7_put 49 = .ok (.iload_n 1, 1) := by decide +kernel
theorem dX7_put_50 : decode cX7_put 50 = .ok (.iastore, 1) := by decide +kernel
theorem dX7_put_51 : decode cX7_put 51 = .ok (.aload_n 0, 1) := by decide +kernel
theorem dX7_put_52 : decode cX7_put 52 = .ok (.dup, 1) := by decide +kernel
theorem dX7_put_53 : decode cX7_put 53 = .ok (.getfield 73, 3) := by decide +kernel
theorem dX7_put_56 : decode cX7_put 56 = .ok (.iconst 1, 1) := by decide +kernel
theorem dX7_put_57 : decode cX7_put 57 = .ok (.iadd, 1) := by decide +kernel
theorem dX7_put_58 : decode cX7_put 58 = .ok (.putfield 73, 3) := by decide +kernel
theorem dX7_put_61 : decode cX7_put 61 = .ok (.aload_n 0, 1) := by decide +kernel
theorem dX7_put_62 : decode cX7_put 62 = .ok (.getfield 73, 3) := by decide +kernel
theorem dX7_put_65 : decode cX7_put 65 = .ok (.bipush 8, 2) := by decide +kernel
theorem dX7_put_67 : decode cX7_put 67 = .ok (.if_icmp .ne 7, 3) := by decide +kernel
theorem dX7_put_70 : decode cX7_put 70 = .ok (.aload_n 0, 1) := by decide +kernel
theorem dX7_put_71 : decode cX7_put 71 = .ok (.invokevirtual 76, 3) := by decide +kernel
theorem dX7_put_74 : decode cX7_put 74 = .ok (.aload_n 0, 1) := by decide +kernel
theorem dX7_put_75 : decode cX7_put 75 = .ok (.getfield 73, 3) := by decide +kernel
theorem dX7_put_78 : decode cX7_put 78 = .ok (.ireturn, 1) := by decide +kernel
theorem dX7_word_0 : decode cX7_word 0 = .ok (.aload_n 0, 1) := by decide +kernel
theorem dX7_word_1 : decode cX7_word 1 = .ok (.iconst 0, 1) := by decide +kernel
theorem dX7_word_2 : decode cX7_word 2 = .ok (.putfield 33, 3) := by decide +kernel
theorem dX7_word_5 : decode cX7_word 5 = .ok (.aload_n 0, 1) := by decide +kernel
theorem dX7_word_6 : decode cX7_word 6 = .ok (.getfield 29, 3) := by decide +kernel
theorem dX7_word_9 : decode cX7_word 9 = .ok (.sipush 9000, 3) := by decide +kernel
theorem dX7_word_12 : decode cX7_word 12 = .ok (.if_icmp .lt 6, 3) := by decide +kernel
theorem dX7_word_15 : decode cX7_word 15 = .ok (.bipush (-14), 2) := by decide +kernel
theorem dX7_word_17 : decode cX7_word 17 = .ok (.ireturn, 1) := by decide +kernel
theorem dX7_word_18 : decode cX7_word 18 = .ok (.iconst 0, 1) := by decide +kernel
theorem dX7_word_19 : decode cX7_word 19 = .ok (.istore_n 3, 1) := by decide +kernel
theorem dX7_word_20 : decode cX7_word 20 = .ok (.iload_n 3, 1) := by decide +kernel
theorem dX7_word_21 : decode cX7_word 21 = .ok (.bipush 8, 2) := by decide +kernel
theorem dX7_word_23 : decode cX7_word 23 = .ok (.if_icmp .ge 38, 3) := by decide +kernel
theorem dX7_word_26 : decode cX7_word 26 = .ok (.aload_n 0, 1) := by decide +kernel
theorem dX7_word_27 : decode cX7_word 27 = .ok (.iload_n 3, 1) := by decide +kernel
theorem dX7_word_28 : decode cX7_word 28 = .ok (.iconst 4, 1) := by decide +kernel
theorem dX7_word_29 : decode cX7_word 29 = .ok (.if_icmp .ge 7, 3) := by decide +kernel
theorem dX7_word_32 : decode cX7_word 32 = .ok (.iload_n 1, 1) := by decide +kernel
theorem dX7_word_33 : decode cX7_word 33 = .ok (.goto 4, 3) := by decide +kernel
theorem dX7_word_36 : decode cX7_word 36 = .ok (.iload_n 2, 1) := by decide +kernel
theorem dX7_word_37 : decode cX7_word 37 = .ok (.bipush 24, 2) := by decide +kernel
theorem dX7_word_39 : decode cX7_word 39 = .ok (.bipush 8, 2) := by decide +kernel
theorem dX7_word_41 : decode cX7_word 41 = .ok (.iload_n 3, 1) := by decide +kernel
theorem dX7_word_42 : decode cX7_word 42 = .ok (.iconst 4, 1) := by decide +kernel
theorem dX7_word_43 : decode cX7_word 43 = .ok (.irem, 1) := by decide +kernel
theorem dX7_word_44 : decode cX7_word 44 = .ok (.imul, 1) := by decide +kernel
theorem dX7_word_45 : decode cX7_word 45 = .ok (.isub, 1) := by decide +kernel
theorem dX7_word_46 : decode cX7_word 46 = .ok (.ishr, 1) := by decide +kernel
theorem dX7_word_47 : decode cX7_word 47 = .ok (.sipush 255, 3) := by decide +kernel
theorem dX7_word_50 : decode cX7_word 50 = .ok (.iand, 1) := by decide +kernel
theorem dX7_word_51 : decode cX7_word 51 = .ok (.invokevirtual 79, 3) := by decide +kernel
theorem dX7_word_54 : decode cX7_word 54 = .ok (.pop, 1) := by decide +kernel
theorem dX7_word_55 : decode cX7_word 55 = .ok (.iinc 3 1, 3) := by decide +kernel
theorem dX7_word_58 : decode cX7_word 58 = .ok (.goto (-38), 3) := by decide +kernel
theorem dX7_word_61 : decode cX7_word 61 = .ok (.aload_n 0, 1) := by decide +kernel
theorem dX7_word_62 : decode cX7_word 62 = .ok (.getfield 73, 3) := by decide +kernel
theorem dX7_word_65 : decode cX7_word 65 = .ok (.ireturn, 1) := by decide +kernel
theorem dX7_idle_0 : decode cX7_idle 0 = .ok (.aload_n 0, 1) := by decide +kernel
theorem dX7_idle_1 : decode cX7_idle 1 = .ok (.iconst 0, 1) := by decide +kernel
theorem dX7_idle_2 : decode cX7_idle 2 = .ok (.putfield 33, 3) := by decide +kernel
theorem dX7_idle_5 : decode cX7_idle 5 = .ok (.iload_n 1, 1) := by decide +kernel
theorem dX7_idle_6 : decode cX7_idle 6 = .ok (.iconst 1, 1) := by decide +kernel
theorem dX7_idle_7 : decode cX7_idle 7 = .ok (.if_icmp .lt 16, 3) := by decide +kernel
theorem dX7_idle_10 : decode cX7_idle 10 = .ok (.iload_n 1, 1) := by decide +kernel
theorem dX7_idle_11 : decode cX7_idle 11 = .ok (.bipush 100, 2) := by decide +kernel
theorem dX7_idle_13 : decode cX7_idle 13 = .ok (.if_icmp .gt 10, 3) := by decide +kernel
theorem dX7_idle_16 : decode cX7_idle 16 = .ok (.aload_n 0, 1) := by decide +kernel
