theorem dX0_typeOfGroup_0 : decode cX0_typeOfGroup 0 = .ok (.aload_n 0, 1) := by decide +kernel
theorem dX0_typeOfGroup_1 : decode cX0_typeOfGroup 1 = .ok (.invokestatic 9, 3) := by decide +kernel
theorem dX0_typeOfGroup_4 : decode cX0_typeOfGroup 4 = .ok (.istore_n 1, 1) := by decide +kernel
theorem dX0_typeOfGroup_5 : decode cX0_typeOfGroup 5 = .ok (.iload_n 1, 1) := by decide +kernel
theorem dX0_typeOfGroup_6 : decode cX0_typeOfGroup 6 = .ok (.bipush 8, 2) := by decide +kernel
theorem dX0_typeOfGroup_8 : decode cX0_typeOfGroup 8 = .ok (.if_icmp .ne 5, 3) := by decide +kernel
theorem dX0_typeOfGroup_11 : decode cX0_typeOfGroup 11 = .ok (.iconst (-1), 1) := by decide +kernel
theorem dX0_typeOfGroup_12 : decode cX0_typeOfGroup 12 = .ok (.ireturn, 1) := by decide +kernel
theorem dX0_typeOfGroup_13 : decode cX0_typeOfGroup 13 = .ok (.aload_n 0, 1) := by decide +kernel
theorem dX0_typeOfGroup_14 : decode cX0_typeOfGroup 14 = .ok (.iload_n 1, 1) := by decide +kernel
theorem dX0_typeOfGroup_15 : decode cX0_typeOfGroup 15 = .ok (.iaload, 1) := by decide +kernel
theorem dX0_typeOfGroup_16 : decode cX0_typeOfGroup 16 = .ok (.sipush 258, 3) := by decide +kernel
theorem dX0_typeOfGroup_19 : decode cX0_typeOfGroup 19 = .ok (.if_icmp .ne 21, 3) := by decide +kernel
theorem dX0_typeOfGroup_22 : decode cX0_typeOfGroup 22 = .ok (.aload_n 0, 1) := by decide +kernel
theorem dX0_typeOfGroup_23 : decode cX0_typeOfGroup 23 = .ok (.iload_n 1, 1) := by decide +kernel
theorem dX0_typeOfGroup_24 : decode cX0_typeOfGroup 24 = .ok (.iconst 1, 1) := by decide +kernel
theorem dX0_typeOfGroup_25 : decode cX0_typeOfGroup 25 = .ok (.iadd, 1) := by decide +kernel
theorem dX0_typeOfGroup_26 : decode cX0_typeOfGroup 26 = .ok (.bipush 8, 2) := by decide +kernel
theorem dX0_typeOfGroup_28 : decode cX0_typeOfGroup 28 = .ok (.invokestatic 15, 3) := by decide +kernel
theorem dX0_typeOfGroup_31 : decode cX0_typeOfGroup 31 = .ok (.ifCond .eq 9, 3) := by decide +kernel
theorem dX0_typeOfGroup_34 : decode cX0_typeOfGroup 34 = .ok (.getstatic 19, 3) := by decide +kernel
theorem dX0_typeOfGroup_37 : decode cX0_typeOfGroup 37 = .ok (.iload_n 1, 1) := by decide +kernel
theorem dX0_typeOfGroup_38 : decode cX0_typeOfGroup 38 = .ok (.iaload, 1) := by decide +kernel
theorem dX0_typeOfGroup_39 : decode cX0_typeOfGroup 39 = .ok (.ireturn, 1) := by decide +kernel
theorem dX0_typeOfGroup_40 : decode cX0_typeOfGroup 40 = .ok (.aload_n 0, 1) := by decide +kernel
theorem dX0_typeOfGroup_41 : decode cX0_typeOfGroup 41 = .ok (.iconst 0, 1) := by decide +kernel
theorem dX0_typeOfGroup_42 : decode cX0_typeOfGroup 42 = .ok (.iaload, 1) := by decide +kernel
theorem dX0_typeOfGroup_43 : decode cX0_typeOfGroup 43 = .ok (.sipush 257, 3) := by decide +kernel
theorem dX0_typeOfGroup_46 : decode cX0_typeOfGroup 46 = .ok (.if_icmp .ne 14, 3) := by decide +kernel
theorem dX0_typeOfGroup_49 : decode cX0_typeOfGroup 49 = .ok (.aload_n 0, 1) := by decide +kernel
theorem dX0_typeOfGroup_50 : decode cX0_typeOfGroup 50 = .ok (.iconst 1, 1) := by decide +kernel
theorem dX0_typeOfGroup_51 : decode cX0_typeOfGroup 51 = .ok (.invokestatic 23, 3) := by decide +kernel
theorem dX0_typeOfGroup_54 : decode cX0_typeOfGroup 54 = .ok (.ifCond .eq 6, 3) := by decide +kernel
theorem dX0_typeOfGroup_57 : decode cX0_typeOfGroup 57 = .ok (.bipush 120, 2) := by decide +kernel
theorem dX0_typeOfGroup_59 : decode cX0_typeOfGroup 59 = .ok (.ireturn, 1) := by decide +kernel
theorem dX0_typeOfGroup_60 : decode cX0_typeOfGroup 60 = .ok (.aload_n 0, 1) := by decide +kernel
theorem dX0_typeOfGroup_61 : decode cX0_typeOfGroup 61 = .ok (.iconst 0, 1) := by decide +kernel
theorem dX0_typeOfGroup_62 : decode cX0_typeOfGroup 62 = .ok (.iconst 4, 1) := by decide +kernel
theorem dX0_typeOfGroup_63 : decode cX0_typeOfGroup 63 = .ok (.invokestatic 15, 3) := by decide +kernel
theorem dX0_typeOfGroup_66 : decode cX0_typeOfGroup 66 = .ok (.ifCond .eq 23, 3) := by decide +kernel
theorem dX0_typeOfGroup_69 : decode cX0_typeOfGroup 69 = .ok (.aload_n 0, 1) := by decide +kernel
theorem dX0_typeOfGroup_70 : decode cX0_typeOfGroup 70 = .ok (.iconst 4, 1) := by decide +kernel
theorem dX0_typeOfGroup_71 : decode cX0_typeOfGroup 71 = .ok (.iaload, 1) := by decide +kernel
theorem dX0_typeOfGroup_72 : decode cX0_typeOfGroup 72 = .ok (.sipush 257, 3) := by decide +kernel
theorem dX0_typeOfGroup_75 : decode cX0_typeOfGroup 75 = .ok (.if_icmp .ne 14, 3) := by decide +kernel
theorem dX0_typeOfGroup_78 : decode cX0_typeOfGroup 78 = .ok (.aload_n 0, 1) := by decide +kernel
theorem dX0_typeOfGroup_79 : decode cX0_typeOfGroup 79 = .ok (.iconst 5, 1) := by decide +kernel
theorem dX0_typeOfGroup_80 : decode cX0_typeOfGroup 80 = .ok (.invokestatic 23, 3) := by decide +kernel
theorem dX0_typeOfGroup_83 : decode cX0_typeOfGroup 83 = .ok (.ifCond .eq 6, 3) := by decide +kernel
theorem dX0_typeOfGroup_86 : decode cX0_typeOfGroup 86 = .ok (.bipush 51, 2) := by decide +kernel
theorem dX0_typeOfGroup_88 : decode cX0_typeOfGroup 88 = .ok (.ireturn, 1) := by decide +kernel
theorem dX0_typeOfGroup_89 : decode cX0_typeOfGroup 89 = .ok (.aload_n 0, 1) := by decide +kernel
theorem dX0_typeOfGroup_90 : decode cX0_typeOfGroup 90 = .ok (.iconst 0, 1) := by decide +kernel
theorem dX0_typeOfGroup_91 : decode cX0_typeOfGroup 91 = .ok (.bipush 8, 2) := by decide +kernel
theorem dX0_typeOfGroup_93 : decode cX0_typeOfGroup 93 = .ok (.invokestatic 15, 3) := by decide +kernel
theorem dX0_typeOfGroup_96 : decode cX0_typeOfGroup 96 = .ok (.ifCond .eq 8, 3) := by decide +kernel
theorem dX0_typeOfGroup_99 : decode cX0_typeOfGroup 99 = .ok (.bipush 30, 2) := by decide +kernel
theorem dX0_typeOfGroup_101 : decode cX0_typeOfGroup 101 = .ok (.goto 5, 3) := by decide +kernel
theorem dX0_typeOfGroup_104 : decode cX0_typeOfGroup 104 = .ok (.bipush (-2), 2) := by decide +kernel
theorem dX0_typeOfGroup_106 : decode cX0_typeOfGroup 106 = .ok (.ireturn, 1) := by decide +kernel
theorem dX0_payloadOf_0 : decode cX0_payloadOf 0 = .ok (.iload_n 0, 1) := by decide +kernel
theorem dX0_payloadOf_1 : decode cX0_payloadOf 1 = .ok (.iconst (-1), 1) := by decide +kernel
theorem dX0_payloadOf_2 : decode cX0_payloadOf 2 = .ok (.if_icmp .ne 7, 3) := by decide +kernel
theorem dX0_payloadOf_5 : decode cX0_payloadOf 5 = .ok (.lconst 0, 1) := by decide +kernel
theorem dX0_payloadOf_6 : decode cX0_payloadOf 6 = .ok (.goto 5, 3) := by decide +kernel
theorem dX0_payloadOf_9 : decode cX0_payloadOf 9 = .ok (.iload_n 0, 1) := by decide +kernel
theorem dX0_payloadOf_10 : decode cX0_payloadOf 10 = .ok (.i2l, 1) := by decide +kernel
theorem dX0_payloadOf_11 : decode cX0_payloadOf 11 = .ok (.lstore_n 2, 1) := by decide +kernel
theorem dX0_payloadOf_12 : decode cX0_payloadOf 12 = .ok (.iconst 0, 1) := by decide +kernel
theorem dX0_payloadOf_13 : decode cX0_payloadOf 13 = .ok (.istore 4, 2) := by decide +kernel
theorem dX0_payloadOf_15 : decode cX0_payloadOf 15 = .ok (.iload 4, 2) := by decide +kernel
theorem dX0_payloadOf_17 : decode cX0_payloadOf 17 = .ok (.bipush 8, 2) := by decide +kernel
theorem dX0_payloadOf_19 : decode cX0_payloadOf 19 = .ok (.if_icmp .ge 22, 3) := by decide +kernel
theorem dX0_payloadOf_22 : decode cX0_payloadOf 22 = .ok (.lload_n 2, 1) := by decide +kernel
theorem dX0_payloadOf_23 : decode cX0_payloadOf 23 = .ok (.iload_n 0, 1) := by decide +kernel
theorem dX0_payloadOf_24 : decode cX0_payloadOf 24 = .ok (.aload_n 1, 1) := by decide +kernel
theorem dX0_payloadOf_25 : decode cX0_payloadOf 25 = .ok (.iload 4, 2) := by decide +kernel
theorem dX0_payloadOf_27 : decode cX0_payloadOf 27 = .ok (.iaload, 1) := by decide +kernel
theorem dX0_payloadOf_28 : decode cX0_payloadOf 28 = .ok (.iload 4, 2) := by decide +kernel
theorem dX0_payloadOf_30 : decode cX0_payloadOf 30 = .ok (.invokestatic 27, 3) := by decide +kernel
theorem dX0_payloadOf_33 : decode cX0_payloadOf 33 = .ok (.lor, 1) := by decide +kernel
theorem dX0_payloadOf_34 : decode cX0_payloadOf 34 = .ok (.lstore_n 2, 1) := by decide +kernel
theorem dX0_payloadOf_35 : decode cX0_payloadOf 35 = .ok (.iinc 4 1, 3) := by decide +kernel
theorem dX0_payloadOf_38 : decode cX0_payloadOf 38 = .ok (.goto (-23), 3) := by decide +kernel
theorem dX0_payloadOf_41 : decode cX0_payloadOf 41 = .ok (.lload_n 2, 1) := by decide +kernel
theorem dX0_payloadOf_42 : decode cX0_payloadOf 42 = .ok (.lreturn, 1) := by decide +kernel
theorem dX0_typeOfBlock_0 : decode cX0_typeOfBlock 0 = .ok (.iload_n 0, 1) := by decide +kernel
theorem dX0_typeOfBlock_1 : decode cX0_typeOfBlock 1 = .ok (.iconst 1, 1) := by decide +kernel
theorem dX0_typeOfBlock_2 : decode cX0_typeOfBlock 2 = .ok (.if_icmp .ne 5, 3) := by decide +kernel
theorem dX0_typeOfBlock_5 : decode cX0_typeOfBlock 5 = .ok (.iconst (-1), 1) := by decide +kernel
theorem dX0_typeOfBlock_6 : decode cX0_typeOfBlock 6 = .ok (.ireturn, 1) := by decide +kernel
theorem dX0_typeOfBlock_7 : decode cX0_typeOfBlock 7 = .ok (.iload_n 0, 1) := by decide +kernel
theorem dX0_typeOfBlock_8 : decode cX0_typeOfBlock 8 = .ok (.iconst 2, 1) := by decide +kernel
theorem dX0_typeOfBlock_9 : decode cX0_typeOfBlock 9 = .ok (.if_icmp .ne 12, 3) := by decide +kernel
theorem dX0_typeOfBlock_12 : decode cX0_typeOfBlock 12 = .ok (.lload_n 1, 1) := by decide +kernel
theorem dX0_typeOfBlock_13 : decode cX0_typeOfBlock 13 = .ok (.l2i, 1) := by decide +kernel
theorem dX0_typeOfBlock_14 : decode cX0_typeOfBlock 14 = .ok (.sipush 255, 3) := by decide +kernel
theorem dX0_typeOfBlock_17 : decode cX0_typeOfBlock 17 = .ok (.iand, 1) := by decide +kernel
theorem dX0_typeOfBlock_18 : decode cX0_typeOfBlock 18 = .ok (.goto 5, 3) := by decide +kernel
theorem dX0_typeOfBlock_21 : decode cX0_typeOfBlock 21 = .ok (.bipush (-2), 2) := by decide +kernel
theorem dX0_typeOfBlock_23 : decode cX0_typeOfBlock 23 = .ok (.ireturn, 1) := by decide +kernel
theorem dX0_characterOf_0 : decode cX0_characterOf 0 = .ok (.iload_n 0, 1) := by decide +kernel
theorem dX0_characterOf_1 : decode cX0_characterOf 1 = .ok (.invokestatic 31, 3) := by decide +kernel
theorem dX0_characterOf_4 : decode cX0_characterOf 4 = .ok (.istore 4, 2) := by decide +kernel
theorem dX0_characterOf_6 : decode cX0_characterOf 6 = .ok (.iload 4, 2) := by decide +kernel
theorem dX0_characterOf_8 : decode cX0_characterOf 8 = .ok (.iconst (-1), 1) := by decide +kernel
theorem dX0_characterOf_9 : decode cX0_characterOf 9 = .ok (.if_icmp .eq 12, 3) := by decide +kernel
theorem dX0_characterOf_12 : decode cX0_characterOf 12 = .ok (.iload 4, 2) := by decide +kernel
theorem dX0_characterOf_14 : decode cX0_characterOf 14 = .ok (.iload_n 0, 1) := by decide +kernel
theorem dX0_characterOf_15 : decode cX0_characterOf 15 = .ok (.lload_n 1, 1) := by decide +kernel
theorem dX0_characterOf_16 : decode cX0_characterOf 16 = .ok (.iload_n 3, 1) := by decide +kernel
theorem dX0_characterOf_17 : decode cX0_characterOf 17 = .ok (.invokestatic 35, 3) := by decide +kernel
theorem dX0_characterOf_20 : decode cX0_characterOf 20 = .ok (.ireturn, 1) := by decide +kernel
theorem dX0_characterOf_21 : decode cX0_characterOf 21 = .ok (.iload_n 0, 1) := by decide +kernel
theorem dX0_characterOf_22 : decode cX0_characterOf 22 = .ok (.lookupswitch 78 #[(-1, 42), (30, 49), (51, 72), (120, 55)], 42) := by decide +kernel
theorem dX0_characterOf_64 : decode cX0_characterOf 64 = .ok (.iload_n 0, 1) := by decide +kernel
theorem dX0_characterOf_65 : decode cX0_characterOf 65 = .ok (.lload_n 1, 1) := by decide +kernel
theorem dX0_characterOf_66 : decode cX0_characterOf 66 = .ok (.iload_n 3, 1) := by decide +kernel
theorem dX0_characterOf_67 : decode cX0_characterOf 67 = .ok (.invokestatic 39, 3) := by decide +kernel
theorem dX0_characterOf_70 : decode cX0_characterOf 70 = .ok (.ireturn, 1) := by decide +kernel
theorem dX0_characterOf_71 : decode cX0_characterOf 71 = .ok (.lload_n 1, 1) := by decide +kernel
theorem dX0_characterOf_72 : decode cX0_characterOf 72 = .ok (.iload_n 3, 1) := by decide +kernel
theorem dX0_characterOf_73 : decode cX0_characterOf 73 = .ok (.invokestatic 43, 3) := by decide +kernel
theorem dX0_characterOf_76 : decode cX0_characterOf 76 = .ok (.ireturn, 1) := by decide +kernel
theorem dX0_characterOf_77 : decode cX0_characterOf 77 = .ok (.iload_n 3, 1) := by decide +kernel
theorem dX0_characterOf_78 : decode cX0_characterOf 78 = .ok (.ifCond .ne 9, 3) := by decide +kernel
theorem dX0_characterOf_81 : decode cX0_characterOf 81 = .ok (.sipush 257, 3) := by decide +kernel
theorem dX0_characterOf_84 : decode cX0_characterOf 84 = .ok (.goto 9, 3) := by decide +kernel
theorem dX0_characterOf_87 : decode cX0_characterOf 87 = .ok (.iload_n 0, 1) := by decide +kernel
theorem dX0_characterOf_88 : decode cX0_characterOf 88 = .ok (.lload_n 1, 1) := by decide +kernel
theorem dX0_characterOf_89 : decode cX0_characterOf 89 = .ok (.iload_n 3, 1) := by decide +kernel
theorem dX0_characterOf_90 : decode cX0_characterOf 90 = .ok (.invokestatic 39, 3) := by decide +kernel
theorem dX0_characterOf_93 : decode cX0_characterOf 93 = .ok (.ireturn, 1) := by decide +kernel
theorem dX0_characterOf_94 : decode cX0_characterOf 94 = .ok (.lload_n 1, 1) := by decide +kernel
theorem dX0_characterOf_95 : decode cX0_characterOf 95 = .ok (.iload_n 3, 1) := by decide +kernel
theorem dX0_characterOf_96 : decode cX0_characterOf 96 = .ok (.invokestatic 47, 3) := by decide +kernel
theorem dX0_characterOf_99 : decode cX0_characterOf 99 = .ok (.ireturn, 1) := by decide +kernel
theorem dX0_characterOf_100 : decode cX0_characterOf 100 = .ok (.sipush 259, 3) := by decide +kernel
theorem dX0_characterOf_103 : decode cX0_characterOf 103 = .ok (.ireturn, 1) := by decide +kernel
theorem dX0_characterByEnd_0 : decode cX0_characterByEnd 0 = .ok (.iload 4, 2) := by decide +kernel
theorem dX0_characterByEnd_2 : decode cX0_characterByEnd 2 = .ok (.iload_n 0, 1) := by decide +kernel
theorem dX0_characterByEnd_3 : decode cX0_characterByEnd 3 = .ok (.if_icmp .ne 7, 3) := by decide +kernel
theorem dX0_characterByEnd_6 : decode cX0_characterByEnd 6 = .ok (.sipush 258, 3) := by decide +kernel
theorem dX0_characterByEnd_9 : decode cX0_characterByEnd 9 = .ok (.ireturn, 1) := by decide +kernel
theorem dX0_characterByEnd_10 : decode cX0_characterByEnd 10 = .ok (.iload 4, 2) := by decide +kernel
theorem dX0_characterByEnd_12 : decode cX0_characterByEnd 12 = .ok (.iload_n 0, 1) := by decide +kernel
theorem dX0_characterByEnd_13 : decode cX0_characterByEnd 13 = .ok (.if_icmp .ge 13, 3) := by decide +kernel
theorem dX0_characterByEnd_16 : decode cX0_characterByEnd 16 = .ok (.iload_n 1, 1) := by decide +kernel
theorem dX0_characterByEnd_17 : decode cX0_characterByEnd 17 = .ok (.lload_n 2, 1) := by decide +kernel
theorem dX0_characterByEnd_18 : decode cX0_characterByEnd 18 = .ok (.iload 4, 2) := by decide +kernel
theorem dX0_characterByEnd_20 : decode cX0_characterByEnd 20 = .ok (.invokestatic 39, 3) := by decide +kernel
theorem dX0_characterByEnd_23 : decode cX0_characterByEnd 23 = .ok (.goto 9, 3) := by decide +kernel
theorem dX0_characterByEnd_26 : decode cX0_characterByEnd 26 = .ok (.lload_n 2, 1) := by decide +kernel
theorem dX0_characterByEnd_27 : decode cX0_characterByEnd 27 = .ok (.iload 4, 2) := by decide +kernel
theorem dX0_characterByEnd_29 : decode cX0_characterByEnd 29 = .ok (.invokestatic 43, 3) := by decide +kernel
theorem dX0_characterByEnd_32 : decode cX0_characterByEnd 32 = .ok (.ireturn, 1) := by decide +kernel
theorem dX0_characterByMiddleStart_0 : decode cX0_characterByMiddleStart 0 = .ok (.iload_n 2, 1) := by decide +kernel
theorem dX0_characterByMiddleStart_1 : decode cX0_characterByMiddleStart 1 = .ok (.iconst 4, 1) := by decide +kernel
theorem dX0_characterByMiddleStart_2 : decode cX0_characterByMiddleStart 2 = .ok (.if_icmp .ne 7, 3) := by decide +kernel
theorem dX0_characterByMiddleStart_5 : decode cX0_characterByMiddleStart 5 = .ok (.sipush 257, 3) := by decide +kernel
theorem dX0_characterByMiddleStart_8 : decode cX0_characterByMiddleStart 8 = .ok (.ireturn, 1) := by decide +kernel
theorem dX0_characterByMiddleStart_9 : decode cX0_characterByMiddleStart 9 = .ok (.iload_n 2, 1) := by decide +kernel
theorem dX0_characterByMiddleStart_10 : decode cX0_characterByMiddleStart 10 = .ok (.iconst 4, 1) := by decide +kernel
theorem dX0_characterByMiddleStart_11 : decode cX0_characterByMiddleStart 11 = .ok (.if_icmp .ge 11, 3) := by decide +kernel
theorem dX0_characterByMiddleStart_14 : decode cX0_characterByMiddleStart 14 = .ok (.lload_n 0, 1) := by decide +kernel
theorem dX0_characterByMiddleStart_15 : decode cX0_characterByMiddleStart 15 = .ok (.iload_n 2, 1) := by decide +kernel
theorem dX0_characterByMiddleStart_16 : decode cX0_characterByMiddleStart 16 = .ok (.invokestatic 43, 3) := by decide +kernel
theorem dX0_characterByMiddleStart_19 : decode cX0_characterByMiddleStart 19 = .ok (.goto 10, 3) := by decide +kernel
theorem dX0_characterByMiddleStart_22 : decode cX0_characterByMiddleStart 22 = .ok (.bipush 51, 2) := by decide +kernel
theorem dX0_characterByMiddleStart_24 : decode cX0_characterByMiddleStart 24 = .ok (.lload_n 0, 1) := by decide +kernel
theorem dX0_characterByMiddleStart_25 : decode cX0_characterByMiddleStart 25 = .ok (.iload_n 2, 1) := by decide +kernel
theorem dX0_characterByMiddleStart_26 : decode cX0_characterByMiddleStart 26 = .ok (.invokestatic 39, 3) := by decide +kernel
theorem dX0_characterByMiddleStart_29 : decode cX0_characterByMiddleStart 29 = .ok (.ireturn, 1) := by decide +kernel
theorem dX0_dataAt_0 : decode cX0_dataAt 0 = .ok (.lload_n 1, 1) := by decide +kernel
theorem dX0_dataAt_1 : decode cX0_dataAt 1 = .ok (.iload_n 0, 1) := by decide +kernel
theorem dX0_dataAt_2 : decode cX0_dataAt 2 = .ok (.iload_n 3, 1) := by decide +kernel
theorem dX0_dataAt_3 : decode cX0_dataAt 3 = .ok (.invokestatic 50, 3) := by decide +kernel
theorem dX0_dataAt_6 : decode cX0_dataAt 6 = .ok (.lushr, 1) := by decide +kernel
theorem dX0_dataAt_7 : decode cX0_dataAt 7 = .ok (.l2i, 1) := by decide +kernel
theorem dX0_dataAt_8 : decode cX0_dataAt 8 = .ok (.sipush 255, 3) := by decide +kernel
theorem dX0_dataAt_11 : decode cX0_dataAt 11 = .ok (.iand, 1) := by decide +kernel
theorem dX0_dataAt_12 : decode cX0_dataAt 12 = .ok (.ireturn, 1) := by decide +kernel
theorem dX0_codedAt_0 : decode cX0_codedAt 0 = .ok (.lload_n 0, 1) := by decide +kernel
theorem dX0_codedAt_1 : decode cX0_codedAt 1 = .ok (.iload_n 2, 1) := by decide +kernel
theorem dX0_codedAt_2 : decode cX0_codedAt 2 = .ok (.invokestatic 54, 3) := by decide +kernel
theorem dX0_codedAt_5 : decode cX0_codedAt 5 = .ok (.lushr, 1) := by decide +kernel
theorem dX0_codedAt_6 : decode cX0_codedAt 6 = .ok (.l2i, 1) := by decide +kernel
theorem dX0_codedAt_7 : decode cX0_codedAt 7 = .ok (.bipush 127, 2) := by decide +kernel
theorem dX0_codedAt_9 : decode cX0_codedAt 9 = .ok (.iand, 1) := by decide +kernel
theorem dX0_codedAt_10 : decode cX0_codedAt 10 = .ok (.istore_n 3, 1) := by decide +kernel
theorem dX0_codedAt_11 : decode cX0_codedAt 11 = .ok (.iload_n 3, 1) := by decide +kernel
theorem dX0_codedAt_12 : decode cX0_codedAt 12 = .ok (.ifCond .ne 9, 3) := by decide +kernel
theorem dX0_codedAt_15 : decode cX0_codedAt 15 = .ok (.sipush 256, 3) := by decide +kernel
theorem dX0_codedAt_18 : decode cX0_codedAt 18 = .ok (.goto 6, 3) := by decide +kernel
theorem dX0_codedAt_21 : decode cX0_codedAt 21 = .ok (.sipush 259, 3) := by decide +kernel
theorem dX0_codedAt_24 : decode cX0_codedAt 24 = .ok (.ireturn, 1) := by decide +kernel
theorem dX0_bitsOf_0 : decode cX0_bitsOf 0 = .ok (.iload_n 1, 1) := by decide +kernel
theorem dX0_bitsOf_1 : decode cX0_bitsOf 1 = .ok (.invokestatic 57, 3) := by decide +kernel
theorem dX0_bitsOf_4 : decode cX0_bitsOf 4 = .ok (.ifCond .eq 12, 3) := by decide +kernel
theorem dX0_bitsOf_7 : decode cX0_bitsOf 7 = .ok (.iload_n 1, 1) := by decide +kernel
theorem dX0_bitsOf_8 : decode cX0_bitsOf 8 = .ok (.i2l, 1) := by decide +kernel
theorem dX0_bitsOf_9 : decode cX0_bitsOf 9 = .ok (.iload_n 0, 1) := by decide +kernel
theorem dX0_bitsOf_10 : decode cX0_bitsOf 10 = .ok (.iload_n 2, 1) := by decide +kernel
theorem dX0_bitsOf_11 : decode cX0_bitsOf 11 = .ok (.invokestatic 50, 3) := by decide +kernel
theorem dX0_bitsOf_14 : decode cX0_bitsOf 14 = .ok (.lshl, 1) := by decide +kernel
theorem dX0_bitsOf_15 : decode cX0_bitsOf 15 = .ok (.lreturn, 1) := by decide +kernel
theorem dX0_bitsOf_16 : decode cX0_bitsOf 16 = .ok (.iload_n 1, 1) := by decide +kernel
theorem dX0_bitsOf_17 : decode cX0_bitsOf 17 = .ok (.sipush 259, 3) := by decide +kernel
theorem dX0_bitsOf_20 : decode cX0_bitsOf 20 = .ok (.if_icmp .ne 14, 3) := by decide +kernel
theorem dX0_bitsOf_23 : decode cX0_bitsOf 23 = .ok (.ldc2_w 61, 3) := by decide +kernel
theorem dX0_bitsOf_26 : decode cX0_bitsOf 26 = .ok (.iload_n 2, 1) := by decide +kernel
theorem dX0_bitsOf_27 : decode cX0_bitsOf 27 = .ok (.invokestatic 54, 3) := by decide +kernel
theorem dX0_bitsOf_30 : decode cX0_bitsOf 30 = .ok (.lshl, 1) := by decide +kernel
theorem dX0_bitsOf_31 : decode cX0_bitsOf 31 = .ok (.goto 4, 3) := by decide +kernel
theorem dX0_bitsOf_34 : decode cX0_bitsOf 34 = .ok (.lconst 0, 1) := by decide +kernel
theorem dX0_bitsOf_35 : decode cX0_bitsOf 35 = .ok (.lreturn, 1) := by decide +kernel
theorem dX0_dataShift_0 : decode cX0_dataShift 0 = .ok (.iload_n 0, 1) := by decide +kernel
theorem dX0_dataShift_1 : decode cX0_dataShift 1 = .ok (.invokestatic 31, 3) := by decide +kernel
theorem dX0_dataShift_4 : decode cX0_dataShift 4 = .ok (.iconst (-1), 1) := by decide +kernel
theorem dX0_dataShift_5 : decode cX0_dataShift 5 = .ok (.if_icmp .ne 10, 3) := by decide +kernel
theorem dX0_dataShift_8 : decode cX0_dataShift 8 = .ok (.iload_n 1, 1) := by decide +kernel
theorem dX0_dataShift_9 : decode cX0_dataShift 9 = .ok (.bipush 8, 2) := by decide +kernel
theorem dX0_dataShift_11 : decode cX0_dataShift 11 = .ok (.imul, 1) := by decide +kernel
theorem dX0_dataShift_12 : decode cX0_dataShift 12 = .ok (.goto 10, 3) := by decide +kernel
theorem dX0_dataShift_15 : decode cX0_dataShift 15 = .ok (.bipush 8, 2) := by decide +kernel
theorem dX0_dataShift_17 : decode cX0_dataShift 17 = .ok (.iload_n 1, 1) := by decide +kernel
theorem dX0_dataShift_18 : decode cX0_dataShift 18 = .ok (.bipush 8, 2) := by decide +kernel
theorem dX0_dataShift_20 : decode cX0_dataShift 20 = .ok (.imul, 1) := by decide +kernel
theorem dX0_dataShift_21 : decode cX0_dataShift 21 = .ok (.iadd, 1) := by decide +kernel
theorem dX0_dataShift_22 : decode cX0_dataShift 22 = .ok (.ireturn, 1) := by decide +kernel
theorem dX0_codeShift_0 : decode cX0_codeShift 0 = .ok (.bipush 8, 2) := by decide +kernel
theorem dX0_codeShift_2 : decode cX0_codeShift 2 = .ok (.iload_n 0, 1) := by decide +kernel
theorem dX0_codeShift_3 : decode cX0_codeShift 3 = .ok (.bipush 7, 2) := by decide +kernel
theorem dX0_codeShift_5 : decode cX0_codeShift 5 = .ok (.imul, 1) := by decide +kernel
theorem dX0_codeShift_6 : decode cX0_codeShift 6 = .ok (.iadd, 1) := by decide +kernel
theorem dX0_codeShift_7 : decode cX0_codeShift 7 = .ok (.ireturn, 1) := by decide +kernel
theorem dX0_endPlace_0 : decode cX0_endPlace 0 = .ok (.iconst 0, 1) := by decide +kernel
theorem dX0_endPlace_1 : decode cX0_endPlace 1 = .ok (.istore_n 1, 1) := by decide +kernel
theorem dX0_endPlace_2 : decode cX0_endPlace 2 = .ok (.iload_n 1, 1) := by decide +kernel
theorem dX0_endPlace_3 : decode cX0_endPlace 3 = .ok (.getstatic 19, 3) := by decide +kernel
theorem dX0_endPlace_6 : decode cX0_endPlace 6 = .ok (.arraylength, 1) := by decide +kernel
theorem dX0_endPlace_7 : decode cX0_endPlace 7 = .ok (.if_icmp .ge 20, 3) := by decide +kernel
theorem dX0_endPlace_10 : decode cX0_endPlace 10 = .ok (.getstatic 19, 3) := by decide +kernel
theorem dX0_endPlace_13 : decode cX0_endPlace 13 = .ok (.iload_n 1, 1) := by decide +kernel
theorem dX0_endPlace_14 : decode cX0_endPlace 14 = .ok (.iaload, 1) := by decide +kernel
theorem dX0_endPlace_15 : decode cX0_endPlace 15 = .ok (.iload_n 0, 1) := by decide +kernel
theorem dX0_endPlace_16 : decode cX0_endPlace 16 = .ok (.if_icmp .ne 5, 3) := by decide +kernel
theorem dX0_endPlace_19 : decode cX0_endPlace 19 = .ok (.iload_n 1, 1) := by decide +kernel
theorem dX0_endPlace_20 : decode cX0_endPlace 20 = .ok (.ireturn, 1) := by decide +kernel
theorem dX0_endPlace_21 : decode cX0_endPlace 21 = .ok (.iinc 1 1, 3) := by decide +kernel
theorem dX0_endPlace_24 : decode cX0_endPlace 24 = .ok (.goto (-22), 3) := by decide +kernel
theorem dX0_endPlace_27 : decode cX0_endPlace 27 = .ok (.iconst (-1), 1) := by decide +kernel
theorem dX0_endPlace_28 : decode cX0_endPlace 28 = .ok (.ireturn, 1) := by decide +kernel
theorem dX0_leadingData_0 : decode cX0_leadingData 0 = .ok (.iconst 0, 1) := by decide +kernel
theorem dX0_leadingData_1 : decode cX0_leadingData 1 = .ok (.istore_n 1, 1) := by decide +kernel
theorem dX0_leadingData_2 : decode cX0_leadingData 2 = .ok (.iload_n 1, 1) := by decide +kernel
theorem dX0_leadingData_3 : decode cX0_leadingData 3 = .ok (.bipush 8, 2) := by decide +kernel
theorem dX0_leadingData_5 : decode cX0_leadingData 5 = .ok (.if_icmp .ge 18, 3) := by decide +kernel
theorem dX0_leadingData_8 : decode cX0_leadingData 8 = .ok (.aload_n 0, 1) := by decide +kernel
theorem dX0_leadingData_9 : decode cX0_leadingData 9 = .ok (.iload_n 1, 1) := by decide +kernel
theorem dX0_leadingData_10 : decode cX0_leadingData 10 = .ok (.iaload, 1) := by decide +kernel
theorem dX0_leadingData_11 : decode cX0_leadingData 11 = .ok (.invokestatic 57, 3) := by decide +kernel
theorem dX0_leadingData_14 : decode cX0_leadingData 14 = .ok (.ifCond .eq 9, 3) := by decide +kernel
theorem dX0_leadingData_17 : decode cX0_leadingData 17 = .ok (.iinc 1 1, 3) := by decide +kernel
theorem dX0_leadingData_20 : decode cX0_leadingData 20 = .ok (.goto (-18), 3) := by decide +kernel
theorem dX0_leadingData_23 : decode cX0_leadingData 23 = .ok (.iload_n 1, 1) := by decide +kernel
theorem dX0_leadingData_24 : decode cX0_leadingData 24 = .ok (.ireturn, 1) := by decide +kernel
theorem dX0_areData_0 : decode cX0_areData 0 = .ok (.iload_n 1, 1) := by decide +kernel
theorem dX0_areData_1 : decode cX0_areData 1 = .ok (.istore_n 2, 1) := by decide +kernel
theorem dX0_areData_2 : decode cX0_areData 2 = .ok (.iload_n 2, 1) := by decide +kernel
theorem dX0_areData_3 : decode cX0_areData 3 = .ok (.bipush 8, 2) := by decide +kernel
theorem dX0_areData_5 : decode cX0_areData 5 = .ok (.if_icmp .ge 20, 3) := by decide +kernel
theorem dX0_areData_8 : decode cX0_areData 8 = .ok (.aload_n 0, 1) := by decide +kernel
theorem dX0_areData_9 : decode cX0_areData 9 = .ok (.iload_n 2, 1) := by decide +kernel
theorem dX0_areData_10 : decode cX0_areData 10 = .ok (.iaload, 1) := by decide +kernel
theorem dX0_areData_11 : decode cX0_areData 11 = .ok (.invokestatic 57, 3) := by decide +kernel
theorem dX0_areData_14 : decode cX0_areData 14 = .ok (.ifCond .ne 5, 3) := by decide +kernel
theorem dX0_areData_17 : decode cX0_areData 17 = .ok (.iconst 0, 1) := by decide +kernel
theorem dX0_areData_18 : decode cX0_areData 18 = .ok (.ireturn, 1) := by decide +kernel
theorem dX0_areData_19 : decode cX0_areData 19 = .ok (.iinc 2 1, 3) := by decide +kernel
theorem dX0_areData_22 : decode cX0_areData 22 = .ok (.goto (-20), 3) := by decide +kernel
theorem dX0_areData_25 : decode cX0_areData 25 = .ok (.iconst 1, 1) := by decide +kernel
theorem dX0_areData_26 : decode cX0_areData 26 = .ok (.ireturn, 1) := by decide +kernel
theorem dX0_areIdleOrError_0 : decode cX0_areIdleOrError 0 = .ok (.iload_n 1, 1) := by decide +kernel
theorem dX0_areIdleOrError_1 : decode cX0_areIdleOrError 1 = .ok (.istore_n 3, 1) := by decide +kernel
theorem dX0_areIdleOrError_2 : decode cX0_areIdleOrError 2 = .ok (.iload_n 3, 1) := by decide +kernel
theorem dX0_areIdleOrError_3 : decode cX0_areIdleOrError 3 = .ok (.iload_n 2, 1) := by decide +kernel
theorem dX0_areIdleOrError_4 : decode cX0_areIdleOrError 4 = .ok (.if_icmp .ge 29, 3) := by decide +kernel
theorem dX0_areIdleOrError_7 : decode cX0_areIdleOrError 7 = .ok (.aload_n 0, 1) := by decide +kernel
theorem dX0_areIdleOrError_8 : decode cX0_areIdleOrError 8 = .ok (.iload_n 3, 1) := by decide +kernel
theorem dX0_areIdleOrError_9 : decode cX0_areIdleOrError 9 = .ok (.iaload, 1) := by decide +kernel
theorem dX0_areIdleOrError_10 : decode cX0_areIdleOrError 10 = .ok (.sipush 256, 3) := by decide +kernel
theorem dX0_areIdleOrError_13 : decode cX0_areIdleOrError 13 = .ok (.if_icmp .eq 14, 3) := by decide +kernel
theorem dX0_areIdleOrError_16 : decode cX0_areIdleOrError 16 = .ok (.aload_n 0, 1) := by decide +kernel
theorem dX0_areIdleOrError_17 : decode cX0_areIdleOrError 17 = .ok (.iload_n 3, 1) := by decide +kernel
theorem dX0_areIdleOrError_18 : decode cX0_areIdleOrError 18 = .ok (.iaload, 1) := by decide +kernel
theorem dX0_areIdleOrError_19 : decode cX0_areIdleOrError 19 = .ok (.sipush 259, 3) := by decide +kernel
theorem dX0_areIdleOrError_22 : decode cX0_areIdleOrError 22 = .ok (.if_icmp .eq 5, 3) := by decide +kernel
theorem dX0_areIdleOrError_25 : decode cX0_areIdleOrError 25 = .ok (.iconst 0, 1) := by decide +kernel
theorem dX0_areIdleOrError_26 : decode cX0_areIdleOrError 26 = .ok (.ireturn, 1) := by decide +kernel
theorem dX0_areIdleOrError_27 : decode cX0_areIdleOrError 27 = .ok (.iinc 3 1, 3) := by decide +kernel
theorem dX0_areIdleOrError_30 : decode cX0_areIdleOrError 30 = .ok (.goto (-28), 3) := by decide +kernel
theorem dX0_areIdleOrError_33 : decode cX0_areIdleOrError 33 = .ok (.iconst 1, 1) := by decide +kernel
theorem dX0_areIdleOrError_34 : decode cX0_areIdleOrError 34 = .ok (.ireturn, 1) := by decide +kernel
theorem dX0_isData_0 : decode cX0_isData 0 = .ok (.iload_n 0, 1) := by decide +kernel
theorem dX0_isData_1 : decode cX0_isData 1 = .ok (.sipush 256, 3) := by decide +kernel
theorem dX0_isData_4 : decode cX0_isData 4 = .ok (.if_icmp .ge 7, 3) := by decide +kernel
theorem dX0_isData_7 : decode cX0_isData 7 = .ok (.iconst 1, 1) := by decide +kernel
theorem dX0_isData_8 : decode cX0_isData 8 = .ok (.goto 4, 3) := by decide +kernel
theorem dX0_isData_11 : decode cX0_isData 11 = .ok (.iconst 0, 1) := by decide +kernel
theorem dX0_isData_12 : decode cX0_isData 12 = .ok (.ireturn, 1) := by decide +kernel
theorem dX1_init_0 : decode cX1_init 0 = .ok (.aload_n 0, 1) := by decide +kernel
theorem dX1_init_1 : decode cX1_init 1 = .ok (.invokespecial 3, 3) := by decide +kernel
theorem dX1_init_4 : decode cX1_init 4 = .ok (.aload_n 0, 1) := by decide +kernel
theorem dX1_init_5 : decode cX1_init 5 = .ok (.sipush 300, 3) := by decide +kernel
theorem dX1_init_8 : decode cX1_init 8 = .ok (.newarray .int, 2) := by decide +kernel
theorem dX1_init_10 : decode cX1_init 10 = .ok (.putfield 11, 3) := by decide +kernel
theorem dX1_init_13 : decode cX1_init 13 = .ok (.aload_n 0, 1) := by decide +kernel
theorem dX1_init_14 : decode cX1_init 14 = .ok (.sipush 300, 3) := by decide +kernel
theorem dX1_init_17 : decode cX1_init 17 = .ok (.newarray .long, 2) := by decide +kernel
theorem dX1_init_19 : decode cX1_init 19 = .ok (.putfield 15, 3) := by decide +kernel
theorem dX1_init_22 : decode cX1_init 22 = .ok (.return_, 1) := by decide +kernel
theorem dX1_count_0 : decode cX1_count 0 = .ok (.aload_n 0, 1) := by decide +kernel
theorem dX1_count_1 : decode cX1_count 1 = .ok (.getfield 19, 3) := by decide +kernel
theorem dX1_count_4 : decode cX1_count 4 = .ok (.ireturn, 1) := by decide +kernel
theorem dX1_keep_0 : decode cX1_keep 0 = .ok (.aload_n 0, 1) := by decide +kernel
theorem dX1_keep_1 : decode cX1_keep 1 = .ok (.getfield 19, 3) := by decide +kernel
theorem dX1_keep_4 : decode cX1_keep 4 = .ok (.invokestatic 23, 3) := by decide +kernel
theorem dX1_keep_7 : decode cX1_keep 7 = .ok (.istore 4, 2) := by decide +kernel
theorem dX1_keep_9 : decode cX1_keep 9 = .ok (.aload_n 0, 1) := by decide +kernel
theorem dX1_keep_10 : decode cX1_keep 10 = .ok (.getfield 11, 3) := by decide +kernel
theorem dX1_keep_13 : decode cX1_keep 13 = .ok (.iload 4, 2) := by decide +kernel
theorem dX1_keep_15 : decode cX1_keep 15 = .ok (.iload_n 1, 1) := by decide +kernel
theorem dX1_keep_16 : decode cX1_keep 16 = .ok (.iastore, 1) := by decide +kernel
theorem dX1_keep_17 : decode cX1_keep 17 = .ok (.aload_n 0, 1) := by decide +kernel
theorem dX1_keep_18 : decode cX1_keep 18 = .ok (.getfield 15, 3) := by decide +kernel
theorem dX1_keep_21 : decode cX1_keep 21 = .ok (.iload 4, 2) := by decide +kernel
theorem dX1_keep_23 : decode cX1_keep 23 = .ok (.lload_n 2, 1) := by decide +kernel
theorem dX1_keep_24 : decode cX1_keep 24 = .ok (.lastore, 1) := by decide +kernel
theorem dX1_keep_25 : decode cX1_keep 25 = .ok (.aload_n 0, 1) := by decide +kernel
theorem dX1_keep_26 : decode cX1_keep 26 = .ok (.dup, 1) := by decide +kernel
theorem dX1_keep_27 : decode cX1_keep 27 = .ok (.getfield 19, 3) := by decide +kernel
theorem dX1_keep_30 : decode cX1_keep 30 = .ok (.iconst 1, 1) := by decide +kernel
theorem dX1_keep_31 : decode cX1_keep 31 = .ok (.iadd, 1) := by decide +kernel
theorem dX1_keep_32 : decode cX1_keep 32 = .ok (.putfield 19, 3) := by decide +kernel
theorem dX1_keep_35 : decode cX1_keep 35 = .ok (.return_, 1) := by decide +kernel
theorem dX1_character_0 : decode cX1_character 0 = .ok (.iload_n 2, 1) := by decide +kernel
theorem dX1_character_1 : decode cX1_character 1 = .ok (.ifCond .lt 17, 3) := by decide +kernel
theorem dX1_character_4 : decode cX1_character 4 = .ok (.iload_n 2, 1) := by decide +kernel
theorem dX1_character_5 : decode cX1_character 5 = .ok (.bipush 8, 2) := by decide +kernel
theorem dX1_character_7 : decode cX1_character 7 = .ok (.if_icmp .ge 11, 3) := by decide +kernel
theorem dX1_character_10 : decode cX1_character 10 = .ok (.aload_n 0, 1) := by decide +kernel
theorem dX1_character_11 : decode cX1_character 11 = .ok (.iload_n 1, 1) := by decide +kernel
theorem dX1_character_12 : decode cX1_character 12 = .ok (.invokevirtual 27, 3) := by decide +kernel
theorem dX1_character_15 : decode cX1_character 15 = .ok (.ifCond .ne 5, 3) := by decide +kernel
theorem dX1_character_18 : decode cX1_character 18 = .ok (.iconst (-1), 1) := by decide +kernel
theorem dX1_character_19 : decode cX1_character 19 = .ok (.ireturn, 1) := by decide +kernel
theorem dX1_character_20 : decode cX1_character 20 = .ok (.iload_n 1, 1) := by decide +kernel
theorem dX1_character_21 : decode cX1_character 21 = .ok (.invokestatic 23, 3) := by decide +kernel
theorem dX1_character_24 : decode cX1_character 24 = .ok (.istore_n 3, 1) := by decide +kernel
theorem dX1_character_25 : decode cX1_character 25 = .ok (.aload_n 0, 1) := by decide +kernel
theorem dX1_character_26 : decode cX1_character 26 = .ok (.getfield 11, 3) := by decide +kernel
theorem dX1_character_29 : decode cX1_character 29 = .ok (.iload_n 3, 1) := by decide +kernel
theorem dX1_character_30 : decode cX1_character 30 = .ok (.iaload, 1) := by decide +kernel
theorem dX1_character_31 : decode cX1_character 31 = .ok (.aload_n 0, 1) := by decide +kernel
theorem dX1_character_32 : decode cX1_character 32 = .ok (.getfield 15, 3) := by decide +kernel
theorem dX1_character_35 : decode cX1_character 35 = .ok (.iload_n 3, 1) := by decide +kernel
theorem dX1_character_36 : decode cX1_character 36 = .ok (.laload, 1) := by decide +kernel
theorem dX1_character_37 : decode cX1_character 37 = .ok (.iload_n 2, 1) := by decide +kernel
theorem dX1_character_38 : decode cX1_character 38 = .ok (.invokestatic 31, 3) := by decide +kernel
theorem dX1_character_41 : decode cX1_character 41 = .ok (.ireturn, 1) := by decide +kernel
theorem dX1_isKept_0 : decode cX1_isKept 0 = .ok (.iload_n 1, 1) := by decide +kernel
theorem dX1_isKept_1 : decode cX1_isKept 1 = .ok (.ifCond .lt 27, 3) := by decide +kernel
theorem dX1_isKept_4 : decode cX1_isKept 4 = .ok (.iload_n 1, 1) := by decide +kernel
theorem dX1_isKept_5 : decode cX1_isKept 5 = .ok (.aload_n 0, 1) := by decide +kernel
theorem dX1_isKept_6 : decode cX1_isKept 6 = .ok (.getfield 19, 3) := by decide +kernel
theorem dX1_isKept_9 : decode cX1_isKept 9 = .ok (.if_icmp .ge 19, 3) := by decide +kernel
theorem dX1_isKept_12 : decode cX1_isKept 12 = .ok (.iload_n 1, 1) := by decide +kernel
theorem dX1_isKept_13 : decode cX1_isKept 13 = .ok (.aload_n 0, 1) := by decide +kernel
theorem dX1_isKept_14 : decode cX1_isKept 14 = .ok (.getfield 19, 3) := by decide +kernel
theorem dX1_isKept_17 : decode cX1_isKept 17 = .ok (.sipush 300, 3) := by decide +kernel
theorem dX1_isKept_20 : decode cX1_isKept 20 = .ok (.isub, 1) := by decide +kernel
theorem dX1_isKept_21 : decode cX1_isKept 21 = .ok (.if_icmp .lt 7, 3) := by decide +kernel
theorem dX1_isKept_24 : decode cX1_isKept 24 = .ok (.iconst 1, 1) := by decide +kernel
theorem dX1_isKept_25 : decode cX1_isKept 25 = .ok (.goto 4, 3) := by decide +kernel
theorem dX1_isKept_28 : decode cX1_isKept 28 = .ok (.iconst 0, 1) := by decide +kernel
theorem dX1_isKept_29 : decode cX1_isKept 29 = .ok (.ireturn, 1) := by decide +kernel
theorem dX1_slotOf_0 : decode cX1_slotOf 0 = .ok (.iload_n 0, 1) := by decide +kernel
theorem dX1_slotOf_1 : decode cX1_slotOf 1 = .ok (.sipush 300, 3) := by decide +kernel
theorem dX1_slotOf_4 : decode cX1_slotOf 4 = .ok (.invokestatic 37, 3) := by decide +kernel
theorem dX1_slotOf_7 : decode cX1_slotOf 7 = .ok (.ireturn, 1) := by decide +kernel
theorem dX2_init_0 : decode cX2_init 0 = .ok (.aload_n 0, 1) := by decide +kernel
theorem dX2_init_1 : decode cX2_init 1 = .ok (.invokespecial 5, 3) := by decide +kernel
theorem dX2_init_4 : decode cX2_init 4 = .ok (.aload_n 0, 1) := by decide +kernel
theorem dX2_init_5 : decode cX2_init 5 = .ok (.sipush 142, 3) := by decide +kernel
theorem dX2_init_8 : decode cX2_init 8 = .ok (.newarray .long, 2) := by decide +kernel
theorem dX2_init_10 : decode cX2_init 10 = .ok (.putfield 11, 3) := by decide +kernel
theorem dX2_init_13 : decode cX2_init 13 = .ok (.return_, 1) := by decide +kernel
theorem dX2_size_0 : decode cX2_size 0 = .ok (.aload_n 0, 1) := by decide +kernel
theorem dX2_size_1 : decode cX2_size 1 = .ok (.getfield 15, 3) := by decide +kernel
theorem dX2_size_4 : decode cX2_size 4 = .ok (.ireturn, 1) := by decide +kernel
theorem dX2_has_0 : decode cX2_has 0 = .ok (.iload_n 1, 1) := by decide +kernel
theorem dX2_has_1 : decode cX2_has 1 = .ok (.ifCond .lt 15, 3) := by decide +kernel
theorem dX2_has_4 : decode cX2_has 4 = .ok (.iload_n 1, 1) := by decide +kernel
theorem dX2_has_5 : decode cX2_has 5 = .ok (.aload_n 0, 1) := by decide +kernel
theorem dX2_has_6 : decode cX2_has 6 = .ok (.getfield 15, 3) := by decide +kernel
theorem dX2_has_9 : decode cX2_has 9 = .ok (.if_icmp .ge 7, 3) := by decide +kernel
theorem dX2_has_12 : decode cX2_has 12 = .ok (.iconst 1, 1) := by decide +kernel
theorem dX2_has_13 : decode cX2_has 13 = .ok (.goto 4, 3) := by decide +kernel
theorem dX2_has_16 : decode cX2_has 16 = .ok (.iconst 0, 1) := by decide +kernel
theorem dX2_has_17 : decode cX2_has 17 = .ok (.ireturn, 1) := by decide +kernel
theorem dX2_at_0 : decode cX2_at 0 = .ok (.aload_n 0, 1) := by decide +kernel
theorem dX2_at_1 : decode cX2_at 1 = .ok (.iload_n 1, 1) := by decide +kernel
theorem dX2_at_2 : decode cX2_at 2 = .ok (.invokevirtual 19, 3) := by decide +kernel
theorem dX2_at_5 : decode cX2_at 5 = .ok (.istore_n 2, 1) := by decide +kernel
theorem dX2_at_6 : decode cX2_at 6 = .ok (.aload_n 0, 1) := by decide +kernel
theorem dX2_at_7 : decode cX2_at 7 = .ok (.getfield 11, 3) := by decide +kernel
theorem dX2_at_10 : decode cX2_at 10 = .ok (.iload_n 2, 1) := by decide +kernel
theorem dX2_at_11 : decode cX2_at 11 = .ok (.bipush 64, 2) := by decide +kernel
theorem dX2_at_13 : decode cX2_at 13 = .ok (.idiv, 1) := by decide +kernel
theorem dX2_at_14 : decode cX2_at 14 = .ok (.laload, 1) := by decide +kernel
theorem dX2_at_15 : decode cX2_at 15 = .ok (.iload_n 2, 1) := by decide +kernel
theorem dX2_at_16 : decode cX2_at 16 = .ok (.bipush 64, 2) := by decide +kernel
theorem dX2_at_18 : decode cX2_at 18 = .ok (.irem, 1) := by decide +kernel
theorem dX2_at_19 : decode cX2_at 19 = .ok (.lushr, 1) := by decide +kernel
theorem dX2_at_20 : decode cX2_at 20 = .ok (.l2i, 1) := by decide +kernel
theorem dX2_at_21 : decode cX2_at 21 = .ok (.iconst 1, 1) := by decide +kernel
theorem dX2_at_22 : decode cX2_at 22 = .ok (.iand, 1) := by decide +kernel
theorem dX2_at_23 : decode cX2_at 23 = .ok (.ireturn, 1) := by decide +kernel
theorem dX2_flip_0 : decode cX2_flip 0 = .ok (.aload_n 0, 1) := by decide +kernel
theorem dX2_flip_1 : decode cX2_flip 1 = .ok (.iload_n 1, 1) := by decide +kernel
theorem dX2_flip_2 : decode cX2_flip 2 = .ok (.invokevirtual 19, 3) := by decide +kernel
theorem dX2_flip_5 : decode cX2_flip 5 = .ok (.istore_n 2, 1) := by decide +kernel
theorem dX2_flip_6 : decode cX2_flip 6 = .ok (.aload_n 0, 1) := by decide +kernel
theorem dX2_flip_7 : decode cX2_flip 7 = .ok (.getfield 11, 3) := by decide +kernel
theorem dX2_flip_10 : decode cX2_flip 10 = .ok (.iload_n 2, 1) := by decide +kernel
theorem dX2_flip_11 : decode cX2_flip 11 = .ok (.bipush 64, 2) := by decide +kernel
theorem dX2_flip_13 : decode cX2_flip 13 = .ok (.idiv, 1) := by decide +kernel
theorem dX2_flip_14 : decode cX2_flip 14 = .ok (.dup2, 1) := by decide +kernel
theorem dX2_flip_15 : decode cX2_flip 15 = .ok (.laload, 1) := by decide +kernel
theorem dX2_flip_16 : decode cX2_flip 16 = .ok (.lconst 1, 1) := by decide +kernel
theorem dX2_flip_17 : decode cX2_flip 17 = .ok (.iload_n 2, 1) := by decide +kernel
theorem dX2_flip_18 : decode cX2_flip 18 = .ok (.bipush 64, 2) := by decide +kernel
theorem dX2_flip_20 : decode cX2_flip 20 = .ok (.irem, 1) := by decide +kernel
theorem dX2_flip_21 : decode cX2_flip 21 = .ok (.lshl, 1) := by decide +kernel
theorem dX2_flip_22 : decode cX2_flip 22 = .ok (.lxor, 1) := by decide +kernel
theorem dX2_flip_23 : decode cX2_flip 23 = .ok (.lastore, 1) := by decide +kernel
theorem dX2_flip_24 : decode cX2_flip 24 = .ok (.return_, 1) := by decide +kernel
theorem dX2_append_0 : decode cX2_append 0 = .ok (.aload_n 0, 1) := by decide +kernel
theorem dX2_append_1 : decode cX2_append 1 = .ok (.aload_n 0, 1) := by decide +kernel
theorem dX2_append_2 : decode cX2_append 2 = .ok (.getfield 15, 3) := by decide +kernel
theorem dX2_append_5 : decode cX2_append 5 = .ok (.invokevirtual 19, 3) := by decide +kernel
theorem dX2_append_8 : decode cX2_append 8 = .ok (.istore_n 2, 1) := by decide +kernel
theorem dX2_append_9 : decode cX2_append 9 = .ok (.aload_n 0, 1) := by decide +kernel
theorem dX2_append_10 : decode cX2_append 10 = .ok (.getfield 11, 3) := by decide +kernel
theorem dX2_append_13 : decode cX2_append 13 = .ok (.iload_n 2, 1) := by decide +kernel
theorem dX2_append_14 : decode cX2_append 14 = .ok (.bipush 64, 2) := by decide +kernel
theorem dX2_append_16 : decode cX2_append 16 = .ok (.idiv, 1) := by decide +kernel
theorem dX2_append_17 : decode cX2_append 17 = .ok (.dup2, 1) := by decide +kernel
theorem dX2_append_18 : decode cX2_append 18 = .ok (.laload, 1) := by decide +kernel
theorem dX2_append_19 : decode cX2_append 19 = .ok (.lconst 1, 1) := by decide +kernel
theorem dX2_append_20 : decode cX2_append 20 = .ok (.iload_n 2, 1) := by decide +kernel
theorem dX2_append_21 : decode cX2_append 21 = .ok (.bipush 64, 2) := by decide +kernel
theorem dX2_append_23 : decode cX2_append 23 = .ok (.irem, 1) := by decide +kernel
theorem dX2_append_24 : decode cX2_append 24 = .ok (.lshl, 1) := by decide +kernel
theorem dX2_append_25 : decode cX2_append 25 = .ok (.ldc2_w 23, 3) := by decide +kernel
theorem dX2_append_28 : decode cX2_append 28 = .ok (.lxor, 1) := by decide +kernel
theorem dX2_append_29 : decode cX2_append 29 = .ok (.land, 1) := by decide +kernel
theorem dX2_append_30 : decode cX2_append 30 = .ok (.lastore, 1) := by decide +kernel
theorem dX2_append_31 : decode cX2_append 31 = .ok (.aload_n 0, 1) := by decide +kernel
theorem dX2_append_32 : decode cX2_append 32 = .ok (.getfield 11, 3) := by decide +kernel
theorem dX2_append_35 : decode cX2_append 35 = .ok (.iload_n 2, 1) := by decide +kernel
theorem dX2_append_36 : decode cX2_append 36 = .ok (.bipush 64, 2) := by decide +kernel
theorem dX2_append_38 : decode cX2_append 38 = .ok (.idiv, 1) := by decide +kernel
theorem dX2_append_39 : decode cX2_append 39 = .ok (.dup2, 1) := by decide +kernel
theorem dX2_append_40 : decode cX2_append 40 = .ok (.laload, 1) := by decide +kernel
theorem dX2_append_41 : decode cX2_append 41 = .ok (.iload_n 1, 1) := by decide +kernel
theorem dX2_append_42 : decode cX2_append 42 = .ok (.i2l, 1) := by decide +kernel
theorem dX2_append_43 : decode cX2_append 43 = .ok (.iload_n 2, 1) := by decide +kernel
theorem dX2_append_44 : decode cX2_append 44 = .ok (.bipush 64, 2) := by decide +kernel
theorem dX2_append_46 : decode cX2_append 46 = .ok (.irem, 1) := by decide +kernel
theorem dX2_append_47 : decode cX2_append 47 = .ok (.lshl, 1) := by decide +kernel
theorem dX2_append_48 : decode cX2_append 48 = .ok (.lor, 1) := by decide +kernel
theorem dX2_append_49 : decode cX2_append 49 = .ok (.lastore, 1) := by decide +kernel
theorem dX2_append_50 : decode cX2_append 50 = .ok (.aload_n 0, 1) := by decide +kernel
theorem dX2_append_51 : decode cX2_append 51 = .ok (.dup, 1) := by decide +kernel
theorem dX2_append_52 : decode cX2_append 52 = .ok (.getfield 15, 3) := by decide +kernel
theorem dX2_append_55 : decode cX2_append 55 = .ok (.iconst 1, 1) := by decide +kernel
theorem dX2_append_56 : decode cX2_append 56 = .ok (.iadd, 1) := by decide +kernel
theorem dX2_append_57 : decode cX2_append 57 = .ok (.putfield 15, 3) := by decide +kernel
theorem dX2_append_60 : decode cX2_append 60 = .ok (.return_, 1) := by decide +kernel
theorem dX2_dropFirst_0 : decode cX2_dropFirst 0 = .ok (.aload_n 0, 1) := by decide +kernel
theorem dX2_dropFirst_1 : decode cX2_dropFirst 1 = .ok (.aload_n 0, 1) := by decide +kernel
theorem dX2_dropFirst_2 : decode cX2_dropFirst 2 = .ok (.iload_n 1, 1) := by decide +kernel
theorem dX2_dropFirst_3 : decode cX2_dropFirst 3 = .ok (.invokevirtual 19, 3) := by decide +kernel
theorem dX2_dropFirst_6 : decode cX2_dropFirst 6 = .ok (.putfield 25, 3) := by decide +kernel
theorem dX2_dropFirst_9 : decode cX2_dropFirst 9 = .ok (.aload_n 0, 1) := by decide +kernel
theorem dX2_dropFirst_10 : decode cX2_dropFirst 10 = .ok (.dup, 1) := by decide +kernel
theorem dX2_dropFirst_11 : decode cX2_dropFirst 11 = .ok (.getfield 15, 3) := by decide +kernel
theorem dX2_dropFirst_14 : decode cX2_dropFirst 14 = .ok (.iload_n 1, 1) := by decide +kernel
theorem dX2_dropFirst_15 : decode cX2_dropFirst 15 = .ok (.isub, 1) := by decide +kernel
theorem dX2_dropFirst_16 : decode cX2_dropFirst 16 = .ok (.putfield 15, 3) := by decide +kernel
theorem dX2_dropFirst_19 : decode cX2_dropFirst 19 = .ok (.return_, 1) := by decide +kernel
theorem dX2_ringPlace_0 : decode cX2_ringPlace 0 = .ok (.aload_n 0, 1) := by decide +kernel
theorem dX2_ringPlace_1 : decode cX2_ringPlace 1 = .ok (.getfield 25, 3) := by decide +kernel
theorem dX2_ringPlace_4 : decode cX2_ringPlace 4 = .ok (.iload_n 1, 1) := by decide +kernel
theorem dX2_ringPlace_5 : decode cX2_ringPlace 5 = .ok (.iadd, 1) := by decide +kernel
theorem dX2_ringPlace_6 : decode cX2_ringPlace 6 = .ok (.sipush 9088, 3) := by decide +kernel
theorem dX2_ringPlace_9 : decode cX2_ringPlace 9 = .ok (.invokestatic 28, 3) := by decide +kernel
theorem dX2_ringPlace_12 : decode cX2_ringPlace 12 = .ok (.ireturn, 1) := by decide +kernel
theorem dX3_init_0 : decode cX3_init 0 = .ok (.aload_n 0, 1) := by decide +kernel
theorem dX3_init_1 : decode cX3_init 1 = .ok (.invokespecial 3, 3) := by decide +kernel
theorem dX3_init_4 : decode cX3_init 4 = .ok (.aload_n 0, 1) := by decide +kernel
theorem dX3_init_5 : decode cX3_init 5 = .ok (.new 9, 3) := by decide +kernel
theorem dX3_init_8 : decode cX3_init 8 = .ok (.dup, 1) := by decide +kernel
theorem dX3_init_9 : decode cX3_init 9 = .ok (.invokespecial 11, 3) := by decide +kernel
theorem dX3_init_12 : decode cX3_init 12 = .ok (.putfield 12, 3) := by decide +kernel
theorem dX3_init_15 : decode cX3_init 15 = .ok (.aload_n 0, 1) := by decide +kernel
theorem dX3_init_16 : decode cX3_init 16 = .ok (.new 18, 3) := by decide +kernel
theorem dX3_init_19 : decode cX3_init 19 = .ok (.dup, 1) := by decide +kernel
theorem dX3_init_20 : decode cX3_init 20 = .ok (.invokespecial 20, 3) := by decide +kernel
theorem dX3_init_23 : decode cX3_init 23 = .ok (.putfield 21, 3) := by decide +kernel
theorem dX3_init_26 : decode cX3_init 26 = .ok (.return_, 1) := by decide +kernel
theorem dX3_isLocked_0 : decode cX3_isLocked 0 = .ok (.aload_n 0, 1) := by decide +kernel
theorem dX3_isLocked_1 : decode cX3_isLocked 1 = .ok (.getfield 25, 3) := by decide +kernel
theorem dX3_isLocked_4 : decode cX3_isLocked 4 = .ok (.ireturn, 1) := by decide +kernel
theorem dX3_hitCount_0 : decode cX3_hitCount 0 = .ok (.aload_n 0, 1) := by decide +kernel
theorem dX3_hitCount_1 : decode cX3_hitCount 1 = .ok (.getfield 29, 3) := by decide +kernel
theorem dX3_hitCount_4 : decode cX3_hitCount 4 = .ok (.ireturn, 1) := by decide +kernel
theorem dX3_slipCount_0 : decode cX3_slipCount 0 = .ok (.aload_n 0, 1) := by decide +kernel
theorem dX3_slipCount_1 : decode cX3_slipCount 1 = .ok (.getfield 33, 3) := by decide +kernel
theorem dX3_slipCount_4 : decode cX3_slipCount 4 = .ok (.ireturn, 1) := by decide +kernel
theorem dX3_bitsOfBlock_0 : decode cX3_bitsOfBlock 0 = .ok (.aload_n 0, 1) := by decide +kernel
theorem dX3_bitsOfBlock_1 : decode cX3_bitsOfBlock 1 = .ok (.getfield 36, 3) := by decide +kernel
theorem dX3_bitsOfBlock_4 : decode cX3_bitsOfBlock 4 = .ok (.ireturn, 1) := by decide +kernel
theorem dX3_groupCount_0 : decode cX3_groupCount 0 = .ok (.aload_n 0, 1) := by decide +kernel
theorem dX3_groupCount_1 : decode cX3_groupCount 1 = .ok (.getfield 21, 3) := by decide +kernel
theorem dX3_groupCount_4 : decode cX3_groupCount 4 = .ok (.invokevirtual 39, 3) := by decide +kernel
theorem dX3_groupCount_7 : decode cX3_groupCount 7 = .ok (.ireturn, 1) := by decide +kernel
theorem dX3_wrongHeadCount_0 : decode cX3_wrongHeadCount 0 = .ok (.aload_n 0, 1) := by decide +kernel
theorem dX3_wrongHeadCount_1 : decode cX3_wrongHeadCount 1 = .ok (.getfield 43, 3) := by decide +kernel
theorem dX3_wrongHeadCount_4 : decode cX3_wrongHeadCount 4 = .ok (.ireturn, 1) := by decide +kernel
theorem dX3_character_0 : decode cX3_character 0 = .ok (.aload_n 0, 1) := by decide +kernel
theorem dX3_character_1 : decode cX3_character 1 = .ok (.getfield 21, 3) := by decide +kernel
theorem dX3_character_4 : decode cX3_character 4 = .ok (.iload_n 1, 1) := by decide +kernel
theorem dX3_character_5 : decode cX3_character 5 = .ok (.iload_n 2, 1) := by decide +kernel
theorem dX3_character_6 : decode cX3_character 6 = .ok (.invokevirtual 46, 3) := by decide +kernel
theorem dX3_character_9 : decode cX3_character 9 = .ok (.ireturn, 1) := by decide +kernel
theorem dX3_exchangeState_0 : decode cX3_exchangeState 0 = .ok (.aload_n 0, 1) := by decide +kernel
theorem dX3_exchangeState_1 : decode cX3_exchangeState 1 = .ok (.getfield 12, 3) := by decide +kernel
theorem dX3_exchangeState_4 : decode cX3_exchangeState 4 = .ok (.lload_n 1, 1) := by decide +kernel
theorem dX3_exchangeState_5 : decode cX3_exchangeState 5 = .ok (.invokevirtual 50, 3) := by decide +kernel
theorem dX3_exchangeState_8 : decode cX3_exchangeState 8 = .ok (.lreturn, 1) := by decide +kernel
theorem dX3_take_0 : decode cX3_take 0 = .ok (.aload_n 0, 1) := by decide +kernel
theorem dX3_take_1 : decode cX3_take 1 = .ok (.getfield 54, 3) := by decide +kernel
theorem dX3_take_4 : decode cX3_take 4 = .ok (.ifCond .eq 9, 3) := by decide +kernel
theorem dX3_take_7 : decode cX3_take 7 = .ok (.aload_n 0, 1) := by decide +kernel
theorem dX3_take_8 : decode cX3_take 8 = .ok (.iconst 0, 1) := by decide +kernel
theorem dX3_take_9 : decode cX3_take 9 = .ok (.putfield 54, 3) := by decide +kernel
theorem dX3_take_12 : decode cX3_take 12 = .ok (.return_, 1) := by decide +kernel
theorem dX3_take_13 : decode cX3_take 13 = .ok (.aload_n 0, 1) := by decide +kernel
theorem dX3_take_14 : decode cX3_take 14 = .ok (.getfield 36, 3) := by decide +kernel
theorem dX3_take_17 : decode cX3_take 17 = .ok (.iconst 2, 1) := by decide +kernel
theorem dX3_take_18 : decode cX3_take 18 = .ok (.if_icmp .ge 18, 3) := by decide +kernel
theorem dX3_take_21 : decode cX3_take 21 = .ok (.aload_n 0, 1) := by decide +kernel
theorem dX3_take_22 : decode cX3_take 22 = .ok (.aload_n 0, 1) := by decide +kernel
theorem dX3_take_23 : decode cX3_take 23 = .ok (.getfield 57, 3) := by decide +kernel
theorem dX3_take_26 : decode cX3_take 26 = .ok (.iconst 1, 1) := by decide +kernel
theorem dX3_take_27 : decode cX3_take 27 = .ok (.ishl, 1) := by decide +kernel
theorem dX3_take_28 : decode cX3_take 28 = .ok (.iload_n 1, 1) := by decide +kernel
theorem dX3_take_29 : decode cX3_take 29 = .ok (.ior, 1) := by decide +kernel
theorem dX3_take_30 : decode cX3_take 30 = .ok (.putfield 57, 3) := by decide +kernel
theorem dX3_take_33 : decode cX3_take 33 = .ok (.goto 28, 3) := by decide +kernel
theorem dX3_take_36 : decode cX3_take 36 = .ok (.aload_n 0, 1) := by decide +kernel
theorem dX3_take_37 : decode cX3_take 37 = .ok (.dup, 1) := by decide +kernel
theorem dX3_take_38 : decode cX3_take 38 = .ok (.getfield 60, 3) := by decide +kernel
theorem dX3_take_41 : decode cX3_take 41 = .ok (.aload_n 0, 1) := by decide +kernel
theorem dX3_take_42 : decode cX3_take 42 = .ok (.getfield 12, 3) := by decide +kernel
theorem dX3_take_45 : decode cX3_take 45 = .ok (.iload_n 1, 1) := by decide +kernel
theorem dX3_take_46 : decode cX3_take 46 = .ok (.invokevirtual 64, 3) := by decide +kernel
theorem dX3_take_49 : decode cX3_take 49 = .ok (.i2l, 1) := by decide +kernel
theorem dX3_take_50 : decode cX3_take 50 = .ok (.aload_n 0, 1) := by decide +kernel
theorem dX3_take_51 : decode cX3_take 51 = .ok (.getfield 36, 3) := by decide +kernel
theorem dX3_take_54 : decode cX3_take 54 = .ok (.iconst 2, 1) := by decide +kernel
theorem dX3_take_55 : decode cX3_take 55 = .ok (.isub, 1) := by decide +kernel
theorem dX3_take_56 : decode cX3_take 56 = .ok (.lshl, 1) := by decide +kernel
theorem dX3_take_57 : decode cX3_take 57 = .ok (.lor, 1) := by decide +kernel
theorem dX3_take_58 : decode cX3_take 58 = .ok (.putfield 60, 3) := by decide +kernel
theorem dX3_take_61 : decode cX3_take 61 = .ok (.aload_n 0, 1) := by decide +kernel
theorem dX3_take_62 : decode cX3_take 62 = .ok (.dup, 1) := by decide +kernel
theorem dX3_take_63 : decode cX3_take 63 = .ok (.getfield 36, 3) := by decide +kernel
theorem dX3_take_66 : decode cX3_take 66 = .ok (.iconst 1, 1) := by decide +kernel
theorem dX3_take_67 : decode cX3_take 67 = .ok (.iadd, 1) := by decide +kernel
theorem dX3_take_68 : decode cX3_take 68 = .ok (.putfield 36, 3) := by decide +kernel
theorem dX3_take_71 : decode cX3_take 71 = .ok (.aload_n 0, 1) := by decide +kernel
theorem dX3_take_72 : decode cX3_take 72 = .ok (.getfield 36, 3) := by decide +kernel
theorem dX3_take_75 : decode cX3_take 75 = .ok (.bipush 66, 2) := by decide +kernel
theorem dX3_take_77 : decode cX3_take 77 = .ok (.if_icmp .ne 11, 3) := by decide +kernel
theorem dX3_take_80 : decode cX3_take 80 = .ok (.aload_n 0, 1) := by decide +kernel
theorem dX3_take_81 : decode cX3_take 81 = .ok (.invokevirtual 68, 3) := by decide +kernel
theorem dX3_take_84 : decode cX3_take 84 = .ok (.aload_n 0, 1) := by decide +kernel
theorem dX3_take_85 : decode cX3_take 85 = .ok (.invokevirtual 71, 3) := by decide +kernel
theorem dX3_take_88 : decode cX3_take 88 = .ok (.return_, 1) := by decide +kernel
theorem dX3_beginBlock_0 : decode cX3_beginBlock 0 = .ok (.aload_n 0, 1) := by decide +kernel
theorem dX3_beginBlock_1 : decode cX3_beginBlock 1 = .ok (.iconst 0, 1) := by decide +kernel
theorem dX3_beginBlock_2 : decode cX3_beginBlock 2 = .ok (.putfield 57, 3) := by decide +kernel
theorem dX3_beginBlock_5 : decode cX3_beginBlock 5 = .ok (.aload_n 0, 1) := by decide +kernel
theorem dX3_beginBlock_6 : decode cX3_beginBlock 6 = .ok (.lconst 0, 1) := by decide +kernel
theorem dX3_beginBlock_7 : decode cX3_beginBlock 7 = .ok (.putfield 60, 3) := by decide +kernel
theorem dX3_beginBlock_10 : decode cX3_beginBlock 10 = .ok (.aload_n 0, 1) := by decide +kernel
theorem dX3_beginBlock_11 : decode cX3_beginBlock 11 = .ok (.iconst 0, 1) := by decide +kernel
theorem dX3_beginBlock_12 : decode cX3_beginBlock 12 = .ok (.putfield 36, 3) := by decide +kernel
theorem dX3_beginBlock_15 : decode cX3_beginBlock 15 = .ok (.return_, 1) := by decide +kernel
theorem dX3_endBlock_0 : decode cX3_endBlock 0 = .ok (.aload_n 0, 1) := by decide +kernel
theorem dX3_endBlock_1 : decode cX3_endBlock 1 = .ok (.getfield 57, 3) := by decide +kernel
theorem dX3_endBlock_4 : decode cX3_endBlock 4 = .ok (.iconst 1, 1) := by decide +kernel
theorem dX3_endBlock_5 : decode cX3_endBlock 5 = .ok (.if_icmp .eq 11, 3) := by decide +kernel
theorem dX3_endBlock_8 : decode cX3_endBlock 8 = .ok (.aload_n 0, 1) := by decide +kernel
theorem dX3_endBlock_9 : decode cX3_endBlock 9 = .ok (.getfield 57, 3) := by decide +kernel
theorem dX3_endBlock_12 : decode cX3_endBlock 12 = .ok (.iconst 2, 1) := by decide +kernel
theorem dX3_endBlock_13 : decode cX3_endBlock 13 = .ok (.if_icmp .ne 7, 3) := by decide +kernel
theorem dX3_endBlock_16 : decode cX3_endBlock 16 = .ok (.iconst 1, 1) := by decide +kernel
theorem dX3_endBlock_17 : decode cX3_endBlock 17 = .ok (.goto 4, 3) := by decide +kernel
theorem dX3_endBlock_20 : decode cX3_endBlock 20 = .ok (.iconst 0, 1) := by decide +kernel
theorem dX3_endBlock_21 : decode cX3_endBlock 21 = .ok (.istore_n 1, 1) := by decide +kernel
theorem dX3_endBlock_22 : decode cX3_endBlock 22 = .ok (.aload_n 0, 1) := by decide +kernel
theorem dX3_endBlock_23 : decode cX3_endBlock 23 = .ok (.getfield 25, 3) := by decide +kernel
theorem dX3_endBlock_26 : decode cX3_endBlock 26 = .ok (.ifCond .eq 33, 3) := by decide +kernel
theorem dX3_endBlock_29 : decode cX3_endBlock 29 = .ok (.aload_n 0, 1) := by decide +kernel
theorem dX3_endBlock_30 : decode cX3_endBlock 30 = .ok (.getfield 21, 3) := by decide +kernel
theorem dX3_endBlock_33 : decode cX3_endBlock 33 = .ok (.aload_n 0, 1) := by decide +kernel
theorem dX3_endBlock_34 : decode cX3_endBlock 34 = .ok (.getfield 57, 3) := by decide +kernel
theorem dX3_endBlock_37 : decode cX3_endBlock 37 = .ok (.aload_n 0, 1) := by decide +kernel
theorem dX3_endBlock_38 : decode cX3_endBlock 38 = .ok (.getfield 60, 3) := by decide +kernel
theorem dX3_endBlock_41 : decode cX3_endBlock 41 = .ok (.invokestatic 74, 3) := by decide +kernel
theorem dX3_endBlock_44 : decode cX3_endBlock 44 = .ok (.aload_n 0, 1) := by decide +kernel
theorem dX3_endBlock_45 : decode cX3_endBlock 45 = .ok (.getfield 60, 3) := by decide +kernel
theorem dX3_endBlock_48 : decode cX3_endBlock 48 = .ok (.invokevirtual 80, 3) := by decide +kernel
theorem dX3_endBlock_51 : decode cX3_endBlock 51 = .ok (.aload_n 0, 1) := by decide +kernel
theorem dX3_endBlock_52 : decode cX3_endBlock 52 = .ok (.iload_n 1, 1) := by decide +kernel
theorem dX3_endBlock_53 : decode cX3_endBlock 53 = .ok (.invokevirtual 84, 3) := by decide +kernel
theorem dX3_endBlock_56 : decode cX3_endBlock 56 = .ok (.goto 8, 3) := by decide +kernel
theorem dX3_endBlock_59 : decode cX3_endBlock 59 = .ok (.aload_n 0, 1) := by decide +kernel
theorem dX3_endBlock_60 : decode cX3_endBlock 60 = .ok (.iload_n 1, 1) := by decide +kernel
theorem dX3_endBlock_61 : decode cX3_endBlock 61 = .ok (.invokevirtual 88, 3) := by decide +kernel
theorem dX3_endBlock_64 : decode cX3_endBlock 64 = .ok (.return_, 1) := by decide +kernel
theorem dX3_countHit_0 : decode cX3_countHit 0 = .ok (.iload_n 1, 1) := by decide +kernel
theorem dX3_countHit_1 : decode cX3_countHit 1 = .ok (.ifCond .ne 8, 3) := by decide +kernel
theorem dX3_countHit_4 : decode cX3_countHit 4 = .ok (.aload_n 0, 1) := by decide +kernel
theorem dX3_countHit_5 : decode cX3_countHit 5 = .ok (.invokevirtual 91, 3) := by decide +kernel
