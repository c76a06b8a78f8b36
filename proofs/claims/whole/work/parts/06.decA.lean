theorem dX0_init_0 : decode cX0_init 0 = .ok (.aload_n 0, 1) := by decide +kernel
theorem dX0_init_1 : decode cX0_init 1 = .ok (.invokespecial 3, 3) := by decide +kernel
theorem dX0_init_4 : decode cX0_init 4 = .ok (.aload_n 0, 1) := by decide +kernel
theorem dX0_init_5 : decode cX0_init 5 = .ok (.iload_n 1, 1) := by decide +kernel
theorem dX0_init_6 : decode cX0_init 6 = .ok (.putfield 9, 3) := by decide +kernel
theorem dX0_init_9 : decode cX0_init 9 = .ok (.aload_n 0, 1) := by decide +kernel
theorem dX0_init_10 : decode cX0_init 10 = .ok (.iload_n 2, 1) := by decide +kernel
theorem dX0_init_11 : decode cX0_init 11 = .ok (.putfield 15, 3) := by decide +kernel
theorem dX0_init_14 : decode cX0_init 14 = .ok (.return_, 1) := by decide +kernel
theorem dX0_unitBits_0 : decode cX0_unitBits 0 = .ok (.iconst 1, 1) := by decide +kernel
theorem dX0_unitBits_1 : decode cX0_unitBits 1 = .ok (.aload_n 0, 1) := by decide +kernel
theorem dX0_unitBits_2 : decode cX0_unitBits 2 = .ok (.getfield 9, 3) := by decide +kernel
theorem dX0_unitBits_5 : decode cX0_unitBits 5 = .ok (.iconst 1, 1) := by decide +kernel
theorem dX0_unitBits_6 : decode cX0_unitBits 6 = .ok (.isub, 1) := by decide +kernel
theorem dX0_unitBits_7 : decode cX0_unitBits 7 = .ok (.ishl, 1) := by decide +kernel
theorem dX0_unitBits_8 : decode cX0_unitBits 8 = .ok (.iconst 2, 1) := by decide +kernel
theorem dX0_unitBits_9 : decode cX0_unitBits 9 = .ok (.isub, 1) := by decide +kernel
theorem dX0_unitBits_10 : decode cX0_unitBits 10 = .ok (.aload_n 0, 1) := by decide +kernel
theorem dX0_unitBits_11 : decode cX0_unitBits 11 = .ok (.getfield 15, 3) := by decide +kernel
theorem dX0_unitBits_14 : decode cX0_unitBits 14 = .ok (.iadd, 1) := by decide +kernel
theorem dX0_unitBits_15 : decode cX0_unitBits 15 = .ok (.ireturn, 1) := by decide +kernel
theorem dX0_signBit_0 : decode cX0_signBit 0 = .ok (.iconst 1, 1) := by decide +kernel
theorem dX0_signBit_1 : decode cX0_signBit 1 = .ok (.aload_n 0, 1) := by decide +kernel
theorem dX0_signBit_2 : decode cX0_signBit 2 = .ok (.getfield 9, 3) := by decide +kernel
theorem dX0_signBit_5 : decode cX0_signBit 5 = .ok (.aload_n 0, 1) := by decide +kernel
theorem dX0_signBit_6 : decode cX0_signBit 6 = .ok (.getfield 15, 3) := by decide +kernel
theorem dX0_signBit_9 : decode cX0_signBit 9 = .ok (.iadd, 1) := by decide +kernel
theorem dX0_signBit_10 : decode cX0_signBit 10 = .ok (.ishl, 1) := by decide +kernel
theorem dX0_signBit_11 : decode cX0_signBit 11 = .ok (.ireturn, 1) := by decide +kernel
theorem dX0_endlessPattern_0 : decode cX0_endlessPattern 0 = .ok (.iconst 1, 1) := by decide +kernel
theorem dX0_endlessPattern_1 : decode cX0_endlessPattern 1 = .ok (.aload_n 0, 1) := by decide +kernel
theorem dX0_endlessPattern_2 : decode cX0_endlessPattern 2 = .ok (.getfield 9, 3) := by decide +kernel
theorem dX0_endlessPattern_5 : decode cX0_endlessPattern 5 = .ok (.ishl, 1) := by decide +kernel
theorem dX0_endlessPattern_6 : decode cX0_endlessPattern 6 = .ok (.iconst 1, 1) := by decide +kernel
theorem dX0_endlessPattern_7 : decode cX0_endlessPattern 7 = .ok (.isub, 1) := by decide +kernel
theorem dX0_endlessPattern_8 : decode cX0_endlessPattern 8 = .ok (.aload_n 0, 1) := by decide +kernel
theorem dX0_endlessPattern_9 : decode cX0_endlessPattern 9 = .ok (.getfield 15, 3) := by decide +kernel
theorem dX0_endlessPattern_12 : decode cX0_endlessPattern 12 = .ok (.ishl, 1) := by decide +kernel
theorem dX0_endlessPattern_13 : decode cX0_endlessPattern 13 = .ok (.ireturn, 1) := by decide +kernel
theorem dX0_isPattern_0 : decode cX0_isPattern 0 = .ok (.iload_n 1, 1) := by decide +kernel
theorem dX0_isPattern_1 : decode cX0_isPattern 1 = .ok (.ifCond .lt 32, 3) := by decide +kernel
theorem dX0_isPattern_4 : decode cX0_isPattern 4 = .ok (.iload_n 1, 1) := by decide +kernel
theorem dX0_isPattern_5 : decode cX0_isPattern 5 = .ok (.iconst 2, 1) := by decide +kernel
theorem dX0_isPattern_6 : decode cX0_isPattern 6 = .ok (.aload_n 0, 1) := by decide +kernel
theorem dX0_isPattern_7 : decode cX0_isPattern 7 = .ok (.invokevirtual 18, 3) := by decide +kernel
theorem dX0_isPattern_10 : decode cX0_isPattern 10 = .ok (.imul, 1) := by decide +kernel
theorem dX0_isPattern_11 : decode cX0_isPattern 11 = .ok (.if_icmp .ge 22, 3) := by decide +kernel
theorem dX0_isPattern_14 : decode cX0_isPattern 14 = .ok (.iload_n 1, 1) := by decide +kernel
theorem dX0_isPattern_15 : decode cX0_isPattern 15 = .ok (.aload_n 0, 1) := by decide +kernel
theorem dX0_isPattern_16 : decode cX0_isPattern 16 = .ok (.invokevirtual 18, 3) := by decide +kernel
theorem dX0_isPattern_19 : decode cX0_isPattern 19 = .ok (.iconst 1, 1) := by decide +kernel
theorem dX0_isPattern_20 : decode cX0_isPattern 20 = .ok (.isub, 1) := by decide +kernel
theorem dX0_isPattern_21 : decode cX0_isPattern 21 = .ok (.iand, 1) := by decide +kernel
theorem dX0_isPattern_22 : decode cX0_isPattern 22 = .ok (.aload_n 0, 1) := by decide +kernel
theorem dX0_isPattern_23 : decode cX0_isPattern 23 = .ok (.invokevirtual 22, 3) := by decide +kernel
theorem dX0_isPattern_26 : decode cX0_isPattern 26 = .ok (.if_icmp .gt 7, 3) := by decide +kernel
theorem dX0_isPattern_29 : decode cX0_isPattern 29 = .ok (.iconst 1, 1) := by decide +kernel
theorem dX0_isPattern_30 : decode cX0_isPattern 30 = .ok (.goto 4, 3) := by decide +kernel
theorem dX0_isPattern_33 : decode cX0_isPattern 33 = .ok (.iconst 0, 1) := by decide +kernel
theorem dX0_isPattern_34 : decode cX0_isPattern 34 = .ok (.ireturn, 1) := by decide +kernel
theorem dX0_numberOf_0 : decode cX0_numberOf 0 = .ok (.aload_n 0, 1) := by decide +kernel
theorem dX0_numberOf_1 : decode cX0_numberOf 1 = .ok (.iload_n 1, 1) := by decide +kernel
theorem dX0_numberOf_2 : decode cX0_numberOf 2 = .ok (.aload_n 0, 1) := by decide +kernel
theorem dX0_numberOf_3 : decode cX0_numberOf 3 = .ok (.invokevirtual 18, 3) := by decide +kernel
theorem dX0_numberOf_6 : decode cX0_numberOf 6 = .ok (.iconst 1, 1) := by decide +kernel
theorem dX0_numberOf_7 : decode cX0_numberOf 7 = .ok (.isub, 1) := by decide +kernel
theorem dX0_numberOf_8 : decode cX0_numberOf 8 = .ok (.iand, 1) := by decide +kernel
theorem dX0_numberOf_9 : decode cX0_numberOf 9 = .ok (.invokevirtual 25, 3) := by decide +kernel
theorem dX0_numberOf_12 : decode cX0_numberOf 12 = .ok (.lstore_n 2, 1) := by decide +kernel
theorem dX0_numberOf_13 : decode cX0_numberOf 13 = .ok (.iload_n 1, 1) := by decide +kernel
theorem dX0_numberOf_14 : decode cX0_numberOf 14 = .ok (.aload_n 0, 1) := by decide +kernel
theorem dX0_numberOf_15 : decode cX0_numberOf 15 = .ok (.invokevirtual 18, 3) := by decide +kernel
theorem dX0_numberOf_18 : decode cX0_numberOf 18 = .ok (.iand, 1) := by decide +kernel
theorem dX0_numberOf_19 : decode cX0_numberOf 19 = .ok (.ifCond .eq 8, 3) := by decide +kernel
theorem dX0_numberOf_22 : decode cX0_numberOf 22 = .ok (.lload_n 2, 1) := by decide +kernel
theorem dX0_numberOf_23 : decode cX0_numberOf 23 = .ok (.lneg, 1) := by decide +kernel
theorem dX0_numberOf_24 : decode cX0_numberOf 24 = .ok (.goto 4, 3) := by decide +kernel
theorem dX0_numberOf_27 : decode cX0_numberOf 27 = .ok (.lload_n 2, 1) := by decide +kernel
theorem dX0_numberOf_28 : decode cX0_numberOf 28 = .ok (.lreturn, 1) := by decide +kernel
theorem dX0_sizeOf_0 : decode cX0_sizeOf 0 = .ok (.iload_n 1, 1) := by decide +kernel
theorem dX0_sizeOf_1 : decode cX0_sizeOf 1 = .ok (.aload_n 0, 1) := by decide +kernel
theorem dX0_sizeOf_2 : decode cX0_sizeOf 2 = .ok (.invokevirtual 22, 3) := by decide +kernel
theorem dX0_sizeOf_5 : decode cX0_sizeOf 5 = .ok (.if_icmp .ne 7, 3) := by decide +kernel
theorem dX0_sizeOf_8 : decode cX0_sizeOf 8 = .ok (.ldc2_w 29, 3) := by decide +kernel
theorem dX0_sizeOf_11 : decode cX0_sizeOf 11 = .ok (.lreturn, 1) := by decide +kernel
theorem dX0_sizeOf_12 : decode cX0_sizeOf 12 = .ok (.iload_n 1, 1) := by decide +kernel
theorem dX0_sizeOf_13 : decode cX0_sizeOf 13 = .ok (.aload_n 0, 1) := by decide +kernel
theorem dX0_sizeOf_14 : decode cX0_sizeOf 14 = .ok (.getfield 15, 3) := by decide +kernel
theorem dX0_sizeOf_17 : decode cX0_sizeOf 17 = .ok (.ishr, 1) := by decide +kernel
theorem dX0_sizeOf_18 : decode cX0_sizeOf 18 = .ok (.istore_n 2, 1) := by decide +kernel
theorem dX0_sizeOf_19 : decode cX0_sizeOf 19 = .ok (.iload_n 1, 1) := by decide +kernel
theorem dX0_sizeOf_20 : decode cX0_sizeOf 20 = .ok (.iconst 1, 1) := by decide +kernel
theorem dX0_sizeOf_21 : decode cX0_sizeOf 21 = .ok (.aload_n 0, 1) := by decide +kernel
theorem dX0_sizeOf_22 : decode cX0_sizeOf 22 = .ok (.getfield 15, 3) := by decide +kernel
theorem dX0_sizeOf_25 : decode cX0_sizeOf 25 = .ok (.ishl, 1) := by decide +kernel
theorem dX0_sizeOf_26 : decode cX0_sizeOf 26 = .ok (.iconst 1, 1) := by decide +kernel
theorem dX0_sizeOf_27 : decode cX0_sizeOf 27 = .ok (.isub, 1) := by decide +kernel
theorem dX0_sizeOf_28 : decode cX0_sizeOf 28 = .ok (.iand, 1) := by decide +kernel
theorem dX0_sizeOf_29 : decode cX0_sizeOf 29 = .ok (.i2l, 1) := by decide +kernel
theorem dX0_sizeOf_30 : decode cX0_sizeOf 30 = .ok (.lstore_n 3, 1) := by decide +kernel
theorem dX0_sizeOf_31 : decode cX0_sizeOf 31 = .ok (.iload_n 2, 1) := by decide +kernel
theorem dX0_sizeOf_32 : decode cX0_sizeOf 32 = .ok (.ifCond .ne 7, 3) := by decide +kernel
theorem dX0_sizeOf_35 : decode cX0_sizeOf 35 = .ok (.lload_n 3, 1) := by decide +kernel
theorem dX0_sizeOf_36 : decode cX0_sizeOf 36 = .ok (.goto 15, 3) := by decide +kernel
theorem dX0_sizeOf_39 : decode cX0_sizeOf 39 = .ok (.lconst 1, 1) := by decide +kernel
theorem dX0_sizeOf_40 : decode cX0_sizeOf 40 = .ok (.aload_n 0, 1) := by decide +kernel
theorem dX0_sizeOf_41 : decode cX0_sizeOf 41 = .ok (.getfield 15, 3) := by decide +kernel
theorem dX0_sizeOf_44 : decode cX0_sizeOf 44 = .ok (.lshl, 1) := by decide +kernel
theorem dX0_sizeOf_45 : decode cX0_sizeOf 45 = .ok (.lload_n 3, 1) := by decide +kernel
theorem dX0_sizeOf_46 : decode cX0_sizeOf 46 = .ok (.ladd, 1) := by decide +kernel
theorem dX0_sizeOf_47 : decode cX0_sizeOf 47 = .ok (.iload_n 2, 1) := by decide +kernel
theorem dX0_sizeOf_48 : decode cX0_sizeOf 48 = .ok (.iconst 1, 1) := by decide +kernel
theorem dX0_sizeOf_49 : decode cX0_sizeOf 49 = .ok (.isub, 1) := by decide +kernel
theorem dX0_sizeOf_50 : decode cX0_sizeOf 50 = .ok (.lshl, 1) := by decide +kernel
theorem dX0_sizeOf_51 : decode cX0_sizeOf 51 = .ok (.lreturn, 1) := by decide +kernel
theorem dX0_patternOf_0 : decode cX0_patternOf 0 = .ok (.lload_n 1, 1) := by decide +kernel
theorem dX0_patternOf_1 : decode cX0_patternOf 1 = .ok (.lconst 0, 1) := by decide +kernel
theorem dX0_patternOf_2 : decode cX0_patternOf 2 = .ok (.lcmp, 1) := by decide +kernel
theorem dX0_patternOf_3 : decode cX0_patternOf 3 = .ok (.ifCond .ge 17, 3) := by decide +kernel
theorem dX0_patternOf_6 : decode cX0_patternOf 6 = .ok (.aload_n 0, 1) := by decide +kernel
theorem dX0_patternOf_7 : decode cX0_patternOf 7 = .ok (.invokevirtual 18, 3) := by decide +kernel
theorem dX0_patternOf_10 : decode cX0_patternOf 10 = .ok (.aload_n 0, 1) := by decide +kernel
theorem dX0_patternOf_11 : decode cX0_patternOf 11 = .ok (.lload_n 1, 1) := by decide +kernel
theorem dX0_patternOf_12 : decode cX0_patternOf 12 = .ok (.lneg, 1) := by decide +kernel
theorem dX0_patternOf_13 : decode cX0_patternOf 13 = .ok (.invokevirtual 31, 3) := by decide +kernel
theorem dX0_patternOf_16 : decode cX0_patternOf 16 = .ok (.ior, 1) := by decide +kernel
theorem dX0_patternOf_17 : decode cX0_patternOf 17 = .ok (.goto 8, 3) := by decide +kernel
theorem dX0_patternOf_20 : decode cX0_patternOf 20 = .ok (.aload_n 0, 1) := by decide +kernel
theorem dX0_patternOf_21 : decode cX0_patternOf 21 = .ok (.lload_n 1, 1) := by decide +kernel
theorem dX0_patternOf_22 : decode cX0_patternOf 22 = .ok (.invokevirtual 31, 3) := by decide +kernel
theorem dX0_patternOf_25 : decode cX0_patternOf 25 = .ok (.ireturn, 1) := by decide +kernel
theorem dX0_unsignedOf_0 : decode cX0_unsignedOf 0 = .ok (.lload_n 1, 1) := by decide +kernel
theorem dX0_unsignedOf_1 : decode cX0_unsignedOf 1 = .ok (.ldc2_w 29, 3) := by decide +kernel
theorem dX0_unsignedOf_4 : decode cX0_unsignedOf 4 = .ok (.lcmp, 1) := by decide +kernel
theorem dX0_unsignedOf_5 : decode cX0_unsignedOf 5 = .ok (.ifCond .ne 8, 3) := by decide +kernel
theorem dX0_unsignedOf_8 : decode cX0_unsignedOf 8 = .ok (.aload_n 0, 1) := by decide +kernel
theorem dX0_unsignedOf_9 : decode cX0_unsignedOf 9 = .ok (.invokevirtual 22, 3) := by decide +kernel
theorem dX0_unsignedOf_12 : decode cX0_unsignedOf 12 = .ok (.ireturn, 1) := by decide +kernel
theorem dX0_unsignedOf_13 : decode cX0_unsignedOf 13 = .ok (.aload_n 0, 1) := by decide +kernel
theorem dX0_unsignedOf_14 : decode cX0_unsignedOf 14 = .ok (.lload_n 1, 1) := by decide +kernel
theorem dX0_unsignedOf_15 : decode cX0_unsignedOf 15 = .ok (.invokevirtual 35, 3) := by decide +kernel
theorem dX0_unsignedOf_18 : decode cX0_unsignedOf 18 = .ok (.istore_n 3, 1) := by decide +kernel
theorem dX0_unsignedOf_19 : decode cX0_unsignedOf 19 = .ok (.iload_n 3, 1) := by decide +kernel
theorem dX0_unsignedOf_20 : decode cX0_unsignedOf 20 = .ok (.aload_n 0, 1) := by decide +kernel
theorem dX0_unsignedOf_21 : decode cX0_unsignedOf 21 = .ok (.getfield 15, 3) := by decide +kernel
theorem dX0_unsignedOf_24 : decode cX0_unsignedOf 24 = .ok (.ishl, 1) := by decide +kernel
theorem dX0_unsignedOf_25 : decode cX0_unsignedOf 25 = .ok (.lload_n 1, 1) := by decide +kernel
theorem dX0_unsignedOf_26 : decode cX0_unsignedOf 26 = .ok (.iload_n 3, 1) := by decide +kernel
theorem dX0_unsignedOf_27 : decode cX0_unsignedOf 27 = .ok (.lshr, 1) := by decide +kernel
theorem dX0_unsignedOf_28 : decode cX0_unsignedOf 28 = .ok (.l2i, 1) := by decide +kernel
theorem dX0_unsignedOf_29 : decode cX0_unsignedOf 29 = .ok (.iadd, 1) := by decide +kernel
theorem dX0_unsignedOf_30 : decode cX0_unsignedOf 30 = .ok (.ireturn, 1) := by decide +kernel
theorem dX0_extraBits_0 : decode cX0_extraBits 0 = .ok (.iconst 0, 1) := by decide +kernel
theorem dX0_extraBits_1 : decode cX0_extraBits 1 = .ok (.istore_n 3, 1) := by decide +kernel
theorem dX0_extraBits_2 : decode cX0_extraBits 2 = .ok (.iload_n 3, 1) := by decide +kernel
theorem dX0_extraBits_3 : decode cX0_extraBits 3 = .ok (.bipush 62, 2) := by decide +kernel
theorem dX0_extraBits_5 : decode cX0_extraBits 5 = .ok (.if_icmp .ge 26, 3) := by decide +kernel
theorem dX0_extraBits_8 : decode cX0_extraBits 8 = .ok (.lload_n 1, 1) := by decide +kernel
theorem dX0_extraBits_9 : decode cX0_extraBits 9 = .ok (.iload_n 3, 1) := by decide +kernel
theorem dX0_extraBits_10 : decode cX0_extraBits 10 = .ok (.lshr, 1) := by decide +kernel
theorem dX0_extraBits_11 : decode cX0_extraBits 11 = .ok (.ldc2_w 38, 3) := by decide +kernel
theorem dX0_extraBits_14 : decode cX0_extraBits 14 = .ok (.aload_n 0, 1) := by decide +kernel
theorem dX0_extraBits_15 : decode cX0_extraBits 15 = .ok (.getfield 15, 3) := by decide +kernel
theorem dX0_extraBits_18 : decode cX0_extraBits 18 = .ok (.lshl, 1) := by decide +kernel
theorem dX0_extraBits_19 : decode cX0_extraBits 19 = .ok (.lcmp, 1) := by decide +kernel
theorem dX0_extraBits_20 : decode cX0_extraBits 20 = .ok (.ifCond .ge 5, 3) := by decide +kernel
theorem dX0_extraBits_23 : decode cX0_extraBits 23 = .ok (.iload_n 3, 1) := by decide +kernel
theorem dX0_extraBits_24 : decode cX0_extraBits 24 = .ok (.ireturn, 1) := by decide +kernel
theorem dX0_extraBits_25 : decode cX0_extraBits 25 = .ok (.iinc 3 1, 3) := by decide +kernel
theorem dX0_extraBits_28 : decode cX0_extraBits 28 = .ok (.goto (-26), 3) := by decide +kernel
theorem dX0_extraBits_31 : decode cX0_extraBits 31 = .ok (.bipush 62, 2) := by decide +kernel
theorem dX0_extraBits_33 : decode cX0_extraBits 33 = .ok (.ireturn, 1) := by decide +kernel
theorem dX0_notAbove_0 : decode cX0_notAbove 0 = .ok (.lload_n 1, 1) := by decide +kernel
theorem dX0_notAbove_1 : decode cX0_notAbove 1 = .ok (.lconst 0, 1) := by decide +kernel
theorem dX0_notAbove_2 : decode cX0_notAbove 2 = .ok (.lcmp, 1) := by decide +kernel
theorem dX0_notAbove_3 : decode cX0_notAbove 3 = .ok (.ifCond .ge 13, 3) := by decide +kernel
theorem dX0_notAbove_6 : decode cX0_notAbove 6 = .ok (.aload_n 0, 1) := by decide +kernel
theorem dX0_notAbove_7 : decode cX0_notAbove 7 = .ok (.lload_n 1, 1) := by decide +kernel
theorem dX0_notAbove_8 : decode cX0_notAbove 8 = .ok (.lneg, 1) := by decide +kernel
theorem dX0_notAbove_9 : decode cX0_notAbove 9 = .ok (.invokevirtual 40, 3) := by decide +kernel
theorem dX0_notAbove_12 : decode cX0_notAbove 12 = .ok (.lneg, 1) := by decide +kernel
theorem dX0_notAbove_13 : decode cX0_notAbove 13 = .ok (.goto 8, 3) := by decide +kernel
theorem dX0_notAbove_16 : decode cX0_notAbove 16 = .ok (.aload_n 0, 1) := by decide +kernel
theorem dX0_notAbove_17 : decode cX0_notAbove 17 = .ok (.lload_n 1, 1) := by decide +kernel
theorem dX0_notAbove_18 : decode cX0_notAbove 18 = .ok (.invokevirtual 44, 3) := by decide +kernel
theorem dX0_notAbove_21 : decode cX0_notAbove 21 = .ok (.lreturn, 1) := by decide +kernel
theorem dX0_notBelow_0 : decode cX0_notBelow 0 = .ok (.aload_n 0, 1) := by decide +kernel
theorem dX0_notBelow_1 : decode cX0_notBelow 1 = .ok (.lload_n 1, 1) := by decide +kernel
theorem dX0_notBelow_2 : decode cX0_notBelow 2 = .ok (.lneg, 1) := by decide +kernel
theorem dX0_notBelow_3 : decode cX0_notBelow 3 = .ok (.invokevirtual 47, 3) := by decide +kernel
theorem dX0_notBelow_6 : decode cX0_notBelow 6 = .ok (.lneg, 1) := by decide +kernel
theorem dX0_notBelow_7 : decode cX0_notBelow 7 = .ok (.lreturn, 1) := by decide +kernel
theorem dX0_sizeNotAbove_0 : decode cX0_sizeNotAbove 0 = .ok (.aload_n 0, 1) := by decide +kernel
theorem dX0_sizeNotAbove_1 : decode cX0_sizeNotAbove 1 = .ok (.aload_n 0, 1) := by decide +kernel
theorem dX0_sizeNotAbove_2 : decode cX0_sizeNotAbove 2 = .ok (.invokevirtual 22, 3) := by decide +kernel
theorem dX0_sizeNotAbove_5 : decode cX0_sizeNotAbove 5 = .ok (.iconst 1, 1) := by decide +kernel
theorem dX0_sizeNotAbove_6 : decode cX0_sizeNotAbove 6 = .ok (.isub, 1) := by decide +kernel
theorem dX0_sizeNotAbove_7 : decode cX0_sizeNotAbove 7 = .ok (.invokevirtual 25, 3) := by decide +kernel
theorem dX0_sizeNotAbove_10 : decode cX0_sizeNotAbove 10 = .ok (.lstore_n 3, 1) := by decide +kernel
theorem dX0_sizeNotAbove_11 : decode cX0_sizeNotAbove 11 = .ok (.lload_n 1, 1) := by decide +kernel
theorem dX0_sizeNotAbove_12 : decode cX0_sizeNotAbove 12 = .ok (.lload_n 3, 1) := by decide +kernel
theorem dX0_sizeNotAbove_13 : decode cX0_sizeNotAbove 13 = .ok (.lcmp, 1) := by decide +kernel
theorem dX0_sizeNotAbove_14 : decode cX0_sizeNotAbove 14 = .ok (.ifCond .le 5, 3) := by decide +kernel
theorem dX0_sizeNotAbove_17 : decode cX0_sizeNotAbove 17 = .ok (.lload_n 3, 1) := by decide +kernel
theorem dX0_sizeNotAbove_18 : decode cX0_sizeNotAbove 18 = .ok (.lreturn, 1) := by decide +kernel
theorem dX0_sizeNotAbove_19 : decode cX0_sizeNotAbove 19 = .ok (.aload_n 0, 1) := by decide +kernel
theorem dX0_sizeNotAbove_20 : decode cX0_sizeNotAbove 20 = .ok (.lload_n 1, 1) := by decide +kernel
theorem dX0_sizeNotAbove_21 : decode cX0_sizeNotAbove 21 = .ok (.invokevirtual 35, 3) := by decide +kernel
theorem dX0_sizeNotAbove_24 : decode cX0_sizeNotAbove 24 = .ok (.istore 5, 2) := by decide +kernel
theorem dX0_sizeNotAbove_26 : decode cX0_sizeNotAbove 26 = .ok (.lload_n 1, 1) := by decide +kernel
theorem dX0_sizeNotAbove_27 : decode cX0_sizeNotAbove 27 = .ok (.iload 5, 2) := by decide +kernel
theorem dX0_sizeNotAbove_29 : decode cX0_sizeNotAbove 29 = .ok (.lshr, 1) := by decide +kernel
theorem dX0_sizeNotAbove_30 : decode cX0_sizeNotAbove 30 = .ok (.iload 5, 2) := by decide +kernel
theorem dX0_sizeNotAbove_32 : decode cX0_sizeNotAbove 32 = .ok (.lshl, 1) := by decide +kernel
theorem dX0_sizeNotAbove_33 : decode cX0_sizeNotAbove 33 = .ok (.lreturn, 1) := by decide +kernel
theorem dX0_sizeNotBelow_0 : decode cX0_sizeNotBelow 0 = .ok (.lload_n 1, 1) := by decide +kernel
theorem dX0_sizeNotBelow_1 : decode cX0_sizeNotBelow 1 = .ok (.aload_n 0, 1) := by decide +kernel
theorem dX0_sizeNotBelow_2 : decode cX0_sizeNotBelow 2 = .ok (.aload_n 0, 1) := by decide +kernel
theorem dX0_sizeNotBelow_3 : decode cX0_sizeNotBelow 3 = .ok (.invokevirtual 22, 3) := by decide +kernel
theorem dX0_sizeNotBelow_6 : decode cX0_sizeNotBelow 6 = .ok (.iconst 1, 1) := by decide +kernel
theorem dX0_sizeNotBelow_7 : decode cX0_sizeNotBelow 7 = .ok (.isub, 1) := by decide +kernel
theorem dX0_sizeNotBelow_8 : decode cX0_sizeNotBelow 8 = .ok (.invokevirtual 25, 3) := by decide +kernel
theorem dX0_sizeNotBelow_11 : decode cX0_sizeNotBelow 11 = .ok (.lcmp, 1) := by decide +kernel
theorem dX0_sizeNotBelow_12 : decode cX0_sizeNotBelow 12 = .ok (.ifCond .le 7, 3) := by decide +kernel
theorem dX0_sizeNotBelow_15 : decode cX0_sizeNotBelow 15 = .ok (.ldc2_w 29, 3) := by decide +kernel
theorem dX0_sizeNotBelow_18 : decode cX0_sizeNotBelow 18 = .ok (.lreturn, 1) := by decide +kernel
theorem dX0_sizeNotBelow_19 : decode cX0_sizeNotBelow 19 = .ok (.aload_n 0, 1) := by decide +kernel
theorem dX0_sizeNotBelow_20 : decode cX0_sizeNotBelow 20 = .ok (.lload_n 1, 1) := by decide +kernel
theorem dX0_sizeNotBelow_21 : decode cX0_sizeNotBelow 21 = .ok (.invokevirtual 35, 3) := by decide +kernel
theorem dX0_sizeNotBelow_24 : decode cX0_sizeNotBelow 24 = .ok (.istore_n 3, 1) := by decide +kernel
theorem dX0_sizeNotBelow_25 : decode cX0_sizeNotBelow 25 = .ok (.lload_n 1, 1) := by decide +kernel
theorem dX0_sizeNotBelow_26 : decode cX0_sizeNotBelow 26 = .ok (.lconst 1, 1) := by decide +kernel
theorem dX0_sizeNotBelow_27 : decode cX0_sizeNotBelow 27 = .ok (.iload_n 3, 1) := by decide +kernel
theorem dX0_sizeNotBelow_28 : decode cX0_sizeNotBelow 28 = .ok (.lshl, 1) := by decide +kernel
theorem dX0_sizeNotBelow_29 : decode cX0_sizeNotBelow 29 = .ok (.ladd, 1) := by decide +kernel
theorem dX0_sizeNotBelow_30 : decode cX0_sizeNotBelow 30 = .ok (.lconst 1, 1) := by decide +kernel
theorem dX0_sizeNotBelow_31 : decode cX0_sizeNotBelow 31 = .ok (.lsub, 1) := by decide +kernel
theorem dX0_sizeNotBelow_32 : decode cX0_sizeNotBelow 32 = .ok (.iload_n 3, 1) := by decide +kernel
theorem dX0_sizeNotBelow_33 : decode cX0_sizeNotBelow 33 = .ok (.lshr, 1) := by decide +kernel
theorem dX0_sizeNotBelow_34 : decode cX0_sizeNotBelow 34 = .ok (.iload_n 3, 1) := by decide +kernel
theorem dX0_sizeNotBelow_35 : decode cX0_sizeNotBelow 35 = .ok (.lshl, 1) := by decide +kernel
theorem dX0_sizeNotBelow_36 : decode cX0_sizeNotBelow 36 = .ok (.lreturn, 1) := by decide +kernel
theorem dX0_patternOfHalf_0 : decode cX0_patternOfHalf 0 = .ok (.aload_n 0, 1) := by decide +kernel
theorem dX0_patternOfHalf_1 : decode cX0_patternOfHalf 1 = .ok (.lload_n 1, 1) := by decide +kernel
theorem dX0_patternOfHalf_2 : decode cX0_patternOfHalf 2 = .ok (.iconst 1, 1) := by decide +kernel
theorem dX0_patternOfHalf_3 : decode cX0_patternOfHalf 3 = .ok (.lshr, 1) := by decide +kernel
theorem dX0_patternOfHalf_4 : decode cX0_patternOfHalf 4 = .ok (.invokevirtual 47, 3) := by decide +kernel
theorem dX0_patternOfHalf_7 : decode cX0_patternOfHalf 7 = .ok (.lstore_n 3, 1) := by decide +kernel
theorem dX0_patternOfHalf_8 : decode cX0_patternOfHalf 8 = .ok (.aload_n 0, 1) := by decide +kernel
theorem dX0_patternOfHalf_9 : decode cX0_patternOfHalf 9 = .ok (.lload_n 1, 1) := by decide +kernel
theorem dX0_patternOfHalf_10 : decode cX0_patternOfHalf 10 = .ok (.lload_n 1, 1) := by decide +kernel
theorem dX0_patternOfHalf_11 : decode cX0_patternOfHalf 11 = .ok (.iconst 1, 1) := by decide +kernel
theorem dX0_patternOfHalf_12 : decode cX0_patternOfHalf 12 = .ok (.lshr, 1) := by decide +kernel
theorem dX0_patternOfHalf_13 : decode cX0_patternOfHalf 13 = .ok (.lsub, 1) := by decide +kernel
theorem dX0_patternOfHalf_14 : decode cX0_patternOfHalf 14 = .ok (.invokevirtual 50, 3) := by decide +kernel
theorem dX0_patternOfHalf_17 : decode cX0_patternOfHalf 17 = .ok (.lstore 5, 2) := by decide +kernel
theorem dX0_patternOfHalf_19 : decode cX0_patternOfHalf 19 = .ok (.lload_n 1, 1) := by decide +kernel
theorem dX0_patternOfHalf_20 : decode cX0_patternOfHalf 20 = .ok (.ldc2_w 38, 3) := by decide +kernel
theorem dX0_patternOfHalf_23 : decode cX0_patternOfHalf 23 = .ok (.lload_n 3, 1) := by decide +kernel
theorem dX0_patternOfHalf_24 : decode cX0_patternOfHalf 24 = .ok (.lmul, 1) := by decide +kernel
theorem dX0_patternOfHalf_25 : decode cX0_patternOfHalf 25 = .ok (.lsub, 1) := by decide +kernel
theorem dX0_patternOfHalf_26 : decode cX0_patternOfHalf 26 = .ok (.lstore 7, 2) := by decide +kernel
theorem dX0_patternOfHalf_28 : decode cX0_patternOfHalf 28 = .ok (.ldc2_w 38, 3) := by decide +kernel
theorem dX0_patternOfHalf_31 : decode cX0_patternOfHalf 31 = .ok (.lload 5, 2) := by decide +kernel
theorem dX0_patternOfHalf_33 : decode cX0_patternOfHalf 33 = .ok (.lmul, 1) := by decide +kernel
theorem dX0_patternOfHalf_34 : decode cX0_patternOfHalf 34 = .ok (.lload_n 1, 1) := by decide +kernel
theorem dX0_patternOfHalf_35 : decode cX0_patternOfHalf 35 = .ok (.lsub, 1) := by decide +kernel
theorem dX0_patternOfHalf_36 : decode cX0_patternOfHalf 36 = .ok (.lstore 9, 2) := by decide +kernel
theorem dX0_patternOfHalf_38 : decode cX0_patternOfHalf 38 = .ok (.aload_n 0, 1) := by decide +kernel
theorem dX0_patternOfHalf_39 : decode cX0_patternOfHalf 39 = .ok (.lload_n 3, 1) := by decide +kernel
theorem dX0_patternOfHalf_40 : decode cX0_patternOfHalf 40 = .ok (.invokevirtual 53, 3) := by decide +kernel
theorem dX0_patternOfHalf_43 : decode cX0_patternOfHalf 43 = .ok (.istore 11, 2) := by decide +kernel
theorem dX0_patternOfHalf_45 : decode cX0_patternOfHalf 45 = .ok (.lload 7, 2) := by decide +kernel
theorem dX0_patternOfHalf_47 : decode cX0_patternOfHalf 47 = .ok (.lload 9, 2) := by decide +kernel
theorem dX0_patternOfHalf_49 : decode cX0_patternOfHalf 49 = .ok (.lcmp, 1) := by decide +kernel
theorem dX0_patternOfHalf_50 : decode cX0_patternOfHalf 50 = .ok (.ifCond .lt 18, 3) := by decide +kernel
theorem dX0_patternOfHalf_53 : decode cX0_patternOfHalf 53 = .ok (.lload 7, 2) := by decide +kernel
theorem dX0_patternOfHalf_55 : decode cX0_patternOfHalf 55 = .ok (.lload 9, 2) := by decide +kernel
theorem dX0_patternOfHalf_57 : decode cX0_patternOfHalf 57 = .ok (.lcmp, 1) := by decide +kernel
theorem dX0_patternOfHalf_58 : decode cX0_patternOfHalf 58 = .ok (.ifCond .ne 14, 3) := by decide +kernel
theorem dX0_patternOfHalf_61 : decode cX0_patternOfHalf 61 = .ok (.iload 11, 2) := by decide +kernel
theorem dX0_patternOfHalf_63 : decode cX0_patternOfHalf 63 = .ok (.iconst 1, 1) := by decide +kernel
theorem dX0_patternOfHalf_64 : decode cX0_patternOfHalf 64 = .ok (.iand, 1) := by decide +kernel
theorem dX0_patternOfHalf_65 : decode cX0_patternOfHalf 65 = .ok (.ifCond .ne 7, 3) := by decide +kernel
theorem dX0_patternOfHalf_68 : decode cX0_patternOfHalf 68 = .ok (.iconst 1, 1) := by decide +kernel
theorem dX0_patternOfHalf_69 : decode cX0_patternOfHalf 69 = .ok (.goto 4, 3) := by decide +kernel
theorem dX0_patternOfHalf_72 : decode cX0_patternOfHalf 72 = .ok (.iconst 0, 1) := by decide +kernel
theorem dX0_patternOfHalf_73 : decode cX0_patternOfHalf 73 = .ok (.istore 12, 2) := by decide +kernel
theorem dX0_patternOfHalf_75 : decode cX0_patternOfHalf 75 = .ok (.iload 12, 2) := by decide +kernel
theorem dX0_patternOfHalf_77 : decode cX0_patternOfHalf 77 = .ok (.ifCond .eq 8, 3) := by decide +kernel
theorem dX0_patternOfHalf_80 : decode cX0_patternOfHalf 80 = .ok (.iload 11, 2) := by decide +kernel
theorem dX0_patternOfHalf_82 : decode cX0_patternOfHalf 82 = .ok (.goto 9, 3) := by decide +kernel
theorem dX0_patternOfHalf_85 : decode cX0_patternOfHalf 85 = .ok (.aload_n 0, 1) := by decide +kernel
theorem dX0_patternOfHalf_86 : decode cX0_patternOfHalf 86 = .ok (.lload 5, 2) := by decide +kernel
theorem dX0_patternOfHalf_88 : decode cX0_patternOfHalf 88 = .ok (.invokevirtual 53, 3) := by decide +kernel
theorem dX0_patternOfHalf_91 : decode cX0_patternOfHalf 91 = .ok (.ireturn, 1) := by decide +kernel
theorem dX1_init_0 : decode cX1_init 0 = .ok (.aload_n 0, 1) := by decide +kernel
theorem dX1_init_1 : decode cX1_init 1 = .ok (.invokespecial 3, 3) := by decide +kernel
theorem dX1_init_4 : decode cX1_init 4 = .ok (.aload_n 0, 1) := by decide +kernel
theorem dX1_init_5 : decode cX1_init 5 = .ok (.lconst 1, 1) := by decide +kernel
theorem dX1_init_6 : decode cX1_init 6 = .ok (.putfield 9, 3) := by decide +kernel
theorem dX1_init_9 : decode cX1_init 9 = .ok (.aload_n 0, 1) := by decide +kernel
theorem dX1_init_10 : decode cX1_init 10 = .ok (.lconst 0, 1) := by decide +kernel
theorem dX1_init_11 : decode cX1_init 11 = .ok (.putfield 15, 3) := by decide +kernel
theorem dX1_init_14 : decode cX1_init 14 = .ok (.return_, 1) := by decide +kernel
theorem dX1_become_0 : decode cX1_become 0 = .ok (.aload_n 0, 1) := by decide +kernel
theorem dX1_become_1 : decode cX1_become 1 = .ok (.lload_n 1, 1) := by decide +kernel
theorem dX1_become_2 : decode cX1_become 2 = .ok (.putfield 9, 3) := by decide +kernel
theorem dX1_become_5 : decode cX1_become 5 = .ok (.aload_n 0, 1) := by decide +kernel
theorem dX1_become_6 : decode cX1_become 6 = .ok (.lload_n 3, 1) := by decide +kernel
theorem dX1_become_7 : decode cX1_become 7 = .ok (.putfield 15, 3) := by decide +kernel
theorem dX1_become_10 : decode cX1_become 10 = .ok (.return_, 1) := by decide +kernel
theorem dX1_becomeEmpty_0 : decode cX1_becomeEmpty 0 = .ok (.aload_n 0, 1) := by decide +kernel
theorem dX1_becomeEmpty_1 : decode cX1_becomeEmpty 1 = .ok (.lconst 1, 1) := by decide +kernel
theorem dX1_becomeEmpty_2 : decode cX1_becomeEmpty 2 = .ok (.putfield 9, 3) := by decide +kernel
theorem dX1_becomeEmpty_5 : decode cX1_becomeEmpty 5 = .ok (.aload_n 0, 1) := by decide +kernel
theorem dX1_becomeEmpty_6 : decode cX1_becomeEmpty 6 = .ok (.lconst 0, 1) := by decide +kernel
theorem dX1_becomeEmpty_7 : decode cX1_becomeEmpty 7 = .ok (.putfield 15, 3) := by decide +kernel
theorem dX1_becomeEmpty_10 : decode cX1_becomeEmpty 10 = .ok (.return_, 1) := by decide +kernel
theorem dX1_isEmpty_0 : decode cX1_isEmpty 0 = .ok (.aload_n 0, 1) := by decide +kernel
theorem dX1_isEmpty_1 : decode cX1_isEmpty 1 = .ok (.getfield 9, 3) := by decide +kernel
theorem dX1_isEmpty_4 : decode cX1_isEmpty 4 = .ok (.aload_n 0, 1) := by decide +kernel
theorem dX1_isEmpty_5 : decode cX1_isEmpty 5 = .ok (.getfield 15, 3) := by decide +kernel
theorem dX1_isEmpty_8 : decode cX1_isEmpty 8 = .ok (.lcmp, 1) := by decide +kernel
theorem dX1_isEmpty_9 : decode cX1_isEmpty 9 = .ok (.ifCond .le 7, 3) := by decide +kernel
theorem dX1_isEmpty_12 : decode cX1_isEmpty 12 = .ok (.iconst 1, 1) := by decide +kernel
theorem dX1_isEmpty_13 : decode cX1_isEmpty 13 = .ok (.goto 4, 3) := by decide +kernel
theorem dX1_isEmpty_16 : decode cX1_isEmpty 16 = .ok (.iconst 0, 1) := by decide +kernel
theorem dX1_isEmpty_17 : decode cX1_isEmpty 17 = .ok (.ireturn, 1) := by decide +kernel
theorem dX1_lacksAnEnd_0 : decode cX1_lacksAnEnd 0 = .ok (.aload_n 0, 1) := by decide +kernel
theorem dX1_lacksAnEnd_1 : decode cX1_lacksAnEnd 1 = .ok (.getfield 9, 3) := by decide +kernel
theorem dX1_lacksAnEnd_4 : decode cX1_lacksAnEnd 4 = .ok (.ldc2_w 18, 3) := by decide +kernel
theorem dX1_lacksAnEnd_7 : decode cX1_lacksAnEnd 7 = .ok (.lcmp, 1) := by decide +kernel
theorem dX1_lacksAnEnd_8 : decode cX1_lacksAnEnd 8 = .ok (.ifCond .eq 14, 3) := by decide +kernel
theorem dX1_lacksAnEnd_11 : decode cX1_lacksAnEnd 11 = .ok (.aload_n 0, 1) := by decide +kernel
theorem dX1_lacksAnEnd_12 : decode cX1_lacksAnEnd 12 = .ok (.getfield 15, 3) := by decide +kernel
theorem dX1_lacksAnEnd_15 : decode cX1_lacksAnEnd 15 = .ok (.ldc2_w 20, 3) := by decide +kernel
theorem dX1_lacksAnEnd_18 : decode cX1_lacksAnEnd 18 = .ok (.lcmp, 1) := by decide +kernel
theorem dX1_lacksAnEnd_19 : decode cX1_lacksAnEnd 19 = .ok (.ifCond .ne 7, 3) := by decide +kernel
theorem dX1_lacksAnEnd_22 : decode cX1_lacksAnEnd 22 = .ok (.iconst 1, 1) := by decide +kernel
theorem dX1_lacksAnEnd_23 : decode cX1_lacksAnEnd 23 = .ok (.goto 4, 3) := by decide +kernel
theorem dX1_lacksAnEnd_26 : decode cX1_lacksAnEnd 26 = .ok (.iconst 0, 1) := by decide +kernel
theorem dX1_lacksAnEnd_27 : decode cX1_lacksAnEnd 27 = .ok (.ireturn, 1) := by decide +kernel
theorem dX1_holdsAllOf_0 : decode cX1_holdsAllOf 0 = .ok (.aload_n 0, 1) := by decide +kernel
theorem dX1_holdsAllOf_1 : decode cX1_holdsAllOf 1 = .ok (.getfield 9, 3) := by decide +kernel
theorem dX1_holdsAllOf_4 : decode cX1_holdsAllOf 4 = .ok (.aload_n 1, 1) := by decide +kernel
theorem dX1_holdsAllOf_5 : decode cX1_holdsAllOf 5 = .ok (.getfield 9, 3) := by decide +kernel
theorem dX1_holdsAllOf_8 : decode cX1_holdsAllOf 8 = .ok (.lcmp, 1) := by decide +kernel
theorem dX1_holdsAllOf_9 : decode cX1_holdsAllOf 9 = .ok (.ifCond .gt 19, 3) := by decide +kernel
theorem dX1_holdsAllOf_12 : decode cX1_holdsAllOf 12 = .ok (.aload_n 1, 1) := by decide +kernel
theorem dX1_holdsAllOf_13 : decode cX1_holdsAllOf 13 = .ok (.getfield 15, 3) := by decide +kernel
theorem dX1_holdsAllOf_16 : decode cX1_holdsAllOf 16 = .ok (.aload_n 0, 1) := by decide +kernel
theorem dX1_holdsAllOf_17 : decode cX1_holdsAllOf 17 = .ok (.getfield 15, 3) := by decide +kernel
theorem dX1_holdsAllOf_20 : decode cX1_holdsAllOf 20 = .ok (.lcmp, 1) := by decide +kernel
theorem dX1_holdsAllOf_21 : decode cX1_holdsAllOf 21 = .ok (.ifCond .gt 7, 3) := by decide +kernel
theorem dX1_holdsAllOf_24 : decode cX1_holdsAllOf 24 = .ok (.iconst 1, 1) := by decide +kernel
theorem dX1_holdsAllOf_25 : decode cX1_holdsAllOf 25 = .ok (.goto 4, 3) := by decide +kernel
theorem dX1_holdsAllOf_28 : decode cX1_holdsAllOf 28 = .ok (.iconst 0, 1) := by decide +kernel
theorem dX1_holdsAllOf_29 : decode cX1_holdsAllOf 29 = .ok (.ireturn, 1) := by decide +kernel
theorem dX1_kindNumber_0 : decode cX1_kindNumber 0 = .ok (.aload_n 0, 1) := by decide +kernel
theorem dX1_kindNumber_1 : decode cX1_kindNumber 1 = .ok (.invokevirtual 22, 3) := by decide +kernel
theorem dX1_kindNumber_4 : decode cX1_kindNumber 4 = .ok (.ifCond .eq 5, 3) := by decide +kernel
theorem dX1_kindNumber_7 : decode cX1_kindNumber 7 = .ok (.iconst 0, 1) := by decide +kernel
theorem dX1_kindNumber_8 : decode cX1_kindNumber 8 = .ok (.ireturn, 1) := by decide +kernel
theorem dX1_kindNumber_9 : decode cX1_kindNumber 9 = .ok (.aload_n 0, 1) := by decide +kernel
theorem dX1_kindNumber_10 : decode cX1_kindNumber 10 = .ok (.getfield 9, 3) := by decide +kernel
theorem dX1_kindNumber_13 : decode cX1_kindNumber 13 = .ok (.ldc2_w 18, 3) := by decide +kernel
theorem dX1_kindNumber_16 : decode cX1_kindNumber 16 = .ok (.lcmp, 1) := by decide +kernel
theorem dX1_kindNumber_17 : decode cX1_kindNumber 17 = .ok (.ifCond .ne 20, 3) := by decide +kernel
theorem dX1_kindNumber_20 : decode cX1_kindNumber 20 = .ok (.aload_n 0, 1) := by decide +kernel
theorem dX1_kindNumber_21 : decode cX1_kindNumber 21 = .ok (.getfield 15, 3) := by decide +kernel
theorem dX1_kindNumber_24 : decode cX1_kindNumber 24 = .ok (.ldc2_w 20, 3) := by decide +kernel
theorem dX1_kindNumber_27 : decode cX1_kindNumber 27 = .ok (.lcmp, 1) := by decide +kernel
theorem dX1_kindNumber_28 : decode cX1_kindNumber 28 = .ok (.ifCond .ne 7, 3) := by decide +kernel
theorem dX1_kindNumber_31 : decode cX1_kindNumber 31 = .ok (.iconst 5, 1) := by decide +kernel
theorem dX1_kindNumber_32 : decode cX1_kindNumber 32 = .ok (.goto 4, 3) := by decide +kernel
theorem dX1_kindNumber_35 : decode cX1_kindNumber 35 = .ok (.iconst 4, 1) := by decide +kernel
theorem dX1_kindNumber_36 : decode cX1_kindNumber 36 = .ok (.ireturn, 1) := by decide +kernel
theorem dX1_kindNumber_37 : decode cX1_kindNumber 37 = .ok (.aload_n 0, 1) := by decide +kernel
theorem dX1_kindNumber_38 : decode cX1_kindNumber 38 = .ok (.getfield 15, 3) := by decide +kernel
theorem dX1_kindNumber_41 : decode cX1_kindNumber 41 = .ok (.ldc2_w 20, 3) := by decide +kernel
theorem dX1_kindNumber_44 : decode cX1_kindNumber 44 = .ok (.lcmp, 1) := by decide +kernel
theorem dX1_kindNumber_45 : decode cX1_kindNumber 45 = .ok (.ifCond .ne 5, 3) := by decide +kernel
theorem dX1_kindNumber_48 : decode cX1_kindNumber 48 = .ok (.iconst 3, 1) := by decide +kernel
theorem dX1_kindNumber_49 : decode cX1_kindNumber 49 = .ok (.ireturn, 1) := by decide +kernel
theorem dX1_kindNumber_50 : decode cX1_kindNumber 50 = .ok (.aload_n 0, 1) := by decide +kernel
theorem dX1_kindNumber_51 : decode cX1_kindNumber 51 = .ok (.getfield 9, 3) := by decide +kernel
theorem dX1_kindNumber_54 : decode cX1_kindNumber 54 = .ok (.aload_n 0, 1) := by decide +kernel
theorem dX1_kindNumber_55 : decode cX1_kindNumber 55 = .ok (.getfield 15, 3) := by decide +kernel
theorem dX1_kindNumber_58 : decode cX1_kindNumber 58 = .ok (.lcmp, 1) := by decide +kernel
theorem dX1_kindNumber_59 : decode cX1_kindNumber 59 = .ok (.ifCond .ne 7, 3) := by decide +kernel
theorem dX1_kindNumber_62 : decode cX1_kindNumber 62 = .ok (.iconst 1, 1) := by decide +kernel
theorem dX1_kindNumber_63 : decode cX1_kindNumber 63 = .ok (.goto 4, 3) := by decide +kernel
theorem dX1_kindNumber_66 : decode cX1_kindNumber 66 = .ok (.iconst 2, 1) := by decide +kernel
theorem dX1_kindNumber_67 : decode cX1_kindNumber 67 = .ok (.ireturn, 1) := by decide +kernel
theorem dJM_floorDiv_0 : decode cJM_floorDiv 0 = .ok (.lload_n 0, 1) := by decide +kernel
theorem dJM_floorDiv_1 : decode cJM_floorDiv 1 = .ok (.lload_n 2, 1) := by decide +kernel
theorem dJM_floorDiv_2 : decode cJM_floorDiv 2 = .ok (.ldiv, 1) := by decide +kernel
theorem dJM_floorDiv_3 : decode cJM_floorDiv 3 = .ok (.lstore 4, 2) := by decide +kernel
theorem dJM_floorDiv_5 : decode cJM_floorDiv 5 = .ok (.lload_n 0, 1) := by decide +kernel
theorem dJM_floorDiv_6 : decode cJM_floorDiv 6 = .ok (.lload_n 2, 1) := by decide +kernel
theorem dJM_floorDiv_7 : decode cJM_floorDiv 7 = .ok (.lxor, 1) := by decide +kernel
theorem dJM_floorDiv_8 : decode cJM_floorDiv 8 = .ok (.lconst 0, 1) := by decide +kernel
theorem dJM_floorDiv_9 : decode cJM_floorDiv 9 = .ok (.lcmp, 1) := by decide +kernel
theorem dJM_floorDiv_10 : decode cJM_floorDiv 10 = .ok (.ifCond .ge 17, 3) := by decide +kernel
theorem dJM_floorDiv_13 : decode cJM_floorDiv 13 = .ok (.lload 4, 2) := by decide +kernel
theorem dJM_floorDiv_15 : decode cJM_floorDiv 15 = .ok (.lload_n 2, 1) := by decide +kernel
theorem dJM_floorDiv_16 : decode cJM_floorDiv 16 = .ok (.lmul, 1) := by decide +kernel
theorem dJM_floorDiv_17 : decode cJM_floorDiv 17 = .ok (.lload_n 0, 1) := by decide +kernel
theorem dJM_floorDiv_18 : decode cJM_floorDiv 18 = .ok (.lcmp, 1) := by decide +kernel
theorem dJM_floorDiv_19 : decode cJM_floorDiv 19 = .ok (.ifCond .eq 8, 3) := by decide +kernel
theorem dJM_floorDiv_22 : decode cJM_floorDiv 22 = .ok (.lload 4, 2) := by decide +kernel
theorem dJM_floorDiv_24 : decode cJM_floorDiv 24 = .ok (.lconst 1, 1) := by decide +kernel
theorem dJM_floorDiv_25 : decode cJM_floorDiv 25 = .ok (.lsub, 1) := by decide +kernel
theorem dJM_floorDiv_26 : decode cJM_floorDiv 26 = .ok (.lreturn, 1) := by decide +kernel
theorem dJM_floorDiv_27 : decode cJM_floorDiv 27 = .ok (.lload 4, 2) := by decide +kernel
theorem dJM_floorDiv_29 : decode cJM_floorDiv 29 = .ok (.lreturn, 1) := by decide +kernel
