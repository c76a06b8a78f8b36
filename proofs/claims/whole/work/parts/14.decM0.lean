theorem dX3_init_0 : decode cX3_init 0 = .ok (.aload_n 0, 1) := by decide +kernel
theorem dX3_init_1 : decode cX3_init 1 = .ok (.invokespecial 1, 3) := by decide +kernel
theorem dX3_init_4 : decode cX3_init 4 = .ok (.aload_n 0, 1) := by decide +kernel
theorem dX3_init_5 : decode cX3_init 5 = .ok (.iconst 4, 1) := by decide +kernel
theorem dX3_init_6 : decode cX3_init 6 = .ok (.putfield 7, 3) := by decide +kernel
theorem dX3_init_9 : decode cX3_init 9 = .ok (.aload_n 0, 1) := by decide +kernel
theorem dX3_init_10 : decode cX3_init 10 = .ok (.bipush 10, 2) := by decide +kernel
theorem dX3_init_12 : decode cX3_init 12 = .ok (.putfield 13, 3) := by decide +kernel
theorem dX3_init_15 : decode cX3_init 15 = .ok (.aload_n 0, 1) := by decide +kernel
theorem dX3_init_16 : decode cX3_init 16 = .ok (.bipush 8, 2) := by decide +kernel
theorem dX3_init_18 : decode cX3_init 18 = .ok (.newarray .boolean, 2) := by decide +kernel
theorem dX3_init_20 : decode cX3_init 20 = .ok (.putfield 16, 3) := by decide +kernel
theorem dX3_init_23 : decode cX3_init 23 = .ok (.aload_n 0, 1) := by decide +kernel
theorem dX3_init_24 : decode cX3_init 24 = .ok (.bipush 8, 2) := by decide +kernel
theorem dX3_init_26 : decode cX3_init 26 = .ok (.newarray .long, 2) := by decide +kernel
theorem dX3_init_28 : decode cX3_init 28 = .ok (.putfield 20, 3) := by decide +kernel
theorem dX3_init_31 : decode cX3_init 31 = .ok (.aload_n 0, 1) := by decide +kernel
theorem dX3_init_32 : decode cX3_init 32 = .ok (.bipush 8, 2) := by decide +kernel
theorem dX3_init_34 : decode cX3_init 34 = .ok (.newarray .long, 2) := by decide +kernel
theorem dX3_init_36 : decode cX3_init 36 = .ok (.putfield 24, 3) := by decide +kernel
theorem dX3_init_39 : decode cX3_init 39 = .ok (.return_, 1) := by decide +kernel
theorem dX3_thrown_0 : decode cX3_thrown 0 = .ok (.aload_n 0, 1) := by decide +kernel
theorem dX3_thrown_1 : decode cX3_thrown 1 = .ok (.getfield 27, 3) := by decide +kernel
theorem dX3_thrown_4 : decode cX3_thrown 4 = .ok (.ireturn, 1) := by decide +kernel
theorem dX3_raise_0 : decode cX3_raise 0 = .ok (.aload_n 0, 1) := by decide +kernel
theorem dX3_raise_1 : decode cX3_raise 1 = .ok (.iload_n 1, 1) := by decide +kernel
theorem dX3_raise_2 : decode cX3_raise 2 = .ok (.putfield 27, 3) := by decide +kernel
theorem dX3_raise_5 : decode cX3_raise 5 = .ok (.iconst 0, 1) := by decide +kernel
theorem dX3_raise_6 : decode cX3_raise 6 = .ok (.ireturn, 1) := by decide +kernel
theorem dX3_isPlace_0 : decode cX3_isPlace 0 = .ok (.iload_n 0, 1) := by decide +kernel
theorem dX3_isPlace_1 : decode cX3_isPlace 1 = .ok (.ifCond .lt 13, 3) := by decide +kernel
theorem dX3_isPlace_4 : decode cX3_isPlace 4 = .ok (.iload_n 0, 1) := by decide +kernel
theorem dX3_isPlace_5 : decode cX3_isPlace 5 = .ok (.bipush 8, 2) := by decide +kernel
theorem dX3_isPlace_7 : decode cX3_isPlace 7 = .ok (.if_icmp .ge 7, 3) := by decide +kernel
theorem dX3_isPlace_10 : decode cX3_isPlace 10 = .ok (.iconst 1, 1) := by decide +kernel
theorem dX3_isPlace_11 : decode cX3_isPlace 11 = .ok (.goto 4, 3) := by decide +kernel
theorem dX3_isPlace_14 : decode cX3_isPlace 14 = .ok (.iconst 0, 1) := by decide +kernel
theorem dX3_isPlace_15 : decode cX3_isPlace 15 = .ok (.ireturn, 1) := by decide +kernel
theorem dX3_format_0 : decode cX3_format 0 = .ok (.aload_n 0, 1) := by decide +kernel
theorem dX3_format_1 : decode cX3_format 1 = .ok (.iconst 0, 1) := by decide +kernel
theorem dX3_format_2 : decode cX3_format 2 = .ok (.putfield 27, 3) := by decide +kernel
theorem dX3_format_5 : decode cX3_format 5 = .ok (.iload_n 1, 1) := by decide +kernel
theorem dX3_format_6 : decode cX3_format 6 = .ok (.iconst 2, 1) := by decide +kernel
theorem dX3_format_7 : decode cX3_format 7 = .ok (.if_icmp .lt 19, 3) := by decide +kernel
theorem dX3_format_10 : decode cX3_format 10 = .ok (.iload_n 1, 1) := by decide +kernel
theorem dX3_format_11 : decode cX3_format 11 = .ok (.iconst 4, 1) := by decide +kernel
theorem dX3_format_12 : decode cX3_format 12 = .ok (.if_icmp .gt 14, 3) := by decide +kernel
theorem dX3_format_15 : decode cX3_format 15 = .ok (.iload_n 2, 1) := by decide +kernel
theorem dX3_format_16 : decode cX3_format 16 = .ok (.iconst 1, 1) := by decide +kernel
theorem dX3_format_17 : decode cX3_format 17 = .ok (.if_icmp .lt 9, 3) := by decide +kernel
theorem dX3_format_20 : decode cX3_format 20 = .ok (.iload_n 2, 1) := by decide +kernel
theorem dX3_format_21 : decode cX3_format 21 = .ok (.bipush 10, 2) := by decide +kernel
theorem dX3_format_23 : decode cX3_format 23 = .ok (.if_icmp .le 5, 3) := by decide +kernel
theorem dX3_format_26 : decode cX3_format 26 = .ok (.iconst 0, 1) := by decide +kernel
theorem dX3_format_27 : decode cX3_format 27 = .ok (.ireturn, 1) := by decide +kernel
theorem dX3_format_28 : decode cX3_format 28 = .ok (.aload_n 0, 1) := by decide +kernel
theorem dX3_format_29 : decode cX3_format 29 = .ok (.iload_n 1, 1) := by decide +kernel
theorem dX3_format_30 : decode cX3_format 30 = .ok (.putfield 7, 3) := by decide +kernel
theorem dX3_format_33 : decode cX3_format 33 = .ok (.aload_n 0, 1) := by decide +kernel
theorem dX3_format_34 : decode cX3_format 34 = .ok (.iload_n 2, 1) := by decide +kernel
theorem dX3_format_35 : decode cX3_format 35 = .ok (.putfield 13, 3) := by decide +kernel
theorem dX3_format_38 : decode cX3_format 38 = .ok (.iconst 0, 1) := by decide +kernel
theorem dX3_format_39 : decode cX3_format 39 = .ok (.istore_n 3, 1) := by decide +kernel
theorem dX3_format_40 : decode cX3_format 40 = .ok (.iload_n 3, 1) := by decide +kernel
theorem dX3_format_41 : decode cX3_format 41 = .ok (.bipush 8, 2) := by decide +kernel
theorem dX3_format_43 : decode cX3_format 43 = .ok (.if_icmp .ge 16, 3) := by decide +kernel
theorem dX3_format_46 : decode cX3_format 46 = .ok (.aload_n 0, 1) := by decide +kernel
theorem dX3_format_47 : decode cX3_format 47 = .ok (.getfield 16, 3) := by decide +kernel
theorem dX3_format_50 : decode cX3_format 50 = .ok (.iload_n 3, 1) := by decide +kernel
theorem dX3_format_51 : decode cX3_format 51 = .ok (.iconst 0, 1) := by decide +kernel
theorem dX3_format_52 : decode cX3_format 52 = .ok (.bastore, 1) := by decide +kernel
theorem dX3_format_53 : decode cX3_format 53 = .ok (.iinc 3 1, 3) := by decide +kernel
theorem dX3_format_56 : decode cX3_format 56 = .ok (.goto (-16), 3) := by decide +kernel
theorem dX3_format_59 : decode cX3_format 59 = .ok (.iconst 1, 1) := by decide +kernel
theorem dX3_format_60 : decode cX3_format 60 = .ok (.ireturn, 1) := by decide +kernel
theorem dX3_fine_0 : decode cX3_fine 0 = .ok (.iconst 1, 1) := by decide +kernel
theorem dX3_fine_1 : decode cX3_fine 1 = .ok (.aload_n 0, 1) := by decide +kernel
theorem dX3_fine_2 : decode cX3_fine 2 = .ok (.getfield 7, 3) := by decide +kernel
theorem dX3_fine_5 : decode cX3_fine 5 = .ok (.iconst 1, 1) := by decide +kernel
theorem dX3_fine_6 : decode cX3_fine 6 = .ok (.isub, 1) := by decide +kernel
theorem dX3_fine_7 : decode cX3_fine 7 = .ok (.ishl, 1) := by decide +kernel
theorem dX3_fine_8 : decode cX3_fine 8 = .ok (.iconst 2, 1) := by decide +kernel
theorem dX3_fine_9 : decode cX3_fine 9 = .ok (.isub, 1) := by decide +kernel
theorem dX3_fine_10 : decode cX3_fine 10 = .ok (.aload_n 0, 1) := by decide +kernel
theorem dX3_fine_11 : decode cX3_fine 11 = .ok (.getfield 13, 3) := by decide +kernel
theorem dX3_fine_14 : decode cX3_fine 14 = .ok (.iadd, 1) := by decide +kernel
theorem dX3_fine_15 : decode cX3_fine 15 = .ok (.ireturn, 1) := by decide +kernel
theorem dX3_most_0 : decode cX3_most 0 = .ok (.ldc2_w 30, 3) := by decide +kernel
theorem dX3_most_3 : decode cX3_most 3 = .ok (.aload_n 0, 1) := by decide +kernel
theorem dX3_most_4 : decode cX3_most 4 = .ok (.getfield 13, 3) := by decide +kernel
theorem dX3_most_7 : decode cX3_most 7 = .ok (.lshl, 1) := by decide +kernel
theorem dX3_most_8 : decode cX3_most 8 = .ok (.lconst 1, 1) := by decide +kernel
theorem dX3_most_9 : decode cX3_most 9 = .ok (.lsub, 1) := by decide +kernel
theorem dX3_most_10 : decode cX3_most 10 = .ok (.iconst 1, 1) := by decide +kernel
theorem dX3_most_11 : decode cX3_most 11 = .ok (.aload_n 0, 1) := by decide +kernel
theorem dX3_most_12 : decode cX3_most 12 = .ok (.getfield 7, 3) := by decide +kernel
theorem dX3_most_15 : decode cX3_most 15 = .ok (.ishl, 1) := by decide +kernel
theorem dX3_most_16 : decode cX3_most 16 = .ok (.iconst 3, 1) := by decide +kernel
theorem dX3_most_17 : decode cX3_most 17 = .ok (.isub, 1) := by decide +kernel
theorem dX3_most_18 : decode cX3_most 18 = .ok (.lshl, 1) := by decide +kernel
theorem dX3_most_19 : decode cX3_most 19 = .ok (.lreturn, 1) := by decide +kernel
theorem dX3_endless_0 : decode cX3_endless 0 = .ok (.iconst 1, 1) := by decide +kernel
theorem dX3_endless_1 : decode cX3_endless 1 = .ok (.aload_n 0, 1) := by decide +kernel
theorem dX3_endless_2 : decode cX3_endless 2 = .ok (.getfield 7, 3) := by decide +kernel
theorem dX3_endless_5 : decode cX3_endless 5 = .ok (.ishl, 1) := by decide +kernel
theorem dX3_endless_6 : decode cX3_endless 6 = .ok (.iconst 1, 1) := by decide +kernel
theorem dX3_endless_7 : decode cX3_endless 7 = .ok (.isub, 1) := by decide +kernel
theorem dX3_endless_8 : decode cX3_endless 8 = .ok (.aload_n 0, 1) := by decide +kernel
theorem dX3_endless_9 : decode cX3_endless 9 = .ok (.getfield 13, 3) := by decide +kernel
theorem dX3_endless_12 : decode cX3_endless 12 = .ok (.ishl, 1) := by decide +kernel
theorem dX3_endless_13 : decode cX3_endless 13 = .ok (.ireturn, 1) := by decide +kernel
theorem dX3_isPattern_0 : decode cX3_isPattern 0 = .ok (.iload_n 1, 1) := by decide +kernel
theorem dX3_isPattern_1 : decode cX3_isPattern 1 = .ok (.ifCond .lt 45, 3) := by decide +kernel
theorem dX3_isPattern_4 : decode cX3_isPattern 4 = .ok (.iload_n 1, 1) := by decide +kernel
theorem dX3_isPattern_5 : decode cX3_isPattern 5 = .ok (.iconst 1, 1) := by decide +kernel
theorem dX3_isPattern_6 : decode cX3_isPattern 6 = .ok (.aload_n 0, 1) := by decide +kernel
theorem dX3_isPattern_7 : decode cX3_isPattern 7 = .ok (.getfield 7, 3) := by decide +kernel
theorem dX3_isPattern_10 : decode cX3_isPattern 10 = .ok (.iadd, 1) := by decide +kernel
theorem dX3_isPattern_11 : decode cX3_isPattern 11 = .ok (.aload_n 0, 1) := by decide +kernel
theorem dX3_isPattern_12 : decode cX3_isPattern 12 = .ok (.getfield 13, 3) := by decide +kernel
theorem dX3_isPattern_15 : decode cX3_isPattern 15 = .ok (.iadd, 1) := by decide +kernel
theorem dX3_isPattern_16 : decode cX3_isPattern 16 = .ok (.ishr, 1) := by decide +kernel
theorem dX3_isPattern_17 : decode cX3_isPattern 17 = .ok (.ifCond .ne 29, 3) := by decide +kernel
theorem dX3_isPattern_20 : decode cX3_isPattern 20 = .ok (.iload_n 1, 1) := by decide +kernel
theorem dX3_isPattern_21 : decode cX3_isPattern 21 = .ok (.iconst 1, 1) := by decide +kernel
theorem dX3_isPattern_22 : decode cX3_isPattern 22 = .ok (.aload_n 0, 1) := by decide +kernel
theorem dX3_isPattern_23 : decode cX3_isPattern 23 = .ok (.getfield 7, 3) := by decide +kernel
theorem dX3_isPattern_26 : decode cX3_isPattern 26 = .ok (.aload_n 0, 1) := by decide +kernel
theorem dX3_isPattern_27 : decode cX3_isPattern 27 = .ok (.getfield 13, 3) := by decide +kernel
theorem dX3_isPattern_30 : decode cX3_isPattern 30 = .ok (.iadd, 1) := by decide +kernel
theorem dX3_isPattern_31 : decode cX3_isPattern 31 = .ok (.ishl, 1) := by decide +kernel
theorem dX3_isPattern_32 : decode cX3_isPattern 32 = .ok (.iconst 1, 1) := by decide +kernel
theorem dX3_isPattern_33 : decode cX3_isPattern 33 = .ok (.isub, 1) := by decide +kernel
theorem dX3_isPattern_34 : decode cX3_isPattern 34 = .ok (.iand, 1) := by decide +kernel
theorem dX3_isPattern_35 : decode cX3_isPattern 35 = .ok (.aload_n 0, 1) := by decide +kernel
theorem dX3_isPattern_36 : decode cX3_isPattern 36 = .ok (.invokevirtual 32, 3) := by decide +kernel
theorem dX3_isPattern_39 : decode cX3_isPattern 39 = .ok (.if_icmp .gt 7, 3) := by decide +kernel
theorem dX3_isPattern_42 : decode cX3_isPattern 42 = .ok (.iconst 1, 1) := by decide +kernel
theorem dX3_isPattern_43 : decode cX3_isPattern 43 = .ok (.goto 4, 3) := by decide +kernel
theorem dX3_isPattern_46 : decode cX3_isPattern 46 = .ok (.iconst 0, 1) := by decide +kernel
theorem dX3_isPattern_47 : decode cX3_isPattern 47 = .ok (.ireturn, 1) := by decide +kernel
theorem dX3_number_0 : decode cX3_number 0 = .ok (.iload_n 1, 1) := by decide +kernel
theorem dX3_number_1 : decode cX3_number 1 = .ok (.iconst 1, 1) := by decide +kernel
theorem dX3_number_2 : decode cX3_number 2 = .ok (.aload_n 0, 1) := by decide +kernel
theorem dX3_number_3 : decode cX3_number 3 = .ok (.getfield 7, 3) := by decide +kernel
theorem dX3_number_6 : decode cX3_number 6 = .ok (.aload_n 0, 1) := by decide +kernel
theorem dX3_number_7 : decode cX3_number 7 = .ok (.getfield 13, 3) := by decide +kernel
theorem dX3_number_10 : decode cX3_number 10 = .ok (.iadd, 1) := by decide +kernel
theorem dX3_number_11 : decode cX3_number 11 = .ok (.ishl, 1) := by decide +kernel
theorem dX3_number_12 : decode cX3_number 12 = .ok (.iconst 1, 1) := by decide +kernel
theorem dX3_number_13 : decode cX3_number 13 = .ok (.isub, 1) := by decide +kernel
theorem dX3_number_14 : decode cX3_number 14 = .ok (.iand, 1) := by decide +kernel
theorem dX3_number_15 : decode cX3_number 15 = .ok (.istore_n 2, 1) := by decide +kernel
theorem dX3_number_16 : decode cX3_number 16 = .ok (.iload_n 2, 1) := by decide +kernel
theorem dX3_number_17 : decode cX3_number 17 = .ok (.aload_n 0, 1) := by decide +kernel
theorem dX3_number_18 : decode cX3_number 18 = .ok (.getfield 13, 3) := by decide +kernel
theorem dX3_number_21 : decode cX3_number 21 = .ok (.ishr, 1) := by decide +kernel
theorem dX3_number_22 : decode cX3_number 22 = .ok (.istore_n 3, 1) := by decide +kernel
theorem dX3_number_23 : decode cX3_number 23 = .ok (.iload_n 2, 1) := by decide +kernel
theorem dX3_number_24 : decode cX3_number 24 = .ok (.iconst 1, 1) := by decide +kernel
theorem dX3_number_25 : decode cX3_number 25 = .ok (.aload_n 0, 1) := by decide +kernel
theorem dX3_number_26 : decode cX3_number 26 = .ok (.getfield 13, 3) := by decide +kernel
theorem dX3_number_29 : decode cX3_number 29 = .ok (.ishl, 1) := by decide +kernel
theorem dX3_number_30 : decode cX3_number 30 = .ok (.iconst 1, 1) := by decide +kernel
theorem dX3_number_31 : decode cX3_number 31 = .ok (.isub, 1) := by decide +kernel
theorem dX3_number_32 : decode cX3_number 32 = .ok (.iand, 1) := by decide +kernel
theorem dX3_number_33 : decode cX3_number 33 = .ok (.i2l, 1) := by decide +kernel
theorem dX3_number_34 : decode cX3_number 34 = .ok (.lstore 4, 2) := by decide +kernel
theorem dX3_number_36 : decode cX3_number 36 = .ok (.iload_n 2, 1) := by decide +kernel
theorem dX3_number_37 : decode cX3_number 37 = .ok (.aload_n 0, 1) := by decide +kernel
theorem dX3_number_38 : decode cX3_number 38 = .ok (.invokevirtual 32, 3) := by decide +kernel
theorem dX3_number_41 : decode cX3_number 41 = .ok (.if_icmp .ne 9, 3) := by decide +kernel
theorem dX3_number_44 : decode cX3_number 44 = .ok (.ldc2_w 36, 3) := by decide +kernel
theorem dX3_number_47 : decode cX3_number 47 = .ok (.goto 25, 3) := by decide +kernel
theorem dX3_number_50 : decode cX3_number 50 = .ok (.iload_n 3, 1) := by decide +kernel
theorem dX3_number_51 : decode cX3_number 51 = .ok (.ifCond .ne 8, 3) := by decide +kernel
theorem dX3_number_54 : decode cX3_number 54 = .ok (.lload 4, 2) := by decide +kernel
theorem dX3_number_56 : decode cX3_number 56 = .ok (.goto 16, 3) := by decide +kernel
theorem dX3_number_59 : decode cX3_number 59 = .ok (.lload 4, 2) := by decide +kernel
theorem dX3_number_61 : decode cX3_number 61 = .ok (.lconst 1, 1) := by decide +kernel
theorem dX3_number_62 : decode cX3_number 62 = .ok (.aload_n 0, 1) := by decide +kernel
theorem dX3_number_63 : decode cX3_number 63 = .ok (.getfield 13, 3) := by decide +kernel
theorem dX3_number_66 : decode cX3_number 66 = .ok (.lshl, 1) := by decide +kernel
theorem dX3_number_67 : decode cX3_number 67 = .ok (.ladd, 1) := by decide +kernel
theorem dX3_number_68 : decode cX3_number 68 = .ok (.iload_n 3, 1) := by decide +kernel
theorem dX3_number_69 : decode cX3_number 69 = .ok (.iconst 1, 1) := by decide +kernel
theorem dX3_number_70 : decode cX3_number 70 = .ok (.isub, 1) := by decide +kernel
theorem dX3_number_71 : decode cX3_number 71 = .ok (.lshl, 1) := by decide +kernel
theorem dX3_number_72 : decode cX3_number 72 = .ok (.lstore 6, 2) := by decide +kernel
theorem dX3_number_74 : decode cX3_number 74 = .ok (.iload_n 2, 1) := by decide +kernel
theorem dX3_number_75 : decode cX3_number 75 = .ok (.iload_n 1, 1) := by decide +kernel
theorem dX3_number_76 : decode cX3_number 76 = .ok (.if_icmp .ne 8, 3) := by decide +kernel
theorem dX3_number_79 : decode cX3_number 79 = .ok (.lload 6, 2) := by decide +kernel
theorem dX3_number_81 : decode cX3_number 81 = .ok (.goto 6, 3) := by decide +kernel
theorem dX3_number_84 : decode cX3_number 84 = .ok (.lload 6, 2) := by decide +kernel
theorem dX3_number_86 : decode cX3_number 86 = .ok (.lneg, 1) := by decide +kernel
theorem dX3_number_87 : decode cX3_number 87 = .ok (.lreturn, 1) := by decide +kernel
theorem dX3_length_0 : decode cX3_length 0 = .ok (.iconst 0, 1) := by decide +kernel
theorem dX3_length_1 : decode cX3_length 1 = .ok (.istore_n 2, 1) := by decide +kernel
theorem dX3_length_2 : decode cX3_length 2 = .ok (.lload_n 0, 1) := by decide +kernel
theorem dX3_length_3 : decode cX3_length 3 = .ok (.iload_n 2, 1) := by decide +kernel
theorem dX3_length_4 : decode cX3_length 4 = .ok (.lshr, 1) := by decide +kernel
theorem dX3_length_5 : decode cX3_length 5 = .ok (.lconst 0, 1) := by decide +kernel
theorem dX3_length_6 : decode cX3_length 6 = .ok (.lcmp, 1) := by decide +kernel
theorem dX3_length_7 : decode cX3_length 7 = .ok (.ifCond .le 9, 3) := by decide +kernel
theorem dX3_length_10 : decode cX3_length 10 = .ok (.iinc 2 1, 3) := by decide +kernel
theorem dX3_length_13 : decode cX3_length 13 = .ok (.goto (-11), 3) := by decide +kernel
theorem dX3_length_16 : decode cX3_length 16 = .ok (.iload_n 2, 1) := by decide +kernel
theorem dX3_length_17 : decode cX3_length 17 = .ok (.ireturn, 1) := by decide +kernel
theorem dX3_pattern_0 : decode cX3_pattern 0 = .ok (.lload_n 1, 1) := by decide +kernel
theorem dX3_pattern_1 : decode cX3_pattern 1 = .ok (.lconst 0, 1) := by decide +kernel
theorem dX3_pattern_2 : decode cX3_pattern 2 = .ok (.lcmp, 1) := by decide +kernel
theorem dX3_pattern_3 : decode cX3_pattern 3 = .ok (.ifCond .ge 8, 3) := by decide +kernel
theorem dX3_pattern_6 : decode cX3_pattern 6 = .ok (.lload_n 1, 1) := by decide +kernel
theorem dX3_pattern_7 : decode cX3_pattern 7 = .ok (.lneg, 1) := by decide +kernel
theorem dX3_pattern_8 : decode cX3_pattern 8 = .ok (.goto 4, 3) := by decide +kernel
theorem dX3_pattern_11 : decode cX3_pattern 11 = .ok (.lload_n 1, 1) := by decide +kernel
theorem dX3_pattern_12 : decode cX3_pattern 12 = .ok (.lstore_n 3, 1) := by decide +kernel
theorem dX3_pattern_13 : decode cX3_pattern 13 = .ok (.lload_n 3, 1) := by decide +kernel
theorem dX3_pattern_14 : decode cX3_pattern 14 = .ok (.ldc2_w 36, 3) := by decide +kernel
theorem dX3_pattern_17 : decode cX3_pattern 17 = .ok (.lcmp, 1) := by decide +kernel
theorem dX3_pattern_18 : decode cX3_pattern 18 = .ok (.ifCond .lt 12, 3) := by decide +kernel
theorem dX3_pattern_21 : decode cX3_pattern 21 = .ok (.aload_n 0, 1) := by decide +kernel
theorem dX3_pattern_22 : decode cX3_pattern 22 = .ok (.invokevirtual 32, 3) := by decide +kernel
theorem dX3_pattern_25 : decode cX3_pattern 25 = .ok (.istore 5, 2) := by decide +kernel
theorem dX3_pattern_27 : decode cX3_pattern 27 = .ok (.goto 58, 3) := by decide +kernel
theorem dX3_pattern_30 : decode cX3_pattern 30 = .ok (.lload_n 3, 1) := by decide +kernel
theorem dX3_pattern_31 : decode cX3_pattern 31 = .ok (.aload_n 0, 1) := by decide +kernel
theorem dX3_pattern_32 : decode cX3_pattern 32 = .ok (.getfield 13, 3) := by decide +kernel
theorem dX3_pattern_35 : decode cX3_pattern 35 = .ok (.lshr, 1) := by decide +kernel
theorem dX3_pattern_36 : decode cX3_pattern 36 = .ok (.lconst 0, 1) := by decide +kernel
theorem dX3_pattern_37 : decode cX3_pattern 37 = .ok (.lcmp, 1) := by decide +kernel
theorem dX3_pattern_38 : decode cX3_pattern 38 = .ok (.ifCond .ne 10, 3) := by decide +kernel
theorem dX3_pattern_41 : decode cX3_pattern 41 = .ok (.lload_n 3, 1) := by decide +kernel
theorem dX3_pattern_42 : decode cX3_pattern 42 = .ok (.l2i, 1) := by decide +kernel
theorem dX3_pattern_43 : decode cX3_pattern 43 = .ok (.istore 5, 2) := by decide +kernel
theorem dX3_pattern_45 : decode cX3_pattern 45 = .ok (.goto 40, 3) := by decide +kernel
theorem dX3_pattern_48 : decode cX3_pattern 48 = .ok (.lload_n 3, 1) := by decide +kernel
theorem dX3_pattern_49 : decode cX3_pattern 49 = .ok (.invokestatic 38, 3) := by decide +kernel
theorem dX3_pattern_52 : decode cX3_pattern 52 = .ok (.aload_n 0, 1) := by decide +kernel
theorem dX3_pattern_53 : decode cX3_pattern 53 = .ok (.getfield 13, 3) := by decide +kernel
theorem dX3_pattern_56 : decode cX3_pattern 56 = .ok (.isub, 1) := by decide +kernel
theorem dX3_pattern_57 : decode cX3_pattern 57 = .ok (.iconst 1, 1) := by decide +kernel
theorem dX3_pattern_58 : decode cX3_pattern 58 = .ok (.isub, 1) := by decide +kernel
theorem dX3_pattern_59 : decode cX3_pattern 59 = .ok (.istore 6, 2) := by decide +kernel
theorem dX3_pattern_61 : decode cX3_pattern 61 = .ok (.iload 6, 2) := by decide +kernel
theorem dX3_pattern_63 : decode cX3_pattern 63 = .ok (.iconst 1, 1) := by decide +kernel
theorem dX3_pattern_64 : decode cX3_pattern 64 = .ok (.iadd, 1) := by decide +kernel
theorem dX3_pattern_65 : decode cX3_pattern 65 = .ok (.aload_n 0, 1) := by decide +kernel
theorem dX3_pattern_66 : decode cX3_pattern 66 = .ok (.getfield 13, 3) := by decide +kernel
theorem dX3_pattern_69 : decode cX3_pattern 69 = .ok (.ishl, 1) := by decide +kernel
theorem dX3_pattern_70 : decode cX3_pattern 70 = .ok (.lload_n 3, 1) := by decide +kernel
theorem dX3_pattern_71 : decode cX3_pattern 71 = .ok (.iload 6, 2) := by decide +kernel
theorem dX3_pattern_73 : decode cX3_pattern 73 = .ok (.lshr, 1) := by decide +kernel
theorem dX3_pattern_74 : decode cX3_pattern 74 = .ok (.l2i, 1) := by decide +kernel
theorem dX3_pattern_75 : decode cX3_pattern 75 = .ok (.iadd, 1) := by decide +kernel
theorem dX3_pattern_76 : decode cX3_pattern 76 = .ok (.iconst 1, 1) := by decide +kernel
theorem dX3_pattern_77 : decode cX3_pattern 77 = .ok (.aload_n 0, 1) := by decide +kernel
theorem dX3_pattern_78 : decode cX3_pattern 78 = .ok (.getfield 13, 3) := by decide +kernel
theorem dX3_pattern_81 : decode cX3_pattern 81 = .ok (.ishl, 1) := by decide +kernel
theorem dX3_pattern_82 : decode cX3_pattern 82 = .ok (.isub, 1) := by decide +kernel
theorem dX3_pattern_83 : decode cX3_pattern 83 = .ok (.istore 5, 2) := by decide +kernel
theorem dX3_pattern_85 : decode cX3_pattern 85 = .ok (.lload_n 1, 1) := by decide +kernel
theorem dX3_pattern_86 : decode cX3_pattern 86 = .ok (.lconst 0, 1) := by decide +kernel
theorem dX3_pattern_87 : decode cX3_pattern 87 = .ok (.lcmp, 1) := by decide +kernel
theorem dX3_pattern_88 : decode cX3_pattern 88 = .ok (.ifCond .ge 20, 3) := by decide +kernel
theorem dX3_pattern_91 : decode cX3_pattern 91 = .ok (.iload 5, 2) := by decide +kernel
theorem dX3_pattern_93 : decode cX3_pattern 93 = .ok (.iconst 1, 1) := by decide +kernel
theorem dX3_pattern_94 : decode cX3_pattern 94 = .ok (.aload_n 0, 1) := by decide +kernel
theorem dX3_pattern_95 : decode cX3_pattern 95 = .ok (.getfield 7, 3) := by decide +kernel
theorem dX3_pattern_98 : decode cX3_pattern 98 = .ok (.aload_n 0, 1) := by decide +kernel
theorem dX3_pattern_99 : decode cX3_pattern 99 = .ok (.getfield 13, 3) := by decide +kernel
theorem dX3_pattern_102 : decode cX3_pattern 102 = .ok (.iadd, 1) := by decide +kernel
theorem dX3_pattern_103 : decode cX3_pattern 103 = .ok (.ishl, 1) := by decide +kernel
theorem dX3_pattern_104 : decode cX3_pattern 104 = .ok (.iadd, 1) := by decide +kernel
theorem dX3_pattern_105 : decode cX3_pattern 105 = .ok (.goto 5, 3) := by decide +kernel
theorem dX3_pattern_108 : decode cX3_pattern 108 = .ok (.iload 5, 2) := by decide +kernel
theorem dX3_pattern_110 : decode cX3_pattern 110 = .ok (.ireturn, 1) := by decide +kernel
theorem dX3_rounded_0 : decode cX3_rounded 0 = .ok (.lload_n 1, 1) := by decide +kernel
theorem dX3_rounded_1 : decode cX3_rounded 1 = .ok (.lconst 0, 1) := by decide +kernel
theorem dX3_rounded_2 : decode cX3_rounded 2 = .ok (.lcmp, 1) := by decide +kernel
theorem dX3_rounded_3 : decode cX3_rounded 3 = .ok (.ifCond .ge 7, 3) := by decide +kernel
theorem dX3_rounded_6 : decode cX3_rounded 6 = .ok (.iconst 1, 1) := by decide +kernel
theorem dX3_rounded_7 : decode cX3_rounded 7 = .ok (.goto 4, 3) := by decide +kernel
theorem dX3_rounded_10 : decode cX3_rounded 10 = .ok (.iconst 0, 1) := by decide +kernel
theorem dX3_rounded_11 : decode cX3_rounded 11 = .ok (.istore 6, 2) := by decide +kernel
theorem dX3_rounded_13 : decode cX3_rounded 13 = .ok (.iload 6, 2) := by decide +kernel
theorem dX3_rounded_15 : decode cX3_rounded 15 = .ok (.ifCond .eq 8, 3) := by decide +kernel
theorem dX3_rounded_18 : decode cX3_rounded 18 = .ok (.lload_n 1, 1) := by decide +kernel
theorem dX3_rounded_19 : decode cX3_rounded 19 = .ok (.lneg, 1) := by decide +kernel
theorem dX3_rounded_20 : decode cX3_rounded 20 = .ok (.goto 4, 3) := by decide +kernel
theorem dX3_rounded_23 : decode cX3_rounded 23 = .ok (.lload_n 1, 1) := by decide +kernel
theorem dX3_rounded_24 : decode cX3_rounded 24 = .ok (.lstore 7, 2) := by decide +kernel
theorem dX3_rounded_26 : decode cX3_rounded 26 = .ok (.lload 7, 2) := by decide +kernel
theorem dX3_rounded_28 : decode cX3_rounded 28 = .ok (.lload_n 3, 1) := by decide +kernel
theorem dX3_rounded_29 : decode cX3_rounded 29 = .ok (.ldiv, 1) := by decide +kernel
theorem dX3_rounded_30 : decode cX3_rounded 30 = .ok (.lstore 9, 2) := by decide +kernel
theorem dX3_rounded_32 : decode cX3_rounded 32 = .ok (.lload 7, 2) := by decide +kernel
theorem dX3_rounded_34 : decode cX3_rounded 34 = .ok (.lload_n 3, 1) := by decide +kernel
theorem dX3_rounded_35 : decode cX3_rounded 35 = .ok (.lrem, 1) := by decide +kernel
theorem dX3_rounded_36 : decode cX3_rounded 36 = .ok (.lconst 0, 1) := by decide +kernel
theorem dX3_rounded_37 : decode cX3_rounded 37 = .ok (.lcmp, 1) := by decide +kernel
theorem dX3_rounded_38 : decode cX3_rounded 38 = .ok (.ifCond .eq 7, 3) := by decide +kernel
theorem dX3_rounded_41 : decode cX3_rounded 41 = .ok (.iconst 1, 1) := by decide +kernel
theorem dX3_rounded_42 : decode cX3_rounded 42 = .ok (.goto 4, 3) := by decide +kernel
theorem dX3_rounded_45 : decode cX3_rounded 45 = .ok (.iconst 0, 1) := by decide +kernel
theorem dX3_rounded_46 : decode cX3_rounded 46 = .ok (.istore 11, 2) := by decide +kernel
theorem dX3_rounded_48 : decode cX3_rounded 48 = .ok (.lload 9, 2) := by decide +kernel
theorem dX3_rounded_50 : decode cX3_rounded 50 = .ok (.invokestatic 38, 3) := by decide +kernel
theorem dX3_rounded_53 : decode cX3_rounded 53 = .ok (.aload_n 0, 1) := by decide +kernel
theorem dX3_rounded_54 : decode cX3_rounded 54 = .ok (.getfield 13, 3) := by decide +kernel
theorem dX3_rounded_57 : decode cX3_rounded 57 = .ok (.iconst 1, 1) := by decide +kernel
theorem dX3_rounded_58 : decode cX3_rounded 58 = .ok (.iadd, 1) := by decide +kernel
theorem dX3_rounded_59 : decode cX3_rounded 59 = .ok (.if_icmp .le 18, 3) := by decide +kernel
theorem dX3_rounded_62 : decode cX3_rounded 62 = .ok (.lload 9, 2) := by decide +kernel
theorem dX3_rounded_64 : decode cX3_rounded 64 = .ok (.invokestatic 38, 3) := by decide +kernel
theorem dX3_rounded_67 : decode cX3_rounded 67 = .ok (.aload_n 0, 1) := by decide +kernel
theorem dX3_rounded_68 : decode cX3_rounded 68 = .ok (.getfield 13, 3) := by decide +kernel
theorem dX3_rounded_71 : decode cX3_rounded 71 = .ok (.isub, 1) := by decide +kernel
theorem dX3_rounded_72 : decode cX3_rounded 72 = .ok (.iconst 1, 1) := by decide +kernel
theorem dX3_rounded_73 : decode cX3_rounded 73 = .ok (.isub, 1) := by decide +kernel
theorem dX3_rounded_74 : decode cX3_rounded 74 = .ok (.goto 4, 3) := by decide +kernel
theorem dX3_rounded_77 : decode cX3_rounded 77 = .ok (.iconst 0, 1) := by decide +kernel
theorem dX3_rounded_78 : decode cX3_rounded 78 = .ok (.istore 12, 2) := by decide +kernel
theorem dX3_rounded_80 : decode cX3_rounded 80 = .ok (.iload 11, 2) := by decide +kernel
theorem dX3_rounded_82 : decode cX3_rounded 82 = .ok (.ifCond .ne 17, 3) := by decide +kernel
theorem dX3_rounded_85 : decode cX3_rounded 85 = .ok (.lload 9, 2) := by decide +kernel
theorem dX3_rounded_87 : decode cX3_rounded 87 = .ok (.iload 12, 2) := by decide +kernel
theorem dX3_rounded_89 : decode cX3_rounded 89 = .ok (.lshr, 1) := by decide +kernel
theorem dX3_rounded_90 : decode cX3_rounded 90 = .ok (.iload 12, 2) := by decide +kernel
theorem dX3_rounded_92 : decode cX3_rounded 92 = .ok (.lshl, 1) := by decide +kernel
theorem dX3_rounded_93 : decode cX3_rounded 93 = .ok (.lload 9, 2) := by decide +kernel
theorem dX3_rounded_95 : decode cX3_rounded 95 = .ok (.lcmp, 1) := by decide +kernel
theorem dX3_rounded_96 : decode cX3_rounded 96 = .ok (.ifCond .eq 7, 3) := by decide +kernel
theorem dX3_rounded_99 : decode cX3_rounded 99 = .ok (.iconst 1, 1) := by decide +kernel
theorem dX3_rounded_100 : decode cX3_rounded 100 = .ok (.goto 4, 3) := by decide +kernel
theorem dX3_rounded_103 : decode cX3_rounded 103 = .ok (.iconst 0, 1) := by decide +kernel
theorem dX3_rounded_104 : decode cX3_rounded 104 = .ok (.istore 11, 2) := by decide +kernel
theorem dX3_rounded_106 : decode cX3_rounded 106 = .ok (.lload 9, 2) := by decide +kernel
theorem dX3_rounded_108 : decode cX3_rounded 108 = .ok (.iload 12, 2) := by decide +kernel
theorem dX3_rounded_110 : decode cX3_rounded 110 = .ok (.lshr, 1) := by decide +kernel
theorem dX3_rounded_111 : decode cX3_rounded 111 = .ok (.iload 12, 2) := by decide +kernel
theorem dX3_rounded_113 : decode cX3_rounded 113 = .ok (.lshl, 1) := by decide +kernel
theorem dX3_rounded_114 : decode cX3_rounded 114 = .ok (.lstore 9, 2) := by decide +kernel
theorem dX3_rounded_116 : decode cX3_rounded 116 = .ok (.iload 5, 2) := by decide +kernel
theorem dX3_rounded_118 : decode cX3_rounded 118 = .ok (.iload 6, 2) := by decide +kernel
theorem dX3_rounded_120 : decode cX3_rounded 120 = .ok (.if_icmp .eq 7, 3) := by decide +kernel
theorem dX3_rounded_123 : decode cX3_rounded 123 = .ok (.iconst 1, 1) := by decide +kernel
theorem dX3_rounded_124 : decode cX3_rounded 124 = .ok (.goto 4, 3) := by decide +kernel
theorem dX3_rounded_127 : decode cX3_rounded 127 = .ok (.iconst 0, 1) := by decide +kernel
theorem dX3_rounded_128 : decode cX3_rounded 128 = .ok (.istore 13, 2) := by decide +kernel
theorem dX3_rounded_130 : decode cX3_rounded 130 = .ok (.iload 13, 2) := by decide +kernel
theorem dX3_rounded_132 : decode cX3_rounded 132 = .ok (.ifCond .eq 17, 3) := by decide +kernel
theorem dX3_rounded_135 : decode cX3_rounded 135 = .ok (.iload 11, 2) := by decide +kernel
theorem dX3_rounded_137 : decode cX3_rounded 137 = .ok (.ifCond .eq 12, 3) := by decide +kernel
theorem dX3_rounded_140 : decode cX3_rounded 140 = .ok (.lload 9, 2) := by decide +kernel
theorem dX3_rounded_142 : decode cX3_rounded 142 = .ok (.lconst 1, 1) := by decide +kernel
theorem dX3_rounded_143 : decode cX3_rounded 143 = .ok (.iload 12, 2) := by decide +kernel
theorem dX3_rounded_145 : decode cX3_rounded 145 = .ok (.lshl, 1) := by decide +kernel
theorem dX3_rounded_146 : decode cX3_rounded 146 = .ok (.ladd, 1) := by decide +kernel
theorem dX3_rounded_147 : decode cX3_rounded 147 = .ok (.lstore 9, 2) := by decide +kernel
theorem dX3_rounded_149 : decode cX3_rounded 149 = .ok (.lload 9, 2) := by decide +kernel
theorem dX3_rounded_151 : decode cX3_rounded 151 = .ok (.aload_n 0, 1) := by decide +kernel
theorem dX3_rounded_152 : decode cX3_rounded 152 = .ok (.invokevirtual 42, 3) := by decide +kernel
theorem dX3_rounded_155 : decode cX3_rounded 155 = .ok (.lcmp, 1) := by decide +kernel
theorem dX3_rounded_156 : decode cX3_rounded 156 = .ok (.ifCond .le 20, 3) := by decide +kernel
theorem dX3_rounded_159 : decode cX3_rounded 159 = .ok (.iload 13, 2) := by decide +kernel
theorem dX3_rounded_161 : decode cX3_rounded 161 = .ok (.ifCond .eq 9, 3) := by decide +kernel
theorem dX3_rounded_164 : decode cX3_rounded 164 = .ok (.ldc2_w 36, 3) := by decide +kernel
theorem dX3_rounded_167 : decode cX3_rounded 167 = .ok (.goto 7, 3) := by decide +kernel
theorem dX3_rounded_170 : decode cX3_rounded 170 = .ok (.aload_n 0, 1) := by decide +kernel
theorem dX3_rounded_171 : decode cX3_rounded 171 = .ok (.invokevirtual 42, 3) := by decide +kernel
theorem dX3_rounded_174 : decode cX3_rounded 174 = .ok (.lstore 9, 2) := by decide +kernel
theorem dX3_rounded_176 : decode cX3_rounded 176 = .ok (.iload 6, 2) := by decide +kernel
theorem dX3_rounded_178 : decode cX3_rounded 178 = .ok (.ifCond .eq 9, 3) := by decide +kernel
theorem dX3_rounded_181 : decode cX3_rounded 181 = .ok (.lload 9, 2) := by decide +kernel
theorem dX3_rounded_183 : decode cX3_rounded 183 = .ok (.lneg, 1) := by decide +kernel
theorem dX3_rounded_184 : decode cX3_rounded 184 = .ok (.goto 5, 3) := by decide +kernel
theorem dX3_rounded_187 : decode cX3_rounded 187 = .ok (.lload 9, 2) := by decide +kernel
theorem dX3_rounded_189 : decode cX3_rounded 189 = .ok (.lreturn, 1) := by decide +kernel
theorem dX3_set_0 : decode cX3_set 0 = .ok (.aload_n 0, 1) := by decide +kernel
theorem dX3_set_1 : decode cX3_set 1 = .ok (.iconst 0, 1) := by decide +kernel
theorem dX3_set_2 : decode cX3_set 2 = .ok (.putfield 27, 3) := by decide +kernel
theorem dX3_set_5 : decode cX3_set 5 = .ok (.iload_n 1, 1) := by decide +kernel
theorem dX3_set_6 : decode cX3_set 6 = .ok (.invokestatic 46, 3) := by decide +kernel
theorem dX3_set_9 : decode cX3_set 9 = .ok (.ifCond .eq 19, 3) := by decide +kernel
theorem dX3_set_12 : decode cX3_set 12 = .ok (.aload_n 0, 1) := by decide +kernel
theorem dX3_set_13 : decode cX3_set 13 = .ok (.iload_n 2, 1) := by decide +kernel
theorem dX3_set_14 : decode cX3_set 14 = .ok (.invokevirtual 50, 3) := by decide +kernel
theorem dX3_set_17 : decode cX3_set 17 = .ok (.ifCond .eq 11, 3) := by decide +kernel
theorem dX3_set_20 : decode cX3_set 20 = .ok (.aload_n 0, 1) := by decide +kernel
theorem dX3_set_21 : decode cX3_set 21 = .ok (.iload_n 3, 1) := by decide +kernel
theorem dX3_set_22 : decode cX3_set 22 = .ok (.invokevirtual 50, 3) := by decide +kernel
theorem dX3_set_25 : decode cX3_set 25 = .ok (.ifCond .ne 5, 3) := by decide +kernel
theorem dX3_set_28 : decode cX3_set 28 = .ok (.iconst 0, 1) := by decide +kernel
theorem dX3_set_29 : decode cX3_set 29 = .ok (.ireturn, 1) := by decide +kernel
theorem dX3_set_30 : decode cX3_set 30 = .ok (.aload_n 0, 1) := by decide +kernel
theorem dX3_set_31 : decode cX3_set 31 = .ok (.iload_n 2, 1) := by decide +kernel
theorem dX3_set_32 : decode cX3_set 32 = .ok (.invokevirtual 53, 3) := by decide +kernel
theorem dX3_set_35 : decode cX3_set 35 = .ok (.lstore 4, 2) := by decide +kernel
theorem dX3_set_37 : decode cX3_set 37 = .ok (.aload_n 0, 1) := by decide +kernel
theorem dX3_set_38 : decode cX3_set 38 = .ok (.iload_n 3, 1) := by decide +kernel
theorem dX3_set_39 : decode cX3_set 39 = .ok (.invokevirtual 53, 3) := by decide +kernel
theorem dX3_set_42 : decode cX3_set 42 = .ok (.lstore 6, 2) := by decide +kernel
theorem dX3_set_44 : decode cX3_set 44 = .ok (.lload 4, 2) := by decide +kernel
theorem dX3_set_46 : decode cX3_set 46 = .ok (.lload 6, 2) := by decide +kernel
theorem dX3_set_48 : decode cX3_set 48 = .ok (.lcmp, 1) := by decide +kernel
theorem dX3_set_49 : decode cX3_set 49 = .ok (.ifCond .gt 21, 3) := by decide +kernel
theorem dX3_set_52 : decode cX3_set 52 = .ok (.lload 4, 2) := by decide +kernel
theorem dX3_set_54 : decode cX3_set 54 = .ok (.ldc2_w 36, 3) := by decide +kernel
theorem dX3_set_57 : decode cX3_set 57 = .ok (.lcmp, 1) := by decide +kernel
theorem dX3_set_58 : decode cX3_set 58 = .ok (.ifCond .eq 12, 3) := by decide +kernel
theorem dX3_set_61 : decode cX3_set 61 = .ok (.lload 6, 2) := by decide +kernel
theorem dX3_set_63 : decode cX3_set 63 = .ok (.ldc2_w 57, 3) := by decide +kernel
theorem dX3_set_66 : decode cX3_set 66 = .ok (.lcmp, 1) := by decide +kernel
theorem dX3_set_67 : decode cX3_set 67 = .ok (.ifCond .ne 5, 3) := by decide +kernel
theorem dX3_set_70 : decode cX3_set 70 = .ok (.iconst 0, 1) := by decide +kernel
theorem dX3_set_71 : decode cX3_set 71 = .ok (.ireturn, 1) := by decide +kernel
theorem dX3_set_72 : decode cX3_set 72 = .ok (.aload_n 0, 1) := by decide +kernel
theorem dX3_set_73 : decode cX3_set 73 = .ok (.getfield 16, 3) := by decide +kernel
theorem dX3_set_76 : decode cX3_set 76 = .ok (.iload_n 1, 1) := by decide +kernel
theorem dX3_set_77 : decode cX3_set 77 = .ok (.iconst 1, 1) := by decide +kernel
theorem dX3_set_78 : decode cX3_set 78 = .ok (.bastore, 1) := by decide +kernel
theorem dX3_set_79 : decode cX3_set 79 = .ok (.aload_n 0, 1) := by decide +kernel
theorem dX3_set_80 : decode cX3_set 80 = .ok (.getfield 20, 3) := by decide +kernel
theorem dX3_set_83 : decode cX3_set 83 = .ok (.iload_n 1, 1) := by decide +kernel
theorem dX3_set_84 : decode cX3_set 84 = .ok (.lload 4, 2) := by decide +kernel
theorem dX3_set_86 : decode cX3_set 86 = .ok (.lastore, 1) := by decide +kernel
theorem dX3_set_87 : decode cX3_set 87 = .ok (.aload_n 0, 1) := by decide +kernel
theorem dX3_set_88 : decode cX3_set 88 = .ok (.getfield 24, 3) := by decide +kernel
theorem dX3_set_91 : decode cX3_set 91 = .ok (.iload_n 1, 1) := by decide +kernel
theorem dX3_set_92 : decode cX3_set 92 = .ok (.lload 6, 2) := by decide +kernel
theorem dX3_set_94 : decode cX3_set 94 = .ok (.lastore, 1) := by decide +kernel
theorem dX3_set_95 : decode cX3_set 95 = .ok (.iconst 1, 1) := by decide +kernel
theorem dX3_set_96 : decode cX3_set 96 = .ok (.ireturn, 1) := by decide +kernel
