theorem dX3_clear_0 : decode cX3_clear 0 = .ok (.aload_n 0, 1) := by decide +kernel
theorem dX3_clear_1 : decode cX3_clear 1 = .ok (.iconst 0, 1) := by decide +kernel
theorem dX3_clear_2 : decode cX3_clear 2 = .ok (.putfield 27, 3) := by decide +kernel
theorem dX3_clear_5 : decode cX3_clear 5 = .ok (.iload_n 1, 1) := by decide +kernel
theorem dX3_clear_6 : decode cX3_clear 6 = .ok (.invokestatic 46, 3) := by decide +kernel
theorem dX3_clear_9 : decode cX3_clear 9 = .ok (.ifCond .ne 5, 3) := by decide +kernel
theorem dX3_clear_12 : decode cX3_clear 12 = .ok (.iconst 0, 1) := by decide +kernel
theorem dX3_clear_13 : decode cX3_clear 13 = .ok (.ireturn, 1) := by decide +kernel
theorem dX3_clear_14 : decode cX3_clear 14 = .ok (.aload_n 0, 1) := by decide +kernel
theorem dX3_clear_15 : decode cX3_clear 15 = .ok (.getfield 16, 3) := by decide +kernel
theorem dX3_clear_18 : decode cX3_clear 18 = .ok (.iload_n 1, 1) := by decide +kernel
theorem dX3_clear_19 : decode cX3_clear 19 = .ok (.iconst 0, 1) := by decide +kernel
theorem dX3_clear_20 : decode cX3_clear 20 = .ok (.bastore, 1) := by decide +kernel
theorem dX3_clear_21 : decode cX3_clear 21 = .ok (.iconst 1, 1) := by decide +kernel
theorem dX3_clear_22 : decode cX3_clear 22 = .ok (.ireturn, 1) := by decide +kernel
theorem dX3_keep_0 : decode cX3_keep 0 = .ok (.aload_n 0, 1) := by decide +kernel
theorem dX3_keep_1 : decode cX3_keep 1 = .ok (.getfield 16, 3) := by decide +kernel
theorem dX3_keep_4 : decode cX3_keep 4 = .ok (.iload_n 1, 1) := by decide +kernel
theorem dX3_keep_5 : decode cX3_keep 5 = .ok (.aload_n 0, 1) := by decide +kernel
theorem dX3_keep_6 : decode cX3_keep 6 = .ok (.getfield 59, 3) := by decide +kernel
theorem dX3_keep_9 : decode cX3_keep 9 = .ok (.bastore, 1) := by decide +kernel
theorem dX3_keep_10 : decode cX3_keep 10 = .ok (.aload_n 0, 1) := by decide +kernel
theorem dX3_keep_11 : decode cX3_keep 11 = .ok (.getfield 20, 3) := by decide +kernel
theorem dX3_keep_14 : decode cX3_keep 14 = .ok (.iload_n 1, 1) := by decide +kernel
theorem dX3_keep_15 : decode cX3_keep 15 = .ok (.aload_n 0, 1) := by decide +kernel
theorem dX3_keep_16 : decode cX3_keep 16 = .ok (.getfield 63, 3) := by decide +kernel
theorem dX3_keep_19 : decode cX3_keep 19 = .ok (.lastore, 1) := by decide +kernel
theorem dX3_keep_20 : decode cX3_keep 20 = .ok (.aload_n 0, 1) := by decide +kernel
theorem dX3_keep_21 : decode cX3_keep 21 = .ok (.getfield 24, 3) := by decide +kernel
theorem dX3_keep_24 : decode cX3_keep 24 = .ok (.iload_n 1, 1) := by decide +kernel
theorem dX3_keep_25 : decode cX3_keep 25 = .ok (.aload_n 0, 1) := by decide +kernel
theorem dX3_keep_26 : decode cX3_keep 26 = .ok (.getfield 67, 3) := by decide +kernel
theorem dX3_keep_29 : decode cX3_keep 29 = .ok (.lastore, 1) := by decide +kernel
theorem dX3_keep_30 : decode cX3_keep 30 = .ok (.aload_n 0, 1) := by decide +kernel
theorem dX3_keep_31 : decode cX3_keep 31 = .ok (.iload_n 1, 1) := by decide +kernel
theorem dX3_keep_32 : decode cX3_keep 32 = .ok (.invokevirtual 70, 3) := by decide +kernel
theorem dX3_keep_35 : decode cX3_keep 35 = .ok (.ireturn, 1) := by decide +kernel
theorem dX3_isEnd_0 : decode cX3_isEnd 0 = .ok (.lload_n 0, 1) := by decide +kernel
theorem dX3_isEnd_1 : decode cX3_isEnd 1 = .ok (.ldc2_w 57, 3) := by decide +kernel
theorem dX3_isEnd_4 : decode cX3_isEnd 4 = .ok (.lcmp, 1) := by decide +kernel
theorem dX3_isEnd_5 : decode cX3_isEnd 5 = .ok (.ifCond .le 15, 3) := by decide +kernel
theorem dX3_isEnd_8 : decode cX3_isEnd 8 = .ok (.lload_n 0, 1) := by decide +kernel
theorem dX3_isEnd_9 : decode cX3_isEnd 9 = .ok (.ldc2_w 36, 3) := by decide +kernel
theorem dX3_isEnd_12 : decode cX3_isEnd 12 = .ok (.lcmp, 1) := by decide +kernel
theorem dX3_isEnd_13 : decode cX3_isEnd 13 = .ok (.ifCond .ge 7, 3) := by decide +kernel
theorem dX3_isEnd_16 : decode cX3_isEnd 16 = .ok (.iconst 1, 1) := by decide +kernel
theorem dX3_isEnd_17 : decode cX3_isEnd 17 = .ok (.goto 4, 3) := by decide +kernel
theorem dX3_isEnd_20 : decode cX3_isEnd 20 = .ok (.iconst 0, 1) := by decide +kernel
theorem dX3_isEnd_21 : decode cX3_isEnd 21 = .ok (.ireturn, 1) := by decide +kernel
theorem dX3_span_0 : decode cX3_span 0 = .ok (.aload_n 0, 1) := by decide +kernel
theorem dX3_span_1 : decode cX3_span 1 = .ok (.iconst 1, 1) := by decide +kernel
theorem dX3_span_2 : decode cX3_span 2 = .ok (.putfield 59, 3) := by decide +kernel
theorem dX3_span_5 : decode cX3_span 5 = .ok (.aload_n 0, 1) := by decide +kernel
theorem dX3_span_6 : decode cX3_span 6 = .ok (.lload_n 1, 1) := by decide +kernel
theorem dX3_span_7 : decode cX3_span 7 = .ok (.invokestatic 74, 3) := by decide +kernel
theorem dX3_span_10 : decode cX3_span 10 = .ok (.ifCond .eq 14, 3) := by decide +kernel
theorem dX3_span_13 : decode cX3_span 13 = .ok (.aload_n 0, 1) := by decide +kernel
theorem dX3_span_14 : decode cX3_span 14 = .ok (.lload_n 1, 1) := by decide +kernel
theorem dX3_span_15 : decode cX3_span 15 = .ok (.lload 5, 2) := by decide +kernel
theorem dX3_span_17 : decode cX3_span 17 = .ok (.iconst 0, 1) := by decide +kernel
theorem dX3_span_18 : decode cX3_span 18 = .ok (.invokevirtual 78, 3) := by decide +kernel
theorem dX3_span_21 : decode cX3_span 21 = .ok (.goto 6, 3) := by decide +kernel
theorem dX3_span_24 : decode cX3_span 24 = .ok (.ldc2_w 57, 3) := by decide +kernel
theorem dX3_span_27 : decode cX3_span 27 = .ok (.putfield 63, 3) := by decide +kernel
theorem dX3_span_30 : decode cX3_span 30 = .ok (.aload_n 0, 1) := by decide +kernel
theorem dX3_span_31 : decode cX3_span 31 = .ok (.lload_n 3, 1) := by decide +kernel
theorem dX3_span_32 : decode cX3_span 32 = .ok (.invokestatic 74, 3) := by decide +kernel
theorem dX3_span_35 : decode cX3_span 35 = .ok (.ifCond .eq 14, 3) := by decide +kernel
theorem dX3_span_38 : decode cX3_span 38 = .ok (.aload_n 0, 1) := by decide +kernel
theorem dX3_span_39 : decode cX3_span 39 = .ok (.lload_n 3, 1) := by decide +kernel
theorem dX3_span_40 : decode cX3_span 40 = .ok (.lload 5, 2) := by decide +kernel
theorem dX3_span_42 : decode cX3_span 42 = .ok (.iconst 1, 1) := by decide +kernel
theorem dX3_span_43 : decode cX3_span 43 = .ok (.invokevirtual 78, 3) := by decide +kernel
theorem dX3_span_46 : decode cX3_span 46 = .ok (.goto 6, 3) := by decide +kernel
theorem dX3_span_49 : decode cX3_span 49 = .ok (.ldc2_w 36, 3) := by decide +kernel
theorem dX3_span_52 : decode cX3_span 52 = .ok (.putfield 67, 3) := by decide +kernel
theorem dX3_span_55 : decode cX3_span 55 = .ok (.return_, 1) := by decide +kernel
theorem dX3_plus_0 : decode cX3_plus 0 = .ok (.lload_n 0, 1) := by decide +kernel
theorem dX3_plus_1 : decode cX3_plus 1 = .ok (.invokestatic 74, 3) := by decide +kernel
theorem dX3_plus_4 : decode cX3_plus 4 = .ok (.ifCond .eq 16, 3) := by decide +kernel
theorem dX3_plus_7 : decode cX3_plus 7 = .ok (.lload_n 2, 1) := by decide +kernel
theorem dX3_plus_8 : decode cX3_plus 8 = .ok (.invokestatic 74, 3) := by decide +kernel
theorem dX3_plus_11 : decode cX3_plus 11 = .ok (.ifCond .eq 9, 3) := by decide +kernel
theorem dX3_plus_14 : decode cX3_plus 14 = .ok (.lload_n 0, 1) := by decide +kernel
theorem dX3_plus_15 : decode cX3_plus 15 = .ok (.lload_n 2, 1) := by decide +kernel
theorem dX3_plus_16 : decode cX3_plus 16 = .ok (.ladd, 1) := by decide +kernel
theorem dX3_plus_17 : decode cX3_plus 17 = .ok (.goto 5, 3) := by decide +kernel
theorem dX3_plus_20 : decode cX3_plus 20 = .ok (.lload 4, 2) := by decide +kernel
theorem dX3_plus_22 : decode cX3_plus 22 = .ok (.lreturn, 1) := by decide +kernel
theorem dX3_times_0 : decode cX3_times 0 = .ok (.lload_n 0, 1) := by decide +kernel
theorem dX3_times_1 : decode cX3_times 1 = .ok (.lconst 0, 1) := by decide +kernel
theorem dX3_times_2 : decode cX3_times 2 = .ok (.lcmp, 1) := by decide +kernel
theorem dX3_times_3 : decode cX3_times 3 = .ok (.ifCond .eq 9, 3) := by decide +kernel
theorem dX3_times_6 : decode cX3_times 6 = .ok (.lload_n 2, 1) := by decide +kernel
theorem dX3_times_7 : decode cX3_times 7 = .ok (.lconst 0, 1) := by decide +kernel
theorem dX3_times_8 : decode cX3_times 8 = .ok (.lcmp, 1) := by decide +kernel
theorem dX3_times_9 : decode cX3_times 9 = .ok (.ifCond .ne 5, 3) := by decide +kernel
theorem dX3_times_12 : decode cX3_times 12 = .ok (.lconst 0, 1) := by decide +kernel
theorem dX3_times_13 : decode cX3_times 13 = .ok (.lreturn, 1) := by decide +kernel
theorem dX3_times_14 : decode cX3_times 14 = .ok (.lload_n 0, 1) := by decide +kernel
theorem dX3_times_15 : decode cX3_times 15 = .ok (.invokestatic 74, 3) := by decide +kernel
theorem dX3_times_18 : decode cX3_times 18 = .ok (.ifCond .eq 16, 3) := by decide +kernel
theorem dX3_times_21 : decode cX3_times 21 = .ok (.lload_n 2, 1) := by decide +kernel
theorem dX3_times_22 : decode cX3_times 22 = .ok (.invokestatic 74, 3) := by decide +kernel
theorem dX3_times_25 : decode cX3_times 25 = .ok (.ifCond .eq 9, 3) := by decide +kernel
theorem dX3_times_28 : decode cX3_times 28 = .ok (.lload_n 0, 1) := by decide +kernel
theorem dX3_times_29 : decode cX3_times 29 = .ok (.lload_n 2, 1) := by decide +kernel
theorem dX3_times_30 : decode cX3_times 30 = .ok (.lmul, 1) := by decide +kernel
theorem dX3_times_31 : decode cX3_times 31 = .ok (.goto 37, 3) := by decide +kernel
theorem dX3_times_34 : decode cX3_times 34 = .ok (.lload_n 0, 1) := by decide +kernel
theorem dX3_times_35 : decode cX3_times 35 = .ok (.lconst 0, 1) := by decide +kernel
theorem dX3_times_36 : decode cX3_times 36 = .ok (.lcmp, 1) := by decide +kernel
theorem dX3_times_37 : decode cX3_times 37 = .ok (.ifCond .ge 7, 3) := by decide +kernel
theorem dX3_times_40 : decode cX3_times 40 = .ok (.iconst 1, 1) := by decide +kernel
theorem dX3_times_41 : decode cX3_times 41 = .ok (.goto 4, 3) := by decide +kernel
theorem dX3_times_44 : decode cX3_times 44 = .ok (.iconst 0, 1) := by decide +kernel
theorem dX3_times_45 : decode cX3_times 45 = .ok (.lload_n 2, 1) := by decide +kernel
theorem dX3_times_46 : decode cX3_times 46 = .ok (.lconst 0, 1) := by decide +kernel
theorem dX3_times_47 : decode cX3_times 47 = .ok (.lcmp, 1) := by decide +kernel
theorem dX3_times_48 : decode cX3_times 48 = .ok (.ifCond .ge 7, 3) := by decide +kernel
theorem dX3_times_51 : decode cX3_times 51 = .ok (.iconst 1, 1) := by decide +kernel
theorem dX3_times_52 : decode cX3_times 52 = .ok (.goto 4, 3) := by decide +kernel
theorem dX3_times_55 : decode cX3_times 55 = .ok (.iconst 0, 1) := by decide +kernel
theorem dX3_times_56 : decode cX3_times 56 = .ok (.if_icmp .ne 9, 3) := by decide +kernel
theorem dX3_times_59 : decode cX3_times 59 = .ok (.ldc2_w 36, 3) := by decide +kernel
theorem dX3_times_62 : decode cX3_times 62 = .ok (.goto 6, 3) := by decide +kernel
theorem dX3_times_65 : decode cX3_times 65 = .ok (.ldc2_w 57, 3) := by decide +kernel
theorem dX3_times_68 : decode cX3_times 68 = .ok (.lreturn, 1) := by decide +kernel
theorem dX3_product_0 : decode cX3_product 0 = .ok (.ldc2_w 36, 3) := by decide +kernel
theorem dX3_product_3 : decode cX3_product 3 = .ok (.lstore 9, 2) := by decide +kernel
theorem dX3_product_5 : decode cX3_product 5 = .ok (.ldc2_w 57, 3) := by decide +kernel
theorem dX3_product_8 : decode cX3_product 8 = .ok (.lstore 11, 2) := by decide +kernel
theorem dX3_product_10 : decode cX3_product 10 = .ok (.iconst 0, 1) := by decide +kernel
theorem dX3_product_11 : decode cX3_product 11 = .ok (.istore 13, 2) := by decide +kernel
theorem dX3_product_13 : decode cX3_product 13 = .ok (.iload 13, 2) := by decide +kernel
theorem dX3_product_15 : decode cX3_product 15 = .ok (.iconst 4, 1) := by decide +kernel
theorem dX3_product_16 : decode cX3_product 16 = .ok (.if_icmp .ge 73, 3) := by decide +kernel
theorem dX3_product_19 : decode cX3_product 19 = .ok (.iload 13, 2) := by decide +kernel
theorem dX3_product_21 : decode cX3_product 21 = .ok (.iconst 2, 1) := by decide +kernel
theorem dX3_product_22 : decode cX3_product 22 = .ok (.if_icmp .ge 7, 3) := by decide +kernel
theorem dX3_product_25 : decode cX3_product 25 = .ok (.lload_n 1, 1) := by decide +kernel
theorem dX3_product_26 : decode cX3_product 26 = .ok (.goto 4, 3) := by decide +kernel
theorem dX3_product_29 : decode cX3_product 29 = .ok (.lload_n 3, 1) := by decide +kernel
theorem dX3_product_30 : decode cX3_product 30 = .ok (.iload 13, 2) := by decide +kernel
theorem dX3_product_32 : decode cX3_product 32 = .ok (.iconst 2, 1) := by decide +kernel
theorem dX3_product_33 : decode cX3_product 33 = .ok (.irem, 1) := by decide +kernel
theorem dX3_product_34 : decode cX3_product 34 = .ok (.ifCond .ne 8, 3) := by decide +kernel
theorem dX3_product_37 : decode cX3_product 37 = .ok (.lload 5, 2) := by decide +kernel
theorem dX3_product_39 : decode cX3_product 39 = .ok (.goto 5, 3) := by decide +kernel
theorem dX3_product_42 : decode cX3_product 42 = .ok (.lload 7, 2) := by decide +kernel
theorem dX3_product_44 : decode cX3_product 44 = .ok (.invokestatic 82, 3) := by decide +kernel
theorem dX3_product_47 : decode cX3_product 47 = .ok (.lstore 14, 2) := by decide +kernel
theorem dX3_product_49 : decode cX3_product 49 = .ok (.lload 14, 2) := by decide +kernel
theorem dX3_product_51 : decode cX3_product 51 = .ok (.lload 9, 2) := by decide +kernel
theorem dX3_product_53 : decode cX3_product 53 = .ok (.lcmp, 1) := by decide +kernel
theorem dX3_product_54 : decode cX3_product 54 = .ok (.ifCond .ge 8, 3) := by decide +kernel
theorem dX3_product_57 : decode cX3_product 57 = .ok (.lload 14, 2) := by decide +kernel
theorem dX3_product_59 : decode cX3_product 59 = .ok (.goto 5, 3) := by decide +kernel
theorem dX3_product_62 : decode cX3_product 62 = .ok (.lload 9, 2) := by decide +kernel
theorem dX3_product_64 : decode cX3_product 64 = .ok (.lstore 9, 2) := by decide +kernel
theorem dX3_product_66 : decode cX3_product 66 = .ok (.lload 14, 2) := by decide +kernel
theorem dX3_product_68 : decode cX3_product 68 = .ok (.lload 11, 2) := by decide +kernel
theorem dX3_product_70 : decode cX3_product 70 = .ok (.lcmp, 1) := by decide +kernel
theorem dX3_product_71 : decode cX3_product 71 = .ok (.ifCond .le 8, 3) := by decide +kernel
theorem dX3_product_74 : decode cX3_product 74 = .ok (.lload 14, 2) := by decide +kernel
theorem dX3_product_76 : decode cX3_product 76 = .ok (.goto 5, 3) := by decide +kernel
theorem dX3_product_79 : decode cX3_product 79 = .ok (.lload 11, 2) := by decide +kernel
theorem dX3_product_81 : decode cX3_product 81 = .ok (.lstore 11, 2) := by decide +kernel
theorem dX3_product_83 : decode cX3_product 83 = .ok (.iinc 13 1, 3) := by decide +kernel
theorem dX3_product_86 : decode cX3_product 86 = .ok (.goto (-73), 3) := by decide +kernel
theorem dX3_product_89 : decode cX3_product 89 = .ok (.aload_n 0, 1) := by decide +kernel
theorem dX3_product_90 : decode cX3_product 90 = .ok (.lload 9, 2) := by decide +kernel
theorem dX3_product_92 : decode cX3_product 92 = .ok (.lload 11, 2) := by decide +kernel
theorem dX3_product_94 : decode cX3_product 94 = .ok (.lconst 1, 1) := by decide +kernel
theorem dX3_product_95 : decode cX3_product 95 = .ok (.aload_n 0, 1) := by decide +kernel
theorem dX3_product_96 : decode cX3_product 96 = .ok (.invokevirtual 86, 3) := by decide +kernel
theorem dX3_product_99 : decode cX3_product 99 = .ok (.lshl, 1) := by decide +kernel
theorem dX3_product_100 : decode cX3_product 100 = .ok (.invokevirtual 89, 3) := by decide +kernel
theorem dX3_product_103 : decode cX3_product 103 = .ok (.return_, 1) := by decide +kernel
theorem dX3_ratio_0 : decode cX3_ratio 0 = .ok (.aload_n 0, 1) := by decide +kernel
theorem dX3_ratio_1 : decode cX3_ratio 1 = .ok (.lload 7, 2) := by decide +kernel
theorem dX3_ratio_3 : decode cX3_ratio 3 = .ok (.lconst 0, 1) := by decide +kernel
theorem dX3_ratio_4 : decode cX3_ratio 4 = .ok (.lcmp, 1) := by decide +kernel
theorem dX3_ratio_5 : decode cX3_ratio 5 = .ok (.ifCond .le 7, 3) := by decide +kernel
theorem dX3_ratio_8 : decode cX3_ratio 8 = .ok (.iconst 1, 1) := by decide +kernel
theorem dX3_ratio_9 : decode cX3_ratio 9 = .ok (.goto 4, 3) := by decide +kernel
theorem dX3_ratio_12 : decode cX3_ratio 12 = .ok (.iconst 0, 1) := by decide +kernel
theorem dX3_ratio_13 : decode cX3_ratio 13 = .ok (.putfield 93, 3) := by decide +kernel
theorem dX3_ratio_16 : decode cX3_ratio 16 = .ok (.aload_n 0, 1) := by decide +kernel
theorem dX3_ratio_17 : decode cX3_ratio 17 = .ok (.getfield 93, 3) := by decide +kernel
theorem dX3_ratio_20 : decode cX3_ratio 20 = .ok (.ifCond .ne 4, 3) := by decide +kernel
theorem dX3_ratio_23 : decode cX3_ratio 23 = .ok (.return_, 1) := by decide +kernel
theorem dX3_ratio_24 : decode cX3_ratio 24 = .ok (.aload_n 0, 1) := by decide +kernel
theorem dX3_ratio_25 : decode cX3_ratio 25 = .ok (.lload_n 1, 1) := by decide +kernel
theorem dX3_ratio_26 : decode cX3_ratio 26 = .ok (.lconst 0, 1) := by decide +kernel
theorem dX3_ratio_27 : decode cX3_ratio 27 = .ok (.lcmp, 1) := by decide +kernel
theorem dX3_ratio_28 : decode cX3_ratio 28 = .ok (.ifCond .ge 14, 3) := by decide +kernel
theorem dX3_ratio_31 : decode cX3_ratio 31 = .ok (.aload_n 0, 1) := by decide +kernel
theorem dX3_ratio_32 : decode cX3_ratio 32 = .ok (.lload_n 1, 1) := by decide +kernel
theorem dX3_ratio_33 : decode cX3_ratio 33 = .ok (.lload 5, 2) := by decide +kernel
theorem dX3_ratio_35 : decode cX3_ratio 35 = .ok (.iconst 0, 1) := by decide +kernel
theorem dX3_ratio_36 : decode cX3_ratio 36 = .ok (.invokevirtual 96, 3) := by decide +kernel
theorem dX3_ratio_39 : decode cX3_ratio 39 = .ok (.goto 11, 3) := by decide +kernel
theorem dX3_ratio_42 : decode cX3_ratio 42 = .ok (.aload_n 0, 1) := by decide +kernel
theorem dX3_ratio_43 : decode cX3_ratio 43 = .ok (.lload_n 1, 1) := by decide +kernel
theorem dX3_ratio_44 : decode cX3_ratio 44 = .ok (.lload 7, 2) := by decide +kernel
theorem dX3_ratio_46 : decode cX3_ratio 46 = .ok (.iconst 0, 1) := by decide +kernel
theorem dX3_ratio_47 : decode cX3_ratio 47 = .ok (.invokevirtual 96, 3) := by decide +kernel
theorem dX3_ratio_50 : decode cX3_ratio 50 = .ok (.putfield 99, 3) := by decide +kernel
theorem dX3_ratio_53 : decode cX3_ratio 53 = .ok (.aload_n 0, 1) := by decide +kernel
theorem dX3_ratio_54 : decode cX3_ratio 54 = .ok (.lload_n 3, 1) := by decide +kernel
theorem dX3_ratio_55 : decode cX3_ratio 55 = .ok (.lconst 0, 1) := by decide +kernel
theorem dX3_ratio_56 : decode cX3_ratio 56 = .ok (.lcmp, 1) := by decide +kernel
theorem dX3_ratio_57 : decode cX3_ratio 57 = .ok (.ifCond .le 14, 3) := by decide +kernel
theorem dX3_ratio_60 : decode cX3_ratio 60 = .ok (.aload_n 0, 1) := by decide +kernel
theorem dX3_ratio_61 : decode cX3_ratio 61 = .ok (.lload_n 3, 1) := by decide +kernel
theorem dX3_ratio_62 : decode cX3_ratio 62 = .ok (.lload 5, 2) := by decide +kernel
theorem dX3_ratio_64 : decode cX3_ratio 64 = .ok (.iconst 1, 1) := by decide +kernel
theorem dX3_ratio_65 : decode cX3_ratio 65 = .ok (.invokevirtual 96, 3) := by decide +kernel
theorem dX3_ratio_68 : decode cX3_ratio 68 = .ok (.goto 11, 3) := by decide +kernel
theorem dX3_ratio_71 : decode cX3_ratio 71 = .ok (.aload_n 0, 1) := by decide +kernel
theorem dX3_ratio_72 : decode cX3_ratio 72 = .ok (.lload_n 3, 1) := by decide +kernel
theorem dX3_ratio_73 : decode cX3_ratio 73 = .ok (.lload 7, 2) := by decide +kernel
theorem dX3_ratio_75 : decode cX3_ratio 75 = .ok (.iconst 1, 1) := by decide +kernel
theorem dX3_ratio_76 : decode cX3_ratio 76 = .ok (.invokevirtual 96, 3) := by decide +kernel
theorem dX3_ratio_79 : decode cX3_ratio 79 = .ok (.putfield 102, 3) := by decide +kernel
theorem dX3_ratio_82 : decode cX3_ratio 82 = .ok (.return_, 1) := by decide +kernel
theorem dX3_quotient_0 : decode cX3_quotient 0 = .ok (.lload_n 1, 1) := by decide +kernel
theorem dX3_quotient_1 : decode cX3_quotient 1 = .ok (.lconst 0, 1) := by decide +kernel
theorem dX3_quotient_2 : decode cX3_quotient 2 = .ok (.lcmp, 1) := by decide +kernel
theorem dX3_quotient_3 : decode cX3_quotient 3 = .ok (.ifCond .ne 5, 3) := by decide +kernel
theorem dX3_quotient_6 : decode cX3_quotient 6 = .ok (.lconst 0, 1) := by decide +kernel
theorem dX3_quotient_7 : decode cX3_quotient 7 = .ok (.lreturn, 1) := by decide +kernel
theorem dX3_quotient_8 : decode cX3_quotient 8 = .ok (.lload_n 1, 1) := by decide +kernel
theorem dX3_quotient_9 : decode cX3_quotient 9 = .ok (.invokestatic 74, 3) := by decide +kernel
theorem dX3_quotient_12 : decode cX3_quotient 12 = .ok (.ifCond .eq 9, 3) := by decide +kernel
theorem dX3_quotient_15 : decode cX3_quotient 15 = .ok (.lload_n 3, 1) := by decide +kernel
theorem dX3_quotient_16 : decode cX3_quotient 16 = .ok (.lconst 0, 1) := by decide +kernel
theorem dX3_quotient_17 : decode cX3_quotient 17 = .ok (.lcmp, 1) := by decide +kernel
theorem dX3_quotient_18 : decode cX3_quotient 18 = .ok (.ifCond .gt 19, 3) := by decide +kernel
theorem dX3_quotient_21 : decode cX3_quotient 21 = .ok (.lload_n 1, 1) := by decide +kernel
theorem dX3_quotient_22 : decode cX3_quotient 22 = .ok (.lconst 0, 1) := by decide +kernel
theorem dX3_quotient_23 : decode cX3_quotient 23 = .ok (.lcmp, 1) := by decide +kernel
theorem dX3_quotient_24 : decode cX3_quotient 24 = .ok (.ifCond .ge 9, 3) := by decide +kernel
theorem dX3_quotient_27 : decode cX3_quotient 27 = .ok (.ldc2_w 57, 3) := by decide +kernel
theorem dX3_quotient_30 : decode cX3_quotient 30 = .ok (.goto 6, 3) := by decide +kernel
theorem dX3_quotient_33 : decode cX3_quotient 33 = .ok (.ldc2_w 36, 3) := by decide +kernel
theorem dX3_quotient_36 : decode cX3_quotient 36 = .ok (.lreturn, 1) := by decide +kernel
theorem dX3_quotient_37 : decode cX3_quotient 37 = .ok (.lload_n 3, 1) := by decide +kernel
theorem dX3_quotient_38 : decode cX3_quotient 38 = .ok (.invokestatic 74, 3) := by decide +kernel
theorem dX3_quotient_41 : decode cX3_quotient 41 = .ok (.ifCond .ne 5, 3) := by decide +kernel
theorem dX3_quotient_44 : decode cX3_quotient 44 = .ok (.lconst 0, 1) := by decide +kernel
theorem dX3_quotient_45 : decode cX3_quotient 45 = .ok (.lreturn, 1) := by decide +kernel
theorem dX3_quotient_46 : decode cX3_quotient 46 = .ok (.aload_n 0, 1) := by decide +kernel
theorem dX3_quotient_47 : decode cX3_quotient 47 = .ok (.lload_n 1, 1) := by decide +kernel
theorem dX3_quotient_48 : decode cX3_quotient 48 = .ok (.aload_n 0, 1) := by decide +kernel
theorem dX3_quotient_49 : decode cX3_quotient 49 = .ok (.invokevirtual 86, 3) := by decide +kernel
theorem dX3_quotient_52 : decode cX3_quotient 52 = .ok (.lshl, 1) := by decide +kernel
theorem dX3_quotient_53 : decode cX3_quotient 53 = .ok (.lload_n 3, 1) := by decide +kernel
theorem dX3_quotient_54 : decode cX3_quotient 54 = .ok (.iload 5, 2) := by decide +kernel
theorem dX3_quotient_56 : decode cX3_quotient 56 = .ok (.invokevirtual 78, 3) := by decide +kernel
theorem dX3_quotient_59 : decode cX3_quotient 59 = .ok (.lreturn, 1) := by decide +kernel
theorem dX3_divide_0 : decode cX3_divide 0 = .ok (.aload_n 0, 1) := by decide +kernel
theorem dX3_divide_1 : decode cX3_divide 1 = .ok (.iconst 0, 1) := by decide +kernel
theorem dX3_divide_2 : decode cX3_divide 2 = .ok (.putfield 59, 3) := by decide +kernel
theorem dX3_divide_5 : decode cX3_divide 5 = .ok (.aload_n 0, 1) := by decide +kernel
theorem dX3_divide_6 : decode cX3_divide 6 = .ok (.getfield 16, 3) := by decide +kernel
theorem dX3_divide_9 : decode cX3_divide 9 = .ok (.iload_n 1, 1) := by decide +kernel
theorem dX3_divide_10 : decode cX3_divide 10 = .ok (.baload, 1) := by decide +kernel
theorem dX3_divide_11 : decode cX3_divide 11 = .ok (.ifCond .eq 12, 3) := by decide +kernel
theorem dX3_divide_14 : decode cX3_divide 14 = .ok (.aload_n 0, 1) := by decide +kernel
theorem dX3_divide_15 : decode cX3_divide 15 = .ok (.getfield 16, 3) := by decide +kernel
theorem dX3_divide_18 : decode cX3_divide 18 = .ok (.iload_n 2, 1) := by decide +kernel
theorem dX3_divide_19 : decode cX3_divide 19 = .ok (.baload, 1) := by decide +kernel
theorem dX3_divide_20 : decode cX3_divide 20 = .ok (.ifCond .ne 4, 3) := by decide +kernel
theorem dX3_divide_23 : decode cX3_divide 23 = .ok (.return_, 1) := by decide +kernel
theorem dX3_divide_24 : decode cX3_divide 24 = .ok (.aload_n 0, 1) := by decide +kernel
theorem dX3_divide_25 : decode cX3_divide 25 = .ok (.aload_n 0, 1) := by decide +kernel
theorem dX3_divide_26 : decode cX3_divide 26 = .ok (.getfield 20, 3) := by decide +kernel
theorem dX3_divide_29 : decode cX3_divide 29 = .ok (.iload_n 1, 1) := by decide +kernel
theorem dX3_divide_30 : decode cX3_divide 30 = .ok (.laload, 1) := by decide +kernel
theorem dX3_divide_31 : decode cX3_divide 31 = .ok (.aload_n 0, 1) := by decide +kernel
theorem dX3_divide_32 : decode cX3_divide 32 = .ok (.getfield 24, 3) := by decide +kernel
theorem dX3_divide_35 : decode cX3_divide 35 = .ok (.iload_n 1, 1) := by decide +kernel
theorem dX3_divide_36 : decode cX3_divide 36 = .ok (.laload, 1) := by decide +kernel
theorem dX3_divide_37 : decode cX3_divide 37 = .ok (.aload_n 0, 1) := by decide +kernel
theorem dX3_divide_38 : decode cX3_divide 38 = .ok (.getfield 20, 3) := by decide +kernel
theorem dX3_divide_41 : decode cX3_divide 41 = .ok (.iload_n 2, 1) := by decide +kernel
theorem dX3_divide_42 : decode cX3_divide 42 = .ok (.laload, 1) := by decide +kernel
theorem dX3_divide_43 : decode cX3_divide 43 = .ok (.aload_n 0, 1) := by decide +kernel
theorem dX3_divide_44 : decode cX3_divide 44 = .ok (.getfield 24, 3) := by decide +kernel
theorem dX3_divide_47 : decode cX3_divide 47 = .ok (.iload_n 2, 1) := by decide +kernel
theorem dX3_divide_48 : decode cX3_divide 48 = .ok (.laload, 1) := by decide +kernel
theorem dX3_divide_49 : decode cX3_divide 49 = .ok (.invokevirtual 105, 3) := by decide +kernel
theorem dX3_divide_52 : decode cX3_divide 52 = .ok (.aload_n 0, 1) := by decide +kernel
theorem dX3_divide_53 : decode cX3_divide 53 = .ok (.aload_n 0, 1) := by decide +kernel
theorem dX3_divide_54 : decode cX3_divide 54 = .ok (.getfield 93, 3) := by decide +kernel
theorem dX3_divide_57 : decode cX3_divide 57 = .ok (.putfield 59, 3) := by decide +kernel
theorem dX3_divide_60 : decode cX3_divide 60 = .ok (.aload_n 0, 1) := by decide +kernel
theorem dX3_divide_61 : decode cX3_divide 61 = .ok (.aload_n 0, 1) := by decide +kernel
theorem dX3_divide_62 : decode cX3_divide 62 = .ok (.getfield 99, 3) := by decide +kernel
theorem dX3_divide_65 : decode cX3_divide 65 = .ok (.putfield 63, 3) := by decide +kernel
theorem dX3_divide_68 : decode cX3_divide 68 = .ok (.aload_n 0, 1) := by decide +kernel
theorem dX3_divide_69 : decode cX3_divide 69 = .ok (.aload_n 0, 1) := by decide +kernel
theorem dX3_divide_70 : decode cX3_divide 70 = .ok (.getfield 102, 3) := by decide +kernel
theorem dX3_divide_73 : decode cX3_divide 73 = .ok (.putfield 67, 3) := by decide +kernel
theorem dX3_divide_76 : decode cX3_divide 76 = .ok (.aload_n 0, 1) := by decide +kernel
theorem dX3_divide_77 : decode cX3_divide 77 = .ok (.aload_n 0, 1) := by decide +kernel
theorem dX3_divide_78 : decode cX3_divide 78 = .ok (.getfield 24, 3) := by decide +kernel
theorem dX3_divide_81 : decode cX3_divide 81 = .ok (.iload_n 1, 1) := by decide +kernel
theorem dX3_divide_82 : decode cX3_divide 82 = .ok (.laload, 1) := by decide +kernel
theorem dX3_divide_83 : decode cX3_divide 83 = .ok (.lneg, 1) := by decide +kernel
theorem dX3_divide_84 : decode cX3_divide 84 = .ok (.aload_n 0, 1) := by decide +kernel
theorem dX3_divide_85 : decode cX3_divide 85 = .ok (.getfield 20, 3) := by decide +kernel
theorem dX3_divide_88 : decode cX3_divide 88 = .ok (.iload_n 1, 1) := by decide +kernel
theorem dX3_divide_89 : decode cX3_divide 89 = .ok (.laload, 1) := by decide +kernel
theorem dX3_divide_90 : decode cX3_divide 90 = .ok (.lneg, 1) := by decide +kernel
theorem dX3_divide_91 : decode cX3_divide 91 = .ok (.aload_n 0, 1) := by decide +kernel
theorem dX3_divide_92 : decode cX3_divide 92 = .ok (.getfield 24, 3) := by decide +kernel
theorem dX3_divide_95 : decode cX3_divide 95 = .ok (.iload_n 2, 1) := by decide +kernel
theorem dX3_divide_96 : decode cX3_divide 96 = .ok (.laload, 1) := by decide +kernel
theorem dX3_divide_97 : decode cX3_divide 97 = .ok (.lneg, 1) := by decide +kernel
theorem dX3_divide_98 : decode cX3_divide 98 = .ok (.aload_n 0, 1) := by decide +kernel
theorem dX3_divide_99 : decode cX3_divide 99 = .ok (.getfield 20, 3) := by decide +kernel
theorem dX3_divide_102 : decode cX3_divide 102 = .ok (.iload_n 2, 1) := by decide +kernel
theorem dX3_divide_103 : decode cX3_divide 103 = .ok (.laload, 1) := by decide +kernel
theorem dX3_divide_104 : decode cX3_divide 104 = .ok (.lneg, 1) := by decide +kernel
theorem dX3_divide_105 : decode cX3_divide 105 = .ok (.invokevirtual 105, 3) := by decide +kernel
theorem dX3_divide_108 : decode cX3_divide 108 = .ok (.aload_n 0, 1) := by decide +kernel
theorem dX3_divide_109 : decode cX3_divide 109 = .ok (.getfield 93, 3) := by decide +kernel
theorem dX3_divide_112 : decode cX3_divide 112 = .ok (.ifCond .ne 4, 3) := by decide +kernel
theorem dX3_divide_115 : decode cX3_divide 115 = .ok (.return_, 1) := by decide +kernel
theorem dX3_divide_116 : decode cX3_divide 116 = .ok (.aload_n 0, 1) := by decide +kernel
theorem dX3_divide_117 : decode cX3_divide 117 = .ok (.aload_n 0, 1) := by decide +kernel
theorem dX3_divide_118 : decode cX3_divide 118 = .ok (.getfield 59, 3) := by decide +kernel
theorem dX3_divide_121 : decode cX3_divide 121 = .ok (.ifCond .eq 22, 3) := by decide +kernel
theorem dX3_divide_124 : decode cX3_divide 124 = .ok (.aload_n 0, 1) := by decide +kernel
theorem dX3_divide_125 : decode cX3_divide 125 = .ok (.getfield 63, 3) := by decide +kernel
theorem dX3_divide_128 : decode cX3_divide 128 = .ok (.aload_n 0, 1) := by decide +kernel
theorem dX3_divide_129 : decode cX3_divide 129 = .ok (.getfield 99, 3) := by decide +kernel
theorem dX3_divide_132 : decode cX3_divide 132 = .ok (.lcmp, 1) := by decide +kernel
theorem dX3_divide_133 : decode cX3_divide 133 = .ok (.ifCond .ge 10, 3) := by decide +kernel
theorem dX3_divide_136 : decode cX3_divide 136 = .ok (.aload_n 0, 1) := by decide +kernel
theorem dX3_divide_137 : decode cX3_divide 137 = .ok (.getfield 63, 3) := by decide +kernel
theorem dX3_divide_140 : decode cX3_divide 140 = .ok (.goto 7, 3) := by decide +kernel
theorem dX3_divide_143 : decode cX3_divide 143 = .ok (.aload_n 0, 1) := by decide +kernel
theorem dX3_divide_144 : decode cX3_divide 144 = .ok (.getfield 99, 3) := by decide +kernel
theorem dX3_divide_147 : decode cX3_divide 147 = .ok (.putfield 63, 3) := by decide +kernel
theorem dX3_divide_150 : decode cX3_divide 150 = .ok (.aload_n 0, 1) := by decide +kernel
theorem dX3_divide_151 : decode cX3_divide 151 = .ok (.aload_n 0, 1) := by decide +kernel
theorem dX3_divide_152 : decode cX3_divide 152 = .ok (.getfield 59, 3) := by decide +kernel
theorem dX3_divide_155 : decode cX3_divide 155 = .ok (.ifCond .eq 22, 3) := by decide +kernel
theorem dX3_divide_158 : decode cX3_divide 158 = .ok (.aload_n 0, 1) := by decide +kernel
theorem dX3_divide_159 : decode cX3_divide 159 = .ok (.getfield 67, 3) := by decide +kernel
theorem dX3_divide_162 : decode cX3_divide 162 = .ok (.aload_n 0, 1) := by decide +kernel
theorem dX3_divide_163 : decode cX3_divide 163 = .ok (.getfield 102, 3) := by decide +kernel
theorem dX3_divide_166 : decode cX3_divide 166 = .ok (.lcmp, 1) := by decide +kernel
theorem dX3_divide_167 : decode cX3_divide 167 = .ok (.ifCond .le 10, 3) := by decide +kernel
theorem dX3_divide_170 : decode cX3_divide 170 = .ok (.aload_n 0, 1) := by decide +kernel
theorem dX3_divide_171 : decode cX3_divide 171 = .ok (.getfield 67, 3) := by decide +kernel
theorem dX3_divide_174 : decode cX3_divide 174 = .ok (.goto 7, 3) := by decide +kernel
theorem dX3_divide_177 : decode cX3_divide 177 = .ok (.aload_n 0, 1) := by decide +kernel
theorem dX3_divide_178 : decode cX3_divide 178 = .ok (.getfield 102, 3) := by decide +kernel
theorem dX3_divide_181 : decode cX3_divide 181 = .ok (.putfield 67, 3) := by decide +kernel
theorem dX3_divide_184 : decode cX3_divide 184 = .ok (.aload_n 0, 1) := by decide +kernel
theorem dX3_divide_185 : decode cX3_divide 185 = .ok (.iconst 1, 1) := by decide +kernel
theorem dX3_divide_186 : decode cX3_divide 186 = .ok (.putfield 59, 3) := by decide +kernel
theorem dX3_divide_189 : decode cX3_divide 189 = .ok (.return_, 1) := by decide +kernel
theorem dX3_less_0 : decode cX3_less 0 = .ok (.lload_n 0, 1) := by decide +kernel
theorem dX3_less_1 : decode cX3_less 1 = .ok (.lload_n 2, 1) := by decide +kernel
theorem dX3_less_2 : decode cX3_less 2 = .ok (.lcmp, 1) := by decide +kernel
theorem dX3_less_3 : decode cX3_less 3 = .ok (.ifCond .ge 7, 3) := by decide +kernel
theorem dX3_less_6 : decode cX3_less 6 = .ok (.lload_n 0, 1) := by decide +kernel
theorem dX3_less_7 : decode cX3_less 7 = .ok (.goto 4, 3) := by decide +kernel
theorem dX3_less_10 : decode cX3_less 10 = .ok (.lload_n 2, 1) := by decide +kernel
theorem dX3_less_11 : decode cX3_less 11 = .ok (.lreturn, 1) := by decide +kernel
theorem dX3_more_0 : decode cX3_more 0 = .ok (.lload_n 0, 1) := by decide +kernel
theorem dX3_more_1 : decode cX3_more 1 = .ok (.lload_n 2, 1) := by decide +kernel
theorem dX3_more_2 : decode cX3_more 2 = .ok (.lcmp, 1) := by decide +kernel
theorem dX3_more_3 : decode cX3_more 3 = .ok (.ifCond .le 7, 3) := by decide +kernel
theorem dX3_more_6 : decode cX3_more 6 = .ok (.lload_n 0, 1) := by decide +kernel
theorem dX3_more_7 : decode cX3_more 7 = .ok (.goto 4, 3) := by decide +kernel
theorem dX3_more_10 : decode cX3_more 10 = .ok (.lload_n 2, 1) := by decide +kernel
theorem dX3_more_11 : decode cX3_more 11 = .ok (.lreturn, 1) := by decide +kernel
theorem dX3_root_0 : decode cX3_root 0 = .ok (.lconst 0, 1) := by decide +kernel
theorem dX3_root_1 : decode cX3_root 1 = .ok (.lstore_n 2, 1) := by decide +kernel
theorem dX3_root_2 : decode cX3_root 2 = .ok (.bipush 24, 2) := by decide +kernel
theorem dX3_root_4 : decode cX3_root 4 = .ok (.istore 4, 2) := by decide +kernel
theorem dX3_root_6 : decode cX3_root 6 = .ok (.iload 4, 2) := by decide +kernel
theorem dX3_root_8 : decode cX3_root 8 = .ok (.ifCond .lt 34, 3) := by decide +kernel
theorem dX3_root_11 : decode cX3_root 11 = .ok (.lload_n 2, 1) := by decide +kernel
theorem dX3_root_12 : decode cX3_root 12 = .ok (.lconst 1, 1) := by decide +kernel
theorem dX3_root_13 : decode cX3_root 13 = .ok (.iload 4, 2) := by decide +kernel
theorem dX3_root_15 : decode cX3_root 15 = .ok (.lshl, 1) := by decide +kernel
theorem dX3_root_16 : decode cX3_root 16 = .ok (.ladd, 1) := by decide +kernel
theorem dX3_root_17 : decode cX3_root 17 = .ok (.lload_n 2, 1) := by decide +kernel
theorem dX3_root_18 : decode cX3_root 18 = .ok (.lconst 1, 1) := by decide +kernel
theorem dX3_root_19 : decode cX3_root 19 = .ok (.iload 4, 2) := by decide +kernel
theorem dX3_root_21 : decode cX3_root 21 = .ok (.lshl, 1) := by decide +kernel
theorem dX3_root_22 : decode cX3_root 22 = .ok (.ladd, 1) := by decide +kernel
theorem dX3_root_23 : decode cX3_root 23 = .ok (.lmul, 1) := by decide +kernel
theorem dX3_root_24 : decode cX3_root 24 = .ok (.lload_n 0, 1) := by decide +kernel
theorem dX3_root_25 : decode cX3_root 25 = .ok (.lcmp, 1) := by decide +kernel
theorem dX3_root_26 : decode cX3_root 26 = .ok (.ifCond .gt 10, 3) := by decide +kernel
theorem dX3_root_29 : decode cX3_root 29 = .ok (.lload_n 2, 1) := by decide +kernel
theorem dX3_root_30 : decode cX3_root 30 = .ok (.lconst 1, 1) := by decide +kernel
theorem dX3_root_31 : decode cX3_root 31 = .ok (.iload 4, 2) := by decide +kernel
theorem dX3_root_33 : decode cX3_root 33 = .ok (.lshl, 1) := by decide +kernel
theorem dX3_root_34 : decode cX3_root 34 = .ok (.ladd, 1) := by decide +kernel
theorem dX3_root_35 : decode cX3_root 35 = .ok (.lstore_n 2, 1) := by decide +kernel
theorem dX3_root_36 : decode cX3_root 36 = .ok (.iinc 4 (-1), 3) := by decide +kernel
theorem dX3_root_39 : decode cX3_root 39 = .ok (.goto (-33), 3) := by decide +kernel
theorem dX3_root_42 : decode cX3_root 42 = .ok (.lload_n 2, 1) := by decide +kernel
theorem dX3_root_43 : decode cX3_root 43 = .ok (.lreturn, 1) := by decide +kernel
theorem dX3_roots_0 : decode cX3_roots 0 = .ok (.aload_n 0, 1) := by decide +kernel
theorem dX3_roots_1 : decode cX3_roots 1 = .ok (.lload_n 3, 1) := by decide +kernel
theorem dX3_roots_2 : decode cX3_roots 2 = .ok (.lconst 0, 1) := by decide +kernel
theorem dX3_roots_3 : decode cX3_roots 3 = .ok (.lcmp, 1) := by decide +kernel
theorem dX3_roots_4 : decode cX3_roots 4 = .ok (.ifCond .lt 7, 3) := by decide +kernel
theorem dX3_roots_7 : decode cX3_roots 7 = .ok (.iconst 1, 1) := by decide +kernel
theorem dX3_roots_8 : decode cX3_roots 8 = .ok (.goto 4, 3) := by decide +kernel
theorem dX3_roots_11 : decode cX3_roots 11 = .ok (.iconst 0, 1) := by decide +kernel
theorem dX3_roots_12 : decode cX3_roots 12 = .ok (.putfield 59, 3) := by decide +kernel
theorem dX3_roots_15 : decode cX3_roots 15 = .ok (.aload_n 0, 1) := by decide +kernel
theorem dX3_roots_16 : decode cX3_roots 16 = .ok (.getfield 59, 3) := by decide +kernel
theorem dX3_roots_19 : decode cX3_roots 19 = .ok (.ifCond .ne 4, 3) := by decide +kernel
theorem dX3_roots_22 : decode cX3_roots 22 = .ok (.return_, 1) := by decide +kernel
theorem dX3_roots_23 : decode cX3_roots 23 = .ok (.lload_n 1, 1) := by decide +kernel
theorem dX3_roots_24 : decode cX3_roots 24 = .ok (.lconst 0, 1) := by decide +kernel
theorem dX3_roots_25 : decode cX3_roots 25 = .ok (.lcmp, 1) := by decide +kernel
theorem dX3_roots_26 : decode cX3_roots 26 = .ok (.ifCond .le 15, 3) := by decide +kernel
theorem dX3_roots_29 : decode cX3_roots 29 = .ok (.lload_n 1, 1) := by decide +kernel
theorem dX3_roots_30 : decode cX3_roots 30 = .ok (.aload_n 0, 1) := by decide +kernel
theorem dX3_roots_31 : decode cX3_roots 31 = .ok (.invokevirtual 86, 3) := by decide +kernel
theorem dX3_roots_34 : decode cX3_roots 34 = .ok (.lshl, 1) := by decide +kernel
theorem dX3_roots_35 : decode cX3_roots 35 = .ok (.invokestatic 109, 3) := by decide +kernel
theorem dX3_roots_38 : decode cX3_roots 38 = .ok (.goto 4, 3) := by decide +kernel
theorem dX3_roots_41 : decode cX3_roots 41 = .ok (.lconst 0, 1) := by decide +kernel
theorem dX3_roots_42 : decode cX3_roots 42 = .ok (.lstore 5, 2) := by decide +kernel
theorem dX3_roots_44 : decode cX3_roots 44 = .ok (.aload_n 0, 1) := by decide +kernel
theorem dX3_roots_45 : decode cX3_roots 45 = .ok (.aload_n 0, 1) := by decide +kernel
theorem dX3_roots_46 : decode cX3_roots 46 = .ok (.lload 5, 2) := by decide +kernel
theorem dX3_roots_48 : decode cX3_roots 48 = .ok (.lconst 1, 1) := by decide +kernel
theorem dX3_roots_49 : decode cX3_roots 49 = .ok (.iconst 0, 1) := by decide +kernel
theorem dX3_roots_50 : decode cX3_roots 50 = .ok (.invokevirtual 78, 3) := by decide +kernel
theorem dX3_roots_53 : decode cX3_roots 53 = .ok (.putfield 63, 3) := by decide +kernel
theorem dX3_roots_56 : decode cX3_roots 56 = .ok (.lload_n 3, 1) := by decide +kernel
theorem dX3_roots_57 : decode cX3_roots 57 = .ok (.invokestatic 74, 3) := by decide +kernel
theorem dX3_roots_60 : decode cX3_roots 60 = .ok (.ifCond .ne 11, 3) := by decide +kernel
theorem dX3_roots_63 : decode cX3_roots 63 = .ok (.aload_n 0, 1) := by decide +kernel
theorem dX3_roots_64 : decode cX3_roots 64 = .ok (.ldc2_w 36, 3) := by decide +kernel
theorem dX3_roots_67 : decode cX3_roots 67 = .ok (.putfield 67, 3) := by decide +kernel
theorem dX3_roots_70 : decode cX3_roots 70 = .ok (.return_, 1) := by decide +kernel
theorem dX3_roots_71 : decode cX3_roots 71 = .ok (.lload_n 3, 1) := by decide +kernel
theorem dX3_roots_72 : decode cX3_roots 72 = .ok (.aload_n 0, 1) := by decide +kernel
theorem dX3_roots_73 : decode cX3_roots 73 = .ok (.invokevirtual 86, 3) := by decide +kernel
theorem dX3_roots_76 : decode cX3_roots 76 = .ok (.lshl, 1) := by decide +kernel
theorem dX3_roots_77 : decode cX3_roots 77 = .ok (.invokestatic 109, 3) := by decide +kernel
theorem dX3_roots_80 : decode cX3_roots 80 = .ok (.lstore 7, 2) := by decide +kernel
theorem dX3_roots_82 : decode cX3_roots 82 = .ok (.aload_n 0, 1) := by decide +kernel
theorem dX3_roots_83 : decode cX3_roots 83 = .ok (.aload_n 0, 1) := by decide +kernel
theorem dX3_roots_84 : decode cX3_roots 84 = .ok (.lload 7, 2) := by decide +kernel
theorem dX3_roots_86 : decode cX3_roots 86 = .ok (.lload 7, 2) := by decide +kernel
theorem dX3_roots_88 : decode cX3_roots 88 = .ok (.lmul, 1) := by decide +kernel
theorem dX3_roots_89 : decode cX3_roots 89 = .ok (.lload_n 3, 1) := by decide +kernel
theorem dX3_roots_90 : decode cX3_roots 90 = .ok (.aload_n 0, 1) := by decide +kernel
theorem dX3_roots_91 : decode cX3_roots 91 = .ok (.invokevirtual 86, 3) := by decide +kernel
theorem dX3_roots_94 : decode cX3_roots 94 = .ok (.lshl, 1) := by decide +kernel
theorem dX3_roots_95 : decode cX3_roots 95 = .ok (.lcmp, 1) := by decide +kernel
theorem dX3_roots_96 : decode cX3_roots 96 = .ok (.ifCond .ne 12, 3) := by decide +kernel
theorem dX3_roots_99 : decode cX3_roots 99 = .ok (.ldc2_w 30, 3) := by decide +kernel
theorem dX3_roots_102 : decode cX3_roots 102 = .ok (.lload 7, 2) := by decide +kernel
theorem dX3_roots_104 : decode cX3_roots 104 = .ok (.lmul, 1) := by decide +kernel
theorem dX3_roots_105 : decode cX3_roots 105 = .ok (.goto 11, 3) := by decide +kernel
theorem dX3_roots_108 : decode cX3_roots 108 = .ok (.ldc2_w 30, 3) := by decide +kernel
theorem dX3_roots_111 : decode cX3_roots 111 = .ok (.lload 7, 2) := by decide +kernel
theorem dX3_roots_113 : decode cX3_roots 113 = .ok (.lmul, 1) := by decide +kernel
theorem dX3_roots_114 : decode cX3_roots 114 = .ok (.lconst 1, 1) := by decide +kernel
theorem dX3_roots_115 : decode cX3_roots 115 = .ok (.ladd, 1) := by decide +kernel
theorem dX3_roots_116 : decode cX3_roots 116 = .ok (.ldc2_w 30, 3) := by decide +kernel
theorem dX3_roots_119 : decode cX3_roots 119 = .ok (.iconst 1, 1) := by decide +kernel
theorem dX3_roots_120 : decode cX3_roots 120 = .ok (.invokevirtual 78, 3) := by decide +kernel
theorem dX3_roots_123 : decode cX3_roots 123 = .ok (.putfield 67, 3) := by decide +kernel
theorem dX3_roots_126 : decode cX3_roots 126 = .ok (.return_, 1) := by decide +kernel
