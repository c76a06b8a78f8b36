theorem dX3_sum_0 : decode cX3_sum 0 = .ok (.iload_n 1, 1) := by decide +kernel
theorem dX3_sum_1 : decode cX3_sum 1 = .ok (.invokestatic 46, 3) := by decide +kernel
theorem dX3_sum_4 : decode cX3_sum 4 = .ok (.ifCond .eq 23, 3) := by decide +kernel
theorem dX3_sum_7 : decode cX3_sum 7 = .ok (.iload_n 2, 1) := by decide +kernel
theorem dX3_sum_8 : decode cX3_sum 8 = .ok (.invokestatic 46, 3) := by decide +kernel
theorem dX3_sum_11 : decode cX3_sum 11 = .ok (.ifCond .eq 16, 3) := by decide +kernel
theorem dX3_sum_14 : decode cX3_sum 14 = .ok (.iload_n 3, 1) := by decide +kernel
theorem dX3_sum_15 : decode cX3_sum 15 = .ok (.iconst 1, 1) := by decide +kernel
theorem dX3_sum_16 : decode cX3_sum 16 = .ok (.if_icmp .lt 11, 3) := by decide +kernel
theorem dX3_sum_19 : decode cX3_sum 19 = .ok (.iload_n 3, 1) := by decide +kernel
theorem dX3_sum_20 : decode cX3_sum 20 = .ok (.bipush 8, 2) := by decide +kernel
theorem dX3_sum_22 : decode cX3_sum 22 = .ok (.iload_n 2, 1) := by decide +kernel
theorem dX3_sum_23 : decode cX3_sum 23 = .ok (.isub, 1) := by decide +kernel
theorem dX3_sum_24 : decode cX3_sum 24 = .ok (.if_icmp .le 9, 3) := by decide +kernel
theorem dX3_sum_27 : decode cX3_sum 27 = .ok (.aload_n 0, 1) := by decide +kernel
theorem dX3_sum_28 : decode cX3_sum 28 = .ok (.iconst 1, 1) := by decide +kernel
theorem dX3_sum_29 : decode cX3_sum 29 = .ok (.invokevirtual 133, 3) := by decide +kernel
theorem dX3_sum_32 : decode cX3_sum 32 = .ok (.ireturn, 1) := by decide +kernel
theorem dX3_sum_33 : decode cX3_sum 33 = .ok (.aload_n 0, 1) := by decide +kernel
theorem dX3_sum_34 : decode cX3_sum 34 = .ok (.iconst 0, 1) := by decide +kernel
theorem dX3_sum_35 : decode cX3_sum 35 = .ok (.putfield 27, 3) := by decide +kernel
theorem dX3_sum_38 : decode cX3_sum 38 = .ok (.iconst 1, 1) := by decide +kernel
theorem dX3_sum_39 : decode cX3_sum 39 = .ok (.istore 4, 2) := by decide +kernel
theorem dX3_sum_41 : decode cX3_sum 41 = .ok (.lconst 0, 1) := by decide +kernel
theorem dX3_sum_42 : decode cX3_sum 42 = .ok (.lstore 5, 2) := by decide +kernel
theorem dX3_sum_44 : decode cX3_sum 44 = .ok (.lconst 0, 1) := by decide +kernel
theorem dX3_sum_45 : decode cX3_sum 45 = .ok (.lstore 7, 2) := by decide +kernel
theorem dX3_sum_47 : decode cX3_sum 47 = .ok (.iload_n 2, 1) := by decide +kernel
theorem dX3_sum_48 : decode cX3_sum 48 = .ok (.istore 9, 2) := by decide +kernel
theorem dX3_sum_50 : decode cX3_sum 50 = .ok (.iload 9, 2) := by decide +kernel
theorem dX3_sum_52 : decode cX3_sum 52 = .ok (.iload_n 2, 1) := by decide +kernel
theorem dX3_sum_53 : decode cX3_sum 53 = .ok (.iload_n 3, 1) := by decide +kernel
theorem dX3_sum_54 : decode cX3_sum 54 = .ok (.iadd, 1) := by decide +kernel
theorem dX3_sum_55 : decode cX3_sum 55 = .ok (.if_icmp .ge 65, 3) := by decide +kernel
theorem dX3_sum_58 : decode cX3_sum 58 = .ok (.iload 4, 2) := by decide +kernel
theorem dX3_sum_60 : decode cX3_sum 60 = .ok (.ifCond .eq 17, 3) := by decide +kernel
theorem dX3_sum_63 : decode cX3_sum 63 = .ok (.aload_n 0, 1) := by decide +kernel
theorem dX3_sum_64 : decode cX3_sum 64 = .ok (.getfield 16, 3) := by decide +kernel
theorem dX3_sum_67 : decode cX3_sum 67 = .ok (.iload 9, 2) := by decide +kernel
theorem dX3_sum_69 : decode cX3_sum 69 = .ok (.baload, 1) := by decide +kernel
theorem dX3_sum_70 : decode cX3_sum 70 = .ok (.ifCond .eq 7, 3) := by decide +kernel
theorem dX3_sum_73 : decode cX3_sum 73 = .ok (.iconst 1, 1) := by decide +kernel
theorem dX3_sum_74 : decode cX3_sum 74 = .ok (.goto 4, 3) := by decide +kernel
theorem dX3_sum_77 : decode cX3_sum 77 = .ok (.iconst 0, 1) := by decide +kernel
theorem dX3_sum_78 : decode cX3_sum 78 = .ok (.istore 4, 2) := by decide +kernel
theorem dX3_sum_80 : decode cX3_sum 80 = .ok (.lload 5, 2) := by decide +kernel
theorem dX3_sum_82 : decode cX3_sum 82 = .ok (.aload_n 0, 1) := by decide +kernel
theorem dX3_sum_83 : decode cX3_sum 83 = .ok (.getfield 20, 3) := by decide +kernel
theorem dX3_sum_86 : decode cX3_sum 86 = .ok (.iload 9, 2) := by decide +kernel
theorem dX3_sum_88 : decode cX3_sum 88 = .ok (.laload, 1) := by decide +kernel
theorem dX3_sum_89 : decode cX3_sum 89 = .ok (.ldc2_w 57, 3) := by decide +kernel
theorem dX3_sum_92 : decode cX3_sum 92 = .ok (.invokestatic 116, 3) := by decide +kernel
theorem dX3_sum_95 : decode cX3_sum 95 = .ok (.lstore 5, 2) := by decide +kernel
theorem dX3_sum_97 : decode cX3_sum 97 = .ok (.lload 7, 2) := by decide +kernel
theorem dX3_sum_99 : decode cX3_sum 99 = .ok (.aload_n 0, 1) := by decide +kernel
theorem dX3_sum_100 : decode cX3_sum 100 = .ok (.getfield 24, 3) := by decide +kernel
theorem dX3_sum_103 : decode cX3_sum 103 = .ok (.iload 9, 2) := by decide +kernel
theorem dX3_sum_105 : decode cX3_sum 105 = .ok (.laload, 1) := by decide +kernel
theorem dX3_sum_106 : decode cX3_sum 106 = .ok (.ldc2_w 36, 3) := by decide +kernel
theorem dX3_sum_109 : decode cX3_sum 109 = .ok (.invokestatic 116, 3) := by decide +kernel
theorem dX3_sum_112 : decode cX3_sum 112 = .ok (.lstore 7, 2) := by decide +kernel
theorem dX3_sum_114 : decode cX3_sum 114 = .ok (.iinc 9 1, 3) := by decide +kernel
theorem dX3_sum_117 : decode cX3_sum 117 = .ok (.goto (-67), 3) := by decide +kernel
theorem dX3_sum_120 : decode cX3_sum 120 = .ok (.iload 4, 2) := by decide +kernel
theorem dX3_sum_122 : decode cX3_sum 122 = .ok (.ifCond .eq 12, 3) := by decide +kernel
theorem dX3_sum_125 : decode cX3_sum 125 = .ok (.aload_n 0, 1) := by decide +kernel
theorem dX3_sum_126 : decode cX3_sum 126 = .ok (.lload 5, 2) := by decide +kernel
theorem dX3_sum_128 : decode cX3_sum 128 = .ok (.lload 7, 2) := by decide +kernel
theorem dX3_sum_130 : decode cX3_sum 130 = .ok (.lconst 1, 1) := by decide +kernel
theorem dX3_sum_131 : decode cX3_sum 131 = .ok (.invokevirtual 89, 3) := by decide +kernel
theorem dX3_sum_134 : decode cX3_sum 134 = .ok (.aload_n 0, 1) := by decide +kernel
theorem dX3_sum_135 : decode cX3_sum 135 = .ok (.iload 4, 2) := by decide +kernel
theorem dX3_sum_137 : decode cX3_sum 137 = .ok (.putfield 59, 3) := by decide +kernel
theorem dX3_sum_140 : decode cX3_sum 140 = .ok (.aload_n 0, 1) := by decide +kernel
theorem dX3_sum_141 : decode cX3_sum 141 = .ok (.iload_n 1, 1) := by decide +kernel
theorem dX3_sum_142 : decode cX3_sum 142 = .ok (.invokevirtual 147, 3) := by decide +kernel
theorem dX3_sum_145 : decode cX3_sum 145 = .ok (.ireturn, 1) := by decide +kernel
theorem dX3_kind_0 : decode cX3_kind 0 = .ok (.aload_n 0, 1) := by decide +kernel
theorem dX3_kind_1 : decode cX3_kind 1 = .ok (.iconst 0, 1) := by decide +kernel
theorem dX3_kind_2 : decode cX3_kind 2 = .ok (.putfield 27, 3) := by decide +kernel
theorem dX3_kind_5 : decode cX3_kind 5 = .ok (.iload_n 1, 1) := by decide +kernel
theorem dX3_kind_6 : decode cX3_kind 6 = .ok (.invokestatic 46, 3) := by decide +kernel
theorem dX3_kind_9 : decode cX3_kind 9 = .ok (.ifCond .ne 5, 3) := by decide +kernel
theorem dX3_kind_12 : decode cX3_kind 12 = .ok (.iconst (-1), 1) := by decide +kernel
theorem dX3_kind_13 : decode cX3_kind 13 = .ok (.ireturn, 1) := by decide +kernel
theorem dX3_kind_14 : decode cX3_kind 14 = .ok (.aload_n 0, 1) := by decide +kernel
theorem dX3_kind_15 : decode cX3_kind 15 = .ok (.getfield 16, 3) := by decide +kernel
theorem dX3_kind_18 : decode cX3_kind 18 = .ok (.iload_n 1, 1) := by decide +kernel
theorem dX3_kind_19 : decode cX3_kind 19 = .ok (.baload, 1) := by decide +kernel
theorem dX3_kind_20 : decode cX3_kind 20 = .ok (.ifCond .ne 5, 3) := by decide +kernel
theorem dX3_kind_23 : decode cX3_kind 23 = .ok (.iconst 0, 1) := by decide +kernel
theorem dX3_kind_24 : decode cX3_kind 24 = .ok (.ireturn, 1) := by decide +kernel
theorem dX3_kind_25 : decode cX3_kind 25 = .ok (.aload_n 0, 1) := by decide +kernel
theorem dX3_kind_26 : decode cX3_kind 26 = .ok (.getfield 20, 3) := by decide +kernel
theorem dX3_kind_29 : decode cX3_kind 29 = .ok (.iload_n 1, 1) := by decide +kernel
theorem dX3_kind_30 : decode cX3_kind 30 = .ok (.laload, 1) := by decide +kernel
theorem dX3_kind_31 : decode cX3_kind 31 = .ok (.invokestatic 74, 3) := by decide +kernel
theorem dX3_kind_34 : decode cX3_kind 34 = .ok (.ifCond .ne 21, 3) := by decide +kernel
theorem dX3_kind_37 : decode cX3_kind 37 = .ok (.aload_n 0, 1) := by decide +kernel
theorem dX3_kind_38 : decode cX3_kind 38 = .ok (.getfield 24, 3) := by decide +kernel
theorem dX3_kind_41 : decode cX3_kind 41 = .ok (.iload_n 1, 1) := by decide +kernel
theorem dX3_kind_42 : decode cX3_kind 42 = .ok (.laload, 1) := by decide +kernel
theorem dX3_kind_43 : decode cX3_kind 43 = .ok (.invokestatic 74, 3) := by decide +kernel
theorem dX3_kind_46 : decode cX3_kind 46 = .ok (.ifCond .eq 7, 3) := by decide +kernel
theorem dX3_kind_49 : decode cX3_kind 49 = .ok (.iconst 4, 1) := by decide +kernel
theorem dX3_kind_50 : decode cX3_kind 50 = .ok (.goto 4, 3) := by decide +kernel
theorem dX3_kind_53 : decode cX3_kind 53 = .ok (.iconst 5, 1) := by decide +kernel
theorem dX3_kind_54 : decode cX3_kind 54 = .ok (.ireturn, 1) := by decide +kernel
theorem dX3_kind_55 : decode cX3_kind 55 = .ok (.aload_n 0, 1) := by decide +kernel
theorem dX3_kind_56 : decode cX3_kind 56 = .ok (.getfield 24, 3) := by decide +kernel
theorem dX3_kind_59 : decode cX3_kind 59 = .ok (.iload_n 1, 1) := by decide +kernel
theorem dX3_kind_60 : decode cX3_kind 60 = .ok (.laload, 1) := by decide +kernel
theorem dX3_kind_61 : decode cX3_kind 61 = .ok (.invokestatic 74, 3) := by decide +kernel
theorem dX3_kind_64 : decode cX3_kind 64 = .ok (.ifCond .ne 7, 3) := by decide +kernel
theorem dX3_kind_67 : decode cX3_kind 67 = .ok (.iconst 3, 1) := by decide +kernel
theorem dX3_kind_68 : decode cX3_kind 68 = .ok (.goto 24, 3) := by decide +kernel
theorem dX3_kind_71 : decode cX3_kind 71 = .ok (.aload_n 0, 1) := by decide +kernel
theorem dX3_kind_72 : decode cX3_kind 72 = .ok (.getfield 20, 3) := by decide +kernel
theorem dX3_kind_75 : decode cX3_kind 75 = .ok (.iload_n 1, 1) := by decide +kernel
theorem dX3_kind_76 : decode cX3_kind 76 = .ok (.laload, 1) := by decide +kernel
theorem dX3_kind_77 : decode cX3_kind 77 = .ok (.aload_n 0, 1) := by decide +kernel
theorem dX3_kind_78 : decode cX3_kind 78 = .ok (.getfield 24, 3) := by decide +kernel
theorem dX3_kind_81 : decode cX3_kind 81 = .ok (.iload_n 1, 1) := by decide +kernel
theorem dX3_kind_82 : decode cX3_kind 82 = .ok (.laload, 1) := by decide +kernel
theorem dX3_kind_83 : decode cX3_kind 83 = .ok (.lcmp, 1) := by decide +kernel
theorem dX3_kind_84 : decode cX3_kind 84 = .ok (.ifCond .ne 7, 3) := by decide +kernel
theorem dX3_kind_87 : decode cX3_kind 87 = .ok (.iconst 1, 1) := by decide +kernel
theorem dX3_kind_88 : decode cX3_kind 88 = .ok (.goto 4, 3) := by decide +kernel
theorem dX3_kind_91 : decode cX3_kind 91 = .ok (.iconst 2, 1) := by decide +kernel
theorem dX3_kind_92 : decode cX3_kind 92 = .ok (.ireturn, 1) := by decide +kernel
theorem dX3_low_0 : decode cX3_low 0 = .ok (.aload_n 0, 1) := by decide +kernel
theorem dX3_low_1 : decode cX3_low 1 = .ok (.iload_n 1, 1) := by decide +kernel
theorem dX3_low_2 : decode cX3_low 2 = .ok (.invokestatic 46, 3) := by decide +kernel
theorem dX3_low_5 : decode cX3_low 5 = .ok (.ifCond .eq 16, 3) := by decide +kernel
theorem dX3_low_8 : decode cX3_low 8 = .ok (.aload_n 0, 1) := by decide +kernel
theorem dX3_low_9 : decode cX3_low 9 = .ok (.getfield 16, 3) := by decide +kernel
theorem dX3_low_12 : decode cX3_low 12 = .ok (.iload_n 1, 1) := by decide +kernel
theorem dX3_low_13 : decode cX3_low 13 = .ok (.baload, 1) := by decide +kernel
theorem dX3_low_14 : decode cX3_low 14 = .ok (.ifCond .eq 7, 3) := by decide +kernel
theorem dX3_low_17 : decode cX3_low 17 = .ok (.iconst 0, 1) := by decide +kernel
theorem dX3_low_18 : decode cX3_low 18 = .ok (.goto 4, 3) := by decide +kernel
theorem dX3_low_21 : decode cX3_low 21 = .ok (.iconst 1, 1) := by decide +kernel
theorem dX3_low_22 : decode cX3_low 22 = .ok (.putfield 27, 3) := by decide +kernel
theorem dX3_low_25 : decode cX3_low 25 = .ok (.aload_n 0, 1) := by decide +kernel
theorem dX3_low_26 : decode cX3_low 26 = .ok (.getfield 27, 3) := by decide +kernel
theorem dX3_low_29 : decode cX3_low 29 = .ok (.ifCond .le 7, 3) := by decide +kernel
theorem dX3_low_32 : decode cX3_low 32 = .ok (.iconst 0, 1) := by decide +kernel
theorem dX3_low_33 : decode cX3_low 33 = .ok (.goto 13, 3) := by decide +kernel
theorem dX3_low_36 : decode cX3_low 36 = .ok (.aload_n 0, 1) := by decide +kernel
theorem dX3_low_37 : decode cX3_low 37 = .ok (.aload_n 0, 1) := by decide +kernel
theorem dX3_low_38 : decode cX3_low 38 = .ok (.getfield 20, 3) := by decide +kernel
theorem dX3_low_41 : decode cX3_low 41 = .ok (.iload_n 1, 1) := by decide +kernel
theorem dX3_low_42 : decode cX3_low 42 = .ok (.laload, 1) := by decide +kernel
theorem dX3_low_43 : decode cX3_low 43 = .ok (.invokevirtual 150, 3) := by decide +kernel
theorem dX3_low_46 : decode cX3_low 46 = .ok (.ireturn, 1) := by decide +kernel
theorem dX3_high_0 : decode cX3_high 0 = .ok (.aload_n 0, 1) := by decide +kernel
theorem dX3_high_1 : decode cX3_high 1 = .ok (.iload_n 1, 1) := by decide +kernel
theorem dX3_high_2 : decode cX3_high 2 = .ok (.invokestatic 46, 3) := by decide +kernel
theorem dX3_high_5 : decode cX3_high 5 = .ok (.ifCond .eq 16, 3) := by decide +kernel
theorem dX3_high_8 : decode cX3_high 8 = .ok (.aload_n 0, 1) := by decide +kernel
theorem dX3_high_9 : decode cX3_high 9 = .ok (.getfield 16, 3) := by decide +kernel
theorem dX3_high_12 : decode cX3_high 12 = .ok (.iload_n 1, 1) := by decide +kernel
theorem dX3_high_13 : decode cX3_high 13 = .ok (.baload, 1) := by decide +kernel
theorem dX3_high_14 : decode cX3_high 14 = .ok (.ifCond .eq 7, 3) := by decide +kernel
theorem dX3_high_17 : decode cX3_high 17 = .ok (.iconst 0, 1) := by decide +kernel
theorem dX3_high_18 : decode cX3_high 18 = .ok (.goto 4, 3) := by decide +kernel
theorem dX3_high_21 : decode cX3_high 21 = .ok (.iconst 1, 1) := by decide +kernel
theorem dX3_high_22 : decode cX3_high 22 = .ok (.putfield 27, 3) := by decide +kernel
theorem dX3_high_25 : decode cX3_high 25 = .ok (.aload_n 0, 1) := by decide +kernel
theorem dX3_high_26 : decode cX3_high 26 = .ok (.getfield 27, 3) := by decide +kernel
theorem dX3_high_29 : decode cX3_high 29 = .ok (.ifCond .le 7, 3) := by decide +kernel
theorem dX3_high_32 : decode cX3_high 32 = .ok (.iconst 0, 1) := by decide +kernel
theorem dX3_high_33 : decode cX3_high 33 = .ok (.goto 13, 3) := by decide +kernel
theorem dX3_high_36 : decode cX3_high 36 = .ok (.aload_n 0, 1) := by decide +kernel
theorem dX3_high_37 : decode cX3_high 37 = .ok (.aload_n 0, 1) := by decide +kernel
theorem dX3_high_38 : decode cX3_high 38 = .ok (.getfield 24, 3) := by decide +kernel
theorem dX3_high_41 : decode cX3_high 41 = .ok (.iload_n 1, 1) := by decide +kernel
theorem dX3_high_42 : decode cX3_high 42 = .ok (.laload, 1) := by decide +kernel
theorem dX3_high_43 : decode cX3_high 43 = .ok (.invokevirtual 150, 3) := by decide +kernel
theorem dX3_high_46 : decode cX3_high 46 = .ok (.ireturn, 1) := by decide +kernel
theorem dX3_middle_0 : decode cX3_middle 0 = .ok (.aload_n 0, 1) := by decide +kernel
theorem dX3_middle_1 : decode cX3_middle 1 = .ok (.iload_n 1, 1) := by decide +kernel
theorem dX3_middle_2 : decode cX3_middle 2 = .ok (.invokevirtual 70, 3) := by decide +kernel
theorem dX3_middle_5 : decode cX3_middle 5 = .ok (.istore_n 2, 1) := by decide +kernel
theorem dX3_middle_6 : decode cX3_middle 6 = .ok (.iload_n 2, 1) := by decide +kernel
theorem dX3_middle_7 : decode cX3_middle 7 = .ok (.iconst 1, 1) := by decide +kernel
theorem dX3_middle_8 : decode cX3_middle 8 = .ok (.if_icmp .eq 14, 3) := by decide +kernel
theorem dX3_middle_11 : decode cX3_middle 11 = .ok (.iload_n 2, 1) := by decide +kernel
theorem dX3_middle_12 : decode cX3_middle 12 = .ok (.iconst 2, 1) := by decide +kernel
theorem dX3_middle_13 : decode cX3_middle 13 = .ok (.if_icmp .eq 9, 3) := by decide +kernel
theorem dX3_middle_16 : decode cX3_middle 16 = .ok (.aload_n 0, 1) := by decide +kernel
theorem dX3_middle_17 : decode cX3_middle 17 = .ok (.iconst 1, 1) := by decide +kernel
theorem dX3_middle_18 : decode cX3_middle 18 = .ok (.invokevirtual 133, 3) := by decide +kernel
theorem dX3_middle_21 : decode cX3_middle 21 = .ok (.ireturn, 1) := by decide +kernel
theorem dX3_middle_22 : decode cX3_middle 22 = .ok (.aload_n 0, 1) := by decide +kernel
theorem dX3_middle_23 : decode cX3_middle 23 = .ok (.getfield 20, 3) := by decide +kernel
theorem dX3_middle_26 : decode cX3_middle 26 = .ok (.iload_n 1, 1) := by decide +kernel
theorem dX3_middle_27 : decode cX3_middle 27 = .ok (.laload, 1) := by decide +kernel
theorem dX3_middle_28 : decode cX3_middle 28 = .ok (.aload_n 0, 1) := by decide +kernel
theorem dX3_middle_29 : decode cX3_middle 29 = .ok (.getfield 24, 3) := by decide +kernel
theorem dX3_middle_32 : decode cX3_middle 32 = .ok (.iload_n 1, 1) := by decide +kernel
theorem dX3_middle_33 : decode cX3_middle 33 = .ok (.laload, 1) := by decide +kernel
theorem dX3_middle_34 : decode cX3_middle 34 = .ok (.ladd, 1) := by decide +kernel
theorem dX3_middle_35 : decode cX3_middle 35 = .ok (.lstore_n 3, 1) := by decide +kernel
theorem dX3_middle_36 : decode cX3_middle 36 = .ok (.aload_n 0, 1) := by decide +kernel
theorem dX3_middle_37 : decode cX3_middle 37 = .ok (.lload_n 3, 1) := by decide +kernel
theorem dX3_middle_38 : decode cX3_middle 38 = .ok (.ldc2_w 30, 3) := by decide +kernel
theorem dX3_middle_41 : decode cX3_middle 41 = .ok (.iconst 0, 1) := by decide +kernel
theorem dX3_middle_42 : decode cX3_middle 42 = .ok (.invokevirtual 78, 3) := by decide +kernel
theorem dX3_middle_45 : decode cX3_middle 45 = .ok (.lstore 5, 2) := by decide +kernel
theorem dX3_middle_47 : decode cX3_middle 47 = .ok (.aload_n 0, 1) := by decide +kernel
theorem dX3_middle_48 : decode cX3_middle 48 = .ok (.lload_n 3, 1) := by decide +kernel
theorem dX3_middle_49 : decode cX3_middle 49 = .ok (.ldc2_w 30, 3) := by decide +kernel
theorem dX3_middle_52 : decode cX3_middle 52 = .ok (.iconst 1, 1) := by decide +kernel
theorem dX3_middle_53 : decode cX3_middle 53 = .ok (.invokevirtual 78, 3) := by decide +kernel
theorem dX3_middle_56 : decode cX3_middle 56 = .ok (.lstore 7, 2) := by decide +kernel
theorem dX3_middle_58 : decode cX3_middle 58 = .ok (.lload_n 3, 1) := by decide +kernel
theorem dX3_middle_59 : decode cX3_middle 59 = .ok (.ldc2_w 30, 3) := by decide +kernel
theorem dX3_middle_62 : decode cX3_middle 62 = .ok (.lload 5, 2) := by decide +kernel
theorem dX3_middle_64 : decode cX3_middle 64 = .ok (.lmul, 1) := by decide +kernel
theorem dX3_middle_65 : decode cX3_middle 65 = .ok (.lsub, 1) := by decide +kernel
theorem dX3_middle_66 : decode cX3_middle 66 = .ok (.ldc2_w 30, 3) := by decide +kernel
theorem dX3_middle_69 : decode cX3_middle 69 = .ok (.lload 7, 2) := by decide +kernel
theorem dX3_middle_71 : decode cX3_middle 71 = .ok (.lmul, 1) := by decide +kernel
theorem dX3_middle_72 : decode cX3_middle 72 = .ok (.lload_n 3, 1) := by decide +kernel
theorem dX3_middle_73 : decode cX3_middle 73 = .ok (.lsub, 1) := by decide +kernel
theorem dX3_middle_74 : decode cX3_middle 74 = .ok (.lsub, 1) := by decide +kernel
theorem dX3_middle_75 : decode cX3_middle 75 = .ok (.lstore 9, 2) := by decide +kernel
theorem dX3_middle_77 : decode cX3_middle 77 = .ok (.aload_n 0, 1) := by decide +kernel
theorem dX3_middle_78 : decode cX3_middle 78 = .ok (.lload 5, 2) := by decide +kernel
theorem dX3_middle_80 : decode cX3_middle 80 = .ok (.invokevirtual 150, 3) := by decide +kernel
theorem dX3_middle_83 : decode cX3_middle 83 = .ok (.iconst 1, 1) := by decide +kernel
theorem dX3_middle_84 : decode cX3_middle 84 = .ok (.iand, 1) := by decide +kernel
theorem dX3_middle_85 : decode cX3_middle 85 = .ok (.ifCond .ne 7, 3) := by decide +kernel
theorem dX3_middle_88 : decode cX3_middle 88 = .ok (.iconst 1, 1) := by decide +kernel
theorem dX3_middle_89 : decode cX3_middle 89 = .ok (.goto 4, 3) := by decide +kernel
theorem dX3_middle_92 : decode cX3_middle 92 = .ok (.iconst 0, 1) := by decide +kernel
theorem dX3_middle_93 : decode cX3_middle 93 = .ok (.istore 11, 2) := by decide +kernel
theorem dX3_middle_95 : decode cX3_middle 95 = .ok (.aload_n 0, 1) := by decide +kernel
theorem dX3_middle_96 : decode cX3_middle 96 = .ok (.lload 9, 2) := by decide +kernel
theorem dX3_middle_98 : decode cX3_middle 98 = .ok (.lconst 0, 1) := by decide +kernel
theorem dX3_middle_99 : decode cX3_middle 99 = .ok (.lcmp, 1) := by decide +kernel
theorem dX3_middle_100 : decode cX3_middle 100 = .ok (.ifCond .lt 15, 3) := by decide +kernel
theorem dX3_middle_103 : decode cX3_middle 103 = .ok (.lload 9, 2) := by decide +kernel
theorem dX3_middle_105 : decode cX3_middle 105 = .ok (.lconst 0, 1) := by decide +kernel
theorem dX3_middle_106 : decode cX3_middle 106 = .ok (.lcmp, 1) := by decide +kernel
theorem dX3_middle_107 : decode cX3_middle 107 = .ok (.ifCond .ne 13, 3) := by decide +kernel
theorem dX3_middle_110 : decode cX3_middle 110 = .ok (.iload 11, 2) := by decide +kernel
theorem dX3_middle_112 : decode cX3_middle 112 = .ok (.ifCond .eq 8, 3) := by decide +kernel
theorem dX3_middle_115 : decode cX3_middle 115 = .ok (.lload 5, 2) := by decide +kernel
theorem dX3_middle_117 : decode cX3_middle 117 = .ok (.goto 5, 3) := by decide +kernel
theorem dX3_middle_120 : decode cX3_middle 120 = .ok (.lload 7, 2) := by decide +kernel
theorem dX3_middle_122 : decode cX3_middle 122 = .ok (.invokevirtual 150, 3) := by decide +kernel
theorem dX3_middle_125 : decode cX3_middle 125 = .ok (.ireturn, 1) := by decide +kernel
theorem dX3_width_0 : decode cX3_width 0 = .ok (.aload_n 0, 1) := by decide +kernel
theorem dX3_width_1 : decode cX3_width 1 = .ok (.iload_n 1, 1) := by decide +kernel
theorem dX3_width_2 : decode cX3_width 2 = .ok (.invokestatic 46, 3) := by decide +kernel
theorem dX3_width_5 : decode cX3_width 5 = .ok (.ifCond .eq 16, 3) := by decide +kernel
theorem dX3_width_8 : decode cX3_width 8 = .ok (.aload_n 0, 1) := by decide +kernel
theorem dX3_width_9 : decode cX3_width 9 = .ok (.getfield 16, 3) := by decide +kernel
theorem dX3_width_12 : decode cX3_width 12 = .ok (.iload_n 1, 1) := by decide +kernel
theorem dX3_width_13 : decode cX3_width 13 = .ok (.baload, 1) := by decide +kernel
theorem dX3_width_14 : decode cX3_width 14 = .ok (.ifCond .eq 7, 3) := by decide +kernel
theorem dX3_width_17 : decode cX3_width 17 = .ok (.iconst 0, 1) := by decide +kernel
theorem dX3_width_18 : decode cX3_width 18 = .ok (.goto 4, 3) := by decide +kernel
theorem dX3_width_21 : decode cX3_width 21 = .ok (.iconst 1, 1) := by decide +kernel
theorem dX3_width_22 : decode cX3_width 22 = .ok (.putfield 27, 3) := by decide +kernel
theorem dX3_width_25 : decode cX3_width 25 = .ok (.aload_n 0, 1) := by decide +kernel
theorem dX3_width_26 : decode cX3_width 26 = .ok (.getfield 27, 3) := by decide +kernel
theorem dX3_width_29 : decode cX3_width 29 = .ok (.ifCond .le 5, 3) := by decide +kernel
theorem dX3_width_32 : decode cX3_width 32 = .ok (.iconst 0, 1) := by decide +kernel
theorem dX3_width_33 : decode cX3_width 33 = .ok (.ireturn, 1) := by decide +kernel
theorem dX3_width_34 : decode cX3_width 34 = .ok (.aload_n 0, 1) := by decide +kernel
theorem dX3_width_35 : decode cX3_width 35 = .ok (.getfield 20, 3) := by decide +kernel
theorem dX3_width_38 : decode cX3_width 38 = .ok (.iload_n 1, 1) := by decide +kernel
theorem dX3_width_39 : decode cX3_width 39 = .ok (.laload, 1) := by decide +kernel
theorem dX3_width_40 : decode cX3_width 40 = .ok (.invokestatic 74, 3) := by decide +kernel
theorem dX3_width_43 : decode cX3_width 43 = .ok (.ifCond .eq 19, 3) := by decide +kernel
theorem dX3_width_46 : decode cX3_width 46 = .ok (.aload_n 0, 1) := by decide +kernel
theorem dX3_width_47 : decode cX3_width 47 = .ok (.getfield 24, 3) := by decide +kernel
theorem dX3_width_50 : decode cX3_width 50 = .ok (.iload_n 1, 1) := by decide +kernel
theorem dX3_width_51 : decode cX3_width 51 = .ok (.laload, 1) := by decide +kernel
theorem dX3_width_52 : decode cX3_width 52 = .ok (.invokestatic 74, 3) := by decide +kernel
theorem dX3_width_55 : decode cX3_width 55 = .ok (.ifCond .eq 7, 3) := by decide +kernel
theorem dX3_width_58 : decode cX3_width 58 = .ok (.iconst 1, 1) := by decide +kernel
theorem dX3_width_59 : decode cX3_width 59 = .ok (.goto 4, 3) := by decide +kernel
theorem dX3_width_62 : decode cX3_width 62 = .ok (.iconst 0, 1) := by decide +kernel
theorem dX3_width_63 : decode cX3_width 63 = .ok (.istore_n 2, 1) := by decide +kernel
theorem dX3_width_64 : decode cX3_width 64 = .ok (.aload_n 0, 1) := by decide +kernel
theorem dX3_width_65 : decode cX3_width 65 = .ok (.iload_n 2, 1) := by decide +kernel
theorem dX3_width_66 : decode cX3_width 66 = .ok (.ifCond .eq 25, 3) := by decide +kernel
theorem dX3_width_69 : decode cX3_width 69 = .ok (.aload_n 0, 1) := by decide +kernel
theorem dX3_width_70 : decode cX3_width 70 = .ok (.aload_n 0, 1) := by decide +kernel
theorem dX3_width_71 : decode cX3_width 71 = .ok (.getfield 24, 3) := by decide +kernel
theorem dX3_width_74 : decode cX3_width 74 = .ok (.iload_n 1, 1) := by decide +kernel
theorem dX3_width_75 : decode cX3_width 75 = .ok (.laload, 1) := by decide +kernel
theorem dX3_width_76 : decode cX3_width 76 = .ok (.aload_n 0, 1) := by decide +kernel
theorem dX3_width_77 : decode cX3_width 77 = .ok (.getfield 20, 3) := by decide +kernel
theorem dX3_width_80 : decode cX3_width 80 = .ok (.iload_n 1, 1) := by decide +kernel
theorem dX3_width_81 : decode cX3_width 81 = .ok (.laload, 1) := by decide +kernel
theorem dX3_width_82 : decode cX3_width 82 = .ok (.lsub, 1) := by decide +kernel
theorem dX3_width_83 : decode cX3_width 83 = .ok (.lconst 1, 1) := by decide +kernel
theorem dX3_width_84 : decode cX3_width 84 = .ok (.iconst 1, 1) := by decide +kernel
theorem dX3_width_85 : decode cX3_width 85 = .ok (.invokevirtual 78, 3) := by decide +kernel
theorem dX3_width_88 : decode cX3_width 88 = .ok (.goto 6, 3) := by decide +kernel
theorem dX3_width_91 : decode cX3_width 91 = .ok (.ldc2_w 36, 3) := by decide +kernel
theorem dX3_width_94 : decode cX3_width 94 = .ok (.invokevirtual 150, 3) := by decide +kernel
theorem dX3_width_97 : decode cX3_width 97 = .ok (.ireturn, 1) := by decide +kernel
theorem dX3_compare_0 : decode cX3_compare 0 = .ok (.aload_n 0, 1) := by decide +kernel
theorem dX3_compare_1 : decode cX3_compare 1 = .ok (.iconst 0, 1) := by decide +kernel
theorem dX3_compare_2 : decode cX3_compare 2 = .ok (.putfield 27, 3) := by decide +kernel
theorem dX3_compare_5 : decode cX3_compare 5 = .ok (.iload_n 1, 1) := by decide +kernel
theorem dX3_compare_6 : decode cX3_compare 6 = .ok (.invokestatic 46, 3) := by decide +kernel
theorem dX3_compare_9 : decode cX3_compare 9 = .ok (.ifCond .eq 10, 3) := by decide +kernel
theorem dX3_compare_12 : decode cX3_compare 12 = .ok (.iload_n 2, 1) := by decide +kernel
theorem dX3_compare_13 : decode cX3_compare 13 = .ok (.invokestatic 46, 3) := by decide +kernel
theorem dX3_compare_16 : decode cX3_compare 16 = .ok (.ifCond .ne 5, 3) := by decide +kernel
theorem dX3_compare_19 : decode cX3_compare 19 = .ok (.iconst (-1), 1) := by decide +kernel
theorem dX3_compare_20 : decode cX3_compare 20 = .ok (.ireturn, 1) := by decide +kernel
theorem dX3_compare_21 : decode cX3_compare 21 = .ok (.aload_n 0, 1) := by decide +kernel
theorem dX3_compare_22 : decode cX3_compare 22 = .ok (.getfield 16, 3) := by decide +kernel
theorem dX3_compare_25 : decode cX3_compare 25 = .ok (.iload_n 1, 1) := by decide +kernel
theorem dX3_compare_26 : decode cX3_compare 26 = .ok (.baload, 1) := by decide +kernel
theorem dX3_compare_27 : decode cX3_compare 27 = .ok (.ifCond .eq 12, 3) := by decide +kernel
theorem dX3_compare_30 : decode cX3_compare 30 = .ok (.aload_n 0, 1) := by decide +kernel
theorem dX3_compare_31 : decode cX3_compare 31 = .ok (.getfield 16, 3) := by decide +kernel
theorem dX3_compare_34 : decode cX3_compare 34 = .ok (.iload_n 2, 1) := by decide +kernel
theorem dX3_compare_35 : decode cX3_compare 35 = .ok (.baload, 1) := by decide +kernel
theorem dX3_compare_36 : decode cX3_compare 36 = .ok (.ifCond .ne 5, 3) := by decide +kernel
theorem dX3_compare_39 : decode cX3_compare 39 = .ok (.iconst 0, 1) := by decide +kernel
theorem dX3_compare_40 : decode cX3_compare 40 = .ok (.ireturn, 1) := by decide +kernel
theorem dX3_compare_41 : decode cX3_compare 41 = .ok (.aload_n 0, 1) := by decide +kernel
theorem dX3_compare_42 : decode cX3_compare 42 = .ok (.getfield 20, 3) := by decide +kernel
theorem dX3_compare_45 : decode cX3_compare 45 = .ok (.iload_n 1, 1) := by decide +kernel
theorem dX3_compare_46 : decode cX3_compare 46 = .ok (.laload, 1) := by decide +kernel
theorem dX3_compare_47 : decode cX3_compare 47 = .ok (.lstore_n 3, 1) := by decide +kernel
theorem dX3_compare_48 : decode cX3_compare 48 = .ok (.aload_n 0, 1) := by decide +kernel
theorem dX3_compare_49 : decode cX3_compare 49 = .ok (.getfield 24, 3) := by decide +kernel
theorem dX3_compare_52 : decode cX3_compare 52 = .ok (.iload_n 1, 1) := by decide +kernel
theorem dX3_compare_53 : decode cX3_compare 53 = .ok (.laload, 1) := by decide +kernel
theorem dX3_compare_54 : decode cX3_compare 54 = .ok (.lstore 5, 2) := by decide +kernel
theorem dX3_compare_56 : decode cX3_compare 56 = .ok (.aload_n 0, 1) := by decide +kernel
theorem dX3_compare_57 : decode cX3_compare 57 = .ok (.getfield 20, 3) := by decide +kernel
theorem dX3_compare_60 : decode cX3_compare 60 = .ok (.iload_n 2, 1) := by decide +kernel
theorem dX3_compare_61 : decode cX3_compare 61 = .ok (.laload, 1) := by decide +kernel
theorem dX3_compare_62 : decode cX3_compare 62 = .ok (.lstore 7, 2) := by decide +kernel
theorem dX3_compare_64 : decode cX3_compare 64 = .ok (.aload_n 0, 1) := by decide +kernel
theorem dX3_compare_65 : decode cX3_compare 65 = .ok (.getfield 24, 3) := by decide +kernel
theorem dX3_compare_68 : decode cX3_compare 68 = .ok (.iload_n 2, 1) := by decide +kernel
theorem dX3_compare_69 : decode cX3_compare 69 = .ok (.laload, 1) := by decide +kernel
theorem dX3_compare_70 : decode cX3_compare 70 = .ok (.lstore 9, 2) := by decide +kernel
theorem dX3_compare_72 : decode cX3_compare 72 = .ok (.lload_n 3, 1) := by decide +kernel
theorem dX3_compare_73 : decode cX3_compare 73 = .ok (.lload 9, 2) := by decide +kernel
theorem dX3_compare_75 : decode cX3_compare 75 = .ok (.lcmp, 1) := by decide +kernel
theorem dX3_compare_76 : decode cX3_compare 76 = .ok (.ifCond .ge 7, 3) := by decide +kernel
theorem dX3_compare_79 : decode cX3_compare 79 = .ok (.iconst 1, 1) := by decide +kernel
theorem dX3_compare_80 : decode cX3_compare 80 = .ok (.goto 4, 3) := by decide +kernel
theorem dX3_compare_83 : decode cX3_compare 83 = .ok (.iconst 0, 1) := by decide +kernel
theorem dX3_compare_84 : decode cX3_compare 84 = .ok (.istore 11, 2) := by decide +kernel
theorem dX3_compare_86 : decode cX3_compare 86 = .ok (.lload_n 3, 1) := by decide +kernel
theorem dX3_compare_87 : decode cX3_compare 87 = .ok (.lload 7, 2) := by decide +kernel
theorem dX3_compare_89 : decode cX3_compare 89 = .ok (.invokestatic 113, 3) := by decide +kernel
theorem dX3_compare_92 : decode cX3_compare 92 = .ok (.lload 5, 2) := by decide +kernel
theorem dX3_compare_94 : decode cX3_compare 94 = .ok (.lload 9, 2) := by decide +kernel
theorem dX3_compare_96 : decode cX3_compare 96 = .ok (.invokestatic 123, 3) := by decide +kernel
theorem dX3_compare_99 : decode cX3_compare 99 = .ok (.lcmp, 1) := by decide +kernel
theorem dX3_compare_100 : decode cX3_compare 100 = .ok (.ifCond .gt 6, 3) := by decide +kernel
theorem dX3_compare_103 : decode cX3_compare 103 = .ok (.iinc 11 2, 3) := by decide +kernel
theorem dX3_compare_106 : decode cX3_compare 106 = .ok (.lload 5, 2) := by decide +kernel
theorem dX3_compare_108 : decode cX3_compare 108 = .ok (.lload 7, 2) := by decide +kernel
theorem dX3_compare_110 : decode cX3_compare 110 = .ok (.lcmp, 1) := by decide +kernel
theorem dX3_compare_111 : decode cX3_compare 111 = .ok (.ifCond .le 6, 3) := by decide +kernel
theorem dX3_compare_114 : decode cX3_compare 114 = .ok (.iinc 11 4, 3) := by decide +kernel
theorem dX3_compare_117 : decode cX3_compare 117 = .ok (.lload_n 3, 1) := by decide +kernel
theorem dX3_compare_118 : decode cX3_compare 118 = .ok (.lload 7, 2) := by decide +kernel
theorem dX3_compare_120 : decode cX3_compare 120 = .ok (.lcmp, 1) := by decide +kernel
theorem dX3_compare_121 : decode cX3_compare 121 = .ok (.ifCond .lt 14, 3) := by decide +kernel
theorem dX3_compare_124 : decode cX3_compare 124 = .ok (.lload 5, 2) := by decide +kernel
theorem dX3_compare_126 : decode cX3_compare 126 = .ok (.lload 9, 2) := by decide +kernel
theorem dX3_compare_128 : decode cX3_compare 128 = .ok (.lcmp, 1) := by decide +kernel
theorem dX3_compare_129 : decode cX3_compare 129 = .ok (.ifCond .gt 6, 3) := by decide +kernel
theorem dX3_compare_132 : decode cX3_compare 132 = .ok (.iinc 11 8, 3) := by decide +kernel
theorem dX3_compare_135 : decode cX3_compare 135 = .ok (.lload 7, 2) := by decide +kernel
theorem dX3_compare_137 : decode cX3_compare 137 = .ok (.lload_n 3, 1) := by decide +kernel
theorem dX3_compare_138 : decode cX3_compare 138 = .ok (.lcmp, 1) := by decide +kernel
theorem dX3_compare_139 : decode cX3_compare 139 = .ok (.ifCond .lt 14, 3) := by decide +kernel
theorem dX3_compare_142 : decode cX3_compare 142 = .ok (.lload 9, 2) := by decide +kernel
theorem dX3_compare_144 : decode cX3_compare 144 = .ok (.lload 5, 2) := by decide +kernel
theorem dX3_compare_146 : decode cX3_compare 146 = .ok (.lcmp, 1) := by decide +kernel
theorem dX3_compare_147 : decode cX3_compare 147 = .ok (.ifCond .gt 6, 3) := by decide +kernel
theorem dX3_compare_150 : decode cX3_compare 150 = .ok (.iinc 11 16, 3) := by decide +kernel
theorem dX3_compare_153 : decode cX3_compare 153 = .ok (.lload_n 3, 1) := by decide +kernel
theorem dX3_compare_154 : decode cX3_compare 154 = .ok (.lload 7, 2) := by decide +kernel
theorem dX3_compare_156 : decode cX3_compare 156 = .ok (.lcmp, 1) := by decide +kernel
theorem dX3_compare_157 : decode cX3_compare 157 = .ok (.ifCond .ne 14, 3) := by decide +kernel
theorem dX3_compare_160 : decode cX3_compare 160 = .ok (.lload 5, 2) := by decide +kernel
theorem dX3_compare_162 : decode cX3_compare 162 = .ok (.lload 9, 2) := by decide +kernel
theorem dX3_compare_164 : decode cX3_compare 164 = .ok (.lcmp, 1) := by decide +kernel
theorem dX3_compare_165 : decode cX3_compare 165 = .ok (.ifCond .ne 6, 3) := by decide +kernel
theorem dX3_compare_168 : decode cX3_compare 168 = .ok (.iinc 11 32, 3) := by decide +kernel
theorem dX3_compare_171 : decode cX3_compare 171 = .ok (.iload 11, 2) := by decide +kernel
theorem dX3_compare_173 : decode cX3_compare 173 = .ok (.ireturn, 1) := by decide +kernel
theorem dX3_has_0 : decode cX3_has 0 = .ok (.aload_n 0, 1) := by decide +kernel
theorem dX3_has_1 : decode cX3_has 1 = .ok (.iconst 0, 1) := by decide +kernel
theorem dX3_has_2 : decode cX3_has 2 = .ok (.putfield 27, 3) := by decide +kernel
theorem dX3_has_5 : decode cX3_has 5 = .ok (.iload_n 1, 1) := by decide +kernel
theorem dX3_has_6 : decode cX3_has 6 = .ok (.invokestatic 46, 3) := by decide +kernel
theorem dX3_has_9 : decode cX3_has 9 = .ok (.ifCond .eq 20, 3) := by decide +kernel
theorem dX3_has_12 : decode cX3_has 12 = .ok (.aload_n 0, 1) := by decide +kernel
theorem dX3_has_13 : decode cX3_has 13 = .ok (.getfield 16, 3) := by decide +kernel
theorem dX3_has_16 : decode cX3_has 16 = .ok (.iload_n 1, 1) := by decide +kernel
theorem dX3_has_17 : decode cX3_has 17 = .ok (.baload, 1) := by decide +kernel
theorem dX3_has_18 : decode cX3_has 18 = .ok (.ifCond .eq 11, 3) := by decide +kernel
theorem dX3_has_21 : decode cX3_has 21 = .ok (.aload_n 0, 1) := by decide +kernel
theorem dX3_has_22 : decode cX3_has 22 = .ok (.iload_n 2, 1) := by decide +kernel
theorem dX3_has_23 : decode cX3_has 23 = .ok (.invokevirtual 50, 3) := by decide +kernel
theorem dX3_has_26 : decode cX3_has 26 = .ok (.ifCond .ne 5, 3) := by decide +kernel
theorem dX3_has_29 : decode cX3_has 29 = .ok (.iconst 0, 1) := by decide +kernel
theorem dX3_has_30 : decode cX3_has 30 = .ok (.ireturn, 1) := by decide +kernel
theorem dX3_has_31 : decode cX3_has 31 = .ok (.aload_n 0, 1) := by decide +kernel
theorem dX3_has_32 : decode cX3_has 32 = .ok (.iload_n 2, 1) := by decide +kernel
theorem dX3_has_33 : decode cX3_has 33 = .ok (.invokevirtual 53, 3) := by decide +kernel
theorem dX3_has_36 : decode cX3_has 36 = .ok (.lstore_n 3, 1) := by decide +kernel
theorem dX3_has_37 : decode cX3_has 37 = .ok (.lload_n 3, 1) := by decide +kernel
theorem dX3_has_38 : decode cX3_has 38 = .ok (.invokestatic 74, 3) := by decide +kernel
theorem dX3_has_41 : decode cX3_has 41 = .ok (.ifCond .eq 29, 3) := by decide +kernel
theorem dX3_has_44 : decode cX3_has 44 = .ok (.lload_n 3, 1) := by decide +kernel
theorem dX3_has_45 : decode cX3_has 45 = .ok (.aload_n 0, 1) := by decide +kernel
theorem dX3_has_46 : decode cX3_has 46 = .ok (.getfield 20, 3) := by decide +kernel
theorem dX3_has_49 : decode cX3_has 49 = .ok (.iload_n 1, 1) := by decide +kernel
theorem dX3_has_50 : decode cX3_has 50 = .ok (.laload, 1) := by decide +kernel
theorem dX3_has_51 : decode cX3_has 51 = .ok (.lcmp, 1) := by decide +kernel
theorem dX3_has_52 : decode cX3_has 52 = .ok (.ifCond .lt 18, 3) := by decide +kernel
theorem dX3_has_55 : decode cX3_has 55 = .ok (.lload_n 3, 1) := by decide +kernel
theorem dX3_has_56 : decode cX3_has 56 = .ok (.aload_n 0, 1) := by decide +kernel
theorem dX3_has_57 : decode cX3_has 57 = .ok (.getfield 24, 3) := by decide +kernel
theorem dX3_has_60 : decode cX3_has 60 = .ok (.iload_n 1, 1) := by decide +kernel
theorem dX3_has_61 : decode cX3_has 61 = .ok (.laload, 1) := by decide +kernel
theorem dX3_has_62 : decode cX3_has 62 = .ok (.lcmp, 1) := by decide +kernel
theorem dX3_has_63 : decode cX3_has 63 = .ok (.ifCond .gt 7, 3) := by decide +kernel
theorem dX3_has_66 : decode cX3_has 66 = .ok (.iconst 1, 1) := by decide +kernel
theorem dX3_has_67 : decode cX3_has 67 = .ok (.goto 4, 3) := by decide +kernel
theorem dX3_has_70 : decode cX3_has 70 = .ok (.iconst 0, 1) := by decide +kernel
theorem dX3_has_71 : decode cX3_has 71 = .ok (.ireturn, 1) := by decide +kernel
