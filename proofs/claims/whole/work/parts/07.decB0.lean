theorem dX2_init_0 : decode cX2_init 0 = .ok (.aload_n 0, 1) := by decide +kernel
theorem dX2_init_1 : decode cX2_init 1 = .ok (.invokespecial 1, 3) := by decide +kernel
theorem dX2_init_4 : decode cX2_init 4 = .ok (.aload_n 0, 1) := by decide +kernel
theorem dX2_init_5 : decode cX2_init 5 = .ok (.new 7, 3) := by decide +kernel
theorem dX2_init_8 : decode cX2_init 8 = .ok (.dup, 1) := by decide +kernel
theorem dX2_init_9 : decode cX2_init 9 = .ok (.iconst 4, 1) := by decide +kernel
theorem dX2_init_10 : decode cX2_init 10 = .ok (.bipush 10, 2) := by decide +kernel
theorem dX2_init_12 : decode cX2_init 12 = .ok (.invokespecial 9, 3) := by decide +kernel
theorem dX2_init_15 : decode cX2_init 15 = .ok (.putfield 12, 3) := by decide +kernel
theorem dX2_init_18 : decode cX2_init 18 = .ok (.aload_n 0, 1) := by decide +kernel
theorem dX2_init_19 : decode cX2_init 19 = .ok (.bipush 8, 2) := by decide +kernel
theorem dX2_init_21 : decode cX2_init 21 = .ok (.anewarray 18, 3) := by decide +kernel
theorem dX2_init_24 : decode cX2_init 24 = .ok (.putfield 20, 3) := by decide +kernel
theorem dX2_init_27 : decode cX2_init 27 = .ok (.iconst 0, 1) := by decide +kernel
theorem dX2_init_28 : decode cX2_init 28 = .ok (.istore_n 1, 1) := by decide +kernel
theorem dX2_init_29 : decode cX2_init 29 = .ok (.iload_n 1, 1) := by decide +kernel
theorem dX2_init_30 : decode cX2_init 30 = .ok (.bipush 8, 2) := by decide +kernel
theorem dX2_init_32 : decode cX2_init 32 = .ok (.if_icmp .ge 22, 3) := by decide +kernel
theorem dX2_init_35 : decode cX2_init 35 = .ok (.aload_n 0, 1) := by decide +kernel
theorem dX2_init_36 : decode cX2_init 36 = .ok (.getfield 20, 3) := by decide +kernel
theorem dX2_init_39 : decode cX2_init 39 = .ok (.iload_n 1, 1) := by decide +kernel
theorem dX2_init_40 : decode cX2_init 40 = .ok (.new 18, 3) := by decide +kernel
theorem dX2_init_43 : decode cX2_init 43 = .ok (.dup, 1) := by decide +kernel
theorem dX2_init_44 : decode cX2_init 44 = .ok (.invokespecial 24, 3) := by decide +kernel
theorem dX2_init_47 : decode cX2_init 47 = .ok (.aastore, 1) := by decide +kernel
theorem dX2_init_48 : decode cX2_init 48 = .ok (.iinc 1 1, 3) := by decide +kernel
theorem dX2_init_51 : decode cX2_init 51 = .ok (.goto (-22), 3) := by decide +kernel
theorem dX2_init_54 : decode cX2_init 54 = .ok (.aload_n 0, 1) := by decide +kernel
theorem dX2_init_55 : decode cX2_init 55 = .ok (.new 18, 3) := by decide +kernel
theorem dX2_init_58 : decode cX2_init 58 = .ok (.dup, 1) := by decide +kernel
theorem dX2_init_59 : decode cX2_init 59 = .ok (.invokespecial 24, 3) := by decide +kernel
theorem dX2_init_62 : decode cX2_init 62 = .ok (.putfield 25, 3) := by decide +kernel
theorem dX2_init_65 : decode cX2_init 65 = .ok (.aload_n 0, 1) := by decide +kernel
theorem dX2_init_66 : decode cX2_init 66 = .ok (.new 18, 3) := by decide +kernel
theorem dX2_init_69 : decode cX2_init 69 = .ok (.dup, 1) := by decide +kernel
theorem dX2_init_70 : decode cX2_init 70 = .ok (.invokespecial 24, 3) := by decide +kernel
theorem dX2_init_73 : decode cX2_init 73 = .ok (.putfield 29, 3) := by decide +kernel
theorem dX2_init_76 : decode cX2_init 76 = .ok (.return_, 1) := by decide +kernel
theorem dX2_format_0 : decode cX2_format 0 = .ok (.iload_n 1, 1) := by decide +kernel
theorem dX2_format_1 : decode cX2_format 1 = .ok (.iconst 2, 1) := by decide +kernel
theorem dX2_format_2 : decode cX2_format 2 = .ok (.if_icmp .lt 19, 3) := by decide +kernel
theorem dX2_format_5 : decode cX2_format 5 = .ok (.iload_n 1, 1) := by decide +kernel
theorem dX2_format_6 : decode cX2_format 6 = .ok (.iconst 4, 1) := by decide +kernel
theorem dX2_format_7 : decode cX2_format 7 = .ok (.if_icmp .gt 14, 3) := by decide +kernel
theorem dX2_format_10 : decode cX2_format 10 = .ok (.iload_n 2, 1) := by decide +kernel
theorem dX2_format_11 : decode cX2_format 11 = .ok (.iconst 1, 1) := by decide +kernel
theorem dX2_format_12 : decode cX2_format 12 = .ok (.if_icmp .lt 9, 3) := by decide +kernel
theorem dX2_format_15 : decode cX2_format 15 = .ok (.iload_n 2, 1) := by decide +kernel
theorem dX2_format_16 : decode cX2_format 16 = .ok (.bipush 10, 2) := by decide +kernel
theorem dX2_format_18 : decode cX2_format 18 = .ok (.if_icmp .le 5, 3) := by decide +kernel
theorem dX2_format_21 : decode cX2_format 21 = .ok (.iconst 0, 1) := by decide +kernel
theorem dX2_format_22 : decode cX2_format 22 = .ok (.ireturn, 1) := by decide +kernel
theorem dX2_format_23 : decode cX2_format 23 = .ok (.aload_n 0, 1) := by decide +kernel
theorem dX2_format_24 : decode cX2_format 24 = .ok (.getfield 12, 3) := by decide +kernel
theorem dX2_format_27 : decode cX2_format 27 = .ok (.iload_n 1, 1) := by decide +kernel
theorem dX2_format_28 : decode cX2_format 28 = .ok (.putfield 32, 3) := by decide +kernel
theorem dX2_format_31 : decode cX2_format 31 = .ok (.aload_n 0, 1) := by decide +kernel
theorem dX2_format_32 : decode cX2_format 32 = .ok (.getfield 12, 3) := by decide +kernel
theorem dX2_format_35 : decode cX2_format 35 = .ok (.iload_n 2, 1) := by decide +kernel
theorem dX2_format_36 : decode cX2_format 36 = .ok (.putfield 36, 3) := by decide +kernel
theorem dX2_format_39 : decode cX2_format 39 = .ok (.iconst 0, 1) := by decide +kernel
theorem dX2_format_40 : decode cX2_format 40 = .ok (.istore_n 3, 1) := by decide +kernel
theorem dX2_format_41 : decode cX2_format 41 = .ok (.iload_n 3, 1) := by decide +kernel
theorem dX2_format_42 : decode cX2_format 42 = .ok (.bipush 8, 2) := by decide +kernel
theorem dX2_format_44 : decode cX2_format 44 = .ok (.if_icmp .ge 18, 3) := by decide +kernel
theorem dX2_format_47 : decode cX2_format 47 = .ok (.aload_n 0, 1) := by decide +kernel
theorem dX2_format_48 : decode cX2_format 48 = .ok (.getfield 20, 3) := by decide +kernel
theorem dX2_format_51 : decode cX2_format 51 = .ok (.iload_n 3, 1) := by decide +kernel
theorem dX2_format_52 : decode cX2_format 52 = .ok (.aaload, 1) := by decide +kernel
theorem dX2_format_53 : decode cX2_format 53 = .ok (.invokevirtual 39, 3) := by decide +kernel
theorem dX2_format_56 : decode cX2_format 56 = .ok (.iinc 3 1, 3) := by decide +kernel
theorem dX2_format_59 : decode cX2_format 59 = .ok (.goto (-18), 3) := by decide +kernel
theorem dX2_format_62 : decode cX2_format 62 = .ok (.iconst 1, 1) := by decide +kernel
theorem dX2_format_63 : decode cX2_format 63 = .ok (.ireturn, 1) := by decide +kernel
theorem dX2_set_0 : decode cX2_set 0 = .ok (.iload_n 1, 1) := by decide +kernel
theorem dX2_set_1 : decode cX2_set 1 = .ok (.invokestatic 42, 3) := by decide +kernel
theorem dX2_set_4 : decode cX2_set 4 = .ok (.ifCond .eq 25, 3) := by decide +kernel
theorem dX2_set_7 : decode cX2_set 7 = .ok (.aload_n 0, 1) := by decide +kernel
theorem dX2_set_8 : decode cX2_set 8 = .ok (.getfield 12, 3) := by decide +kernel
theorem dX2_set_11 : decode cX2_set 11 = .ok (.iload_n 2, 1) := by decide +kernel
theorem dX2_set_12 : decode cX2_set 12 = .ok (.invokevirtual 46, 3) := by decide +kernel
theorem dX2_set_15 : decode cX2_set 15 = .ok (.ifCond .eq 14, 3) := by decide +kernel
theorem dX2_set_18 : decode cX2_set 18 = .ok (.aload_n 0, 1) := by decide +kernel
theorem dX2_set_19 : decode cX2_set 19 = .ok (.getfield 12, 3) := by decide +kernel
theorem dX2_set_22 : decode cX2_set 22 = .ok (.iload_n 3, 1) := by decide +kernel
theorem dX2_set_23 : decode cX2_set 23 = .ok (.invokevirtual 46, 3) := by decide +kernel
theorem dX2_set_26 : decode cX2_set 26 = .ok (.ifCond .ne 5, 3) := by decide +kernel
theorem dX2_set_29 : decode cX2_set 29 = .ok (.iconst 0, 1) := by decide +kernel
theorem dX2_set_30 : decode cX2_set 30 = .ok (.ireturn, 1) := by decide +kernel
theorem dX2_set_31 : decode cX2_set 31 = .ok (.aload_n 0, 1) := by decide +kernel
theorem dX2_set_32 : decode cX2_set 32 = .ok (.getfield 12, 3) := by decide +kernel
theorem dX2_set_35 : decode cX2_set 35 = .ok (.iload_n 2, 1) := by decide +kernel
theorem dX2_set_36 : decode cX2_set 36 = .ok (.invokevirtual 49, 3) := by decide +kernel
theorem dX2_set_39 : decode cX2_set 39 = .ok (.lstore 4, 2) := by decide +kernel
theorem dX2_set_41 : decode cX2_set 41 = .ok (.aload_n 0, 1) := by decide +kernel
theorem dX2_set_42 : decode cX2_set 42 = .ok (.getfield 12, 3) := by decide +kernel
theorem dX2_set_45 : decode cX2_set 45 = .ok (.iload_n 3, 1) := by decide +kernel
theorem dX2_set_46 : decode cX2_set 46 = .ok (.invokevirtual 49, 3) := by decide +kernel
theorem dX2_set_49 : decode cX2_set 49 = .ok (.lstore 6, 2) := by decide +kernel
theorem dX2_set_51 : decode cX2_set 51 = .ok (.lload 4, 2) := by decide +kernel
theorem dX2_set_53 : decode cX2_set 53 = .ok (.ldc2_w 53, 3) := by decide +kernel
theorem dX2_set_56 : decode cX2_set 56 = .ok (.lcmp, 1) := by decide +kernel
theorem dX2_set_57 : decode cX2_set 57 = .ok (.ifCond .eq 20, 3) := by decide +kernel
theorem dX2_set_60 : decode cX2_set 60 = .ok (.lload 6, 2) := by decide +kernel
theorem dX2_set_62 : decode cX2_set 62 = .ok (.ldc2_w 55, 3) := by decide +kernel
theorem dX2_set_65 : decode cX2_set 65 = .ok (.lcmp, 1) := by decide +kernel
theorem dX2_set_66 : decode cX2_set 66 = .ok (.ifCond .eq 11, 3) := by decide +kernel
theorem dX2_set_69 : decode cX2_set 69 = .ok (.lload 4, 2) := by decide +kernel
theorem dX2_set_71 : decode cX2_set 71 = .ok (.lload 6, 2) := by decide +kernel
theorem dX2_set_73 : decode cX2_set 73 = .ok (.lcmp, 1) := by decide +kernel
theorem dX2_set_74 : decode cX2_set 74 = .ok (.ifCond .le 5, 3) := by decide +kernel
theorem dX2_set_77 : decode cX2_set 77 = .ok (.iconst 0, 1) := by decide +kernel
theorem dX2_set_78 : decode cX2_set 78 = .ok (.ireturn, 1) := by decide +kernel
theorem dX2_set_79 : decode cX2_set 79 = .ok (.aload_n 0, 1) := by decide +kernel
theorem dX2_set_80 : decode cX2_set 80 = .ok (.getfield 20, 3) := by decide +kernel
theorem dX2_set_83 : decode cX2_set 83 = .ok (.iload_n 1, 1) := by decide +kernel
theorem dX2_set_84 : decode cX2_set 84 = .ok (.aaload, 1) := by decide +kernel
theorem dX2_set_85 : decode cX2_set 85 = .ok (.lload 4, 2) := by decide +kernel
theorem dX2_set_87 : decode cX2_set 87 = .ok (.lload 6, 2) := by decide +kernel
theorem dX2_set_89 : decode cX2_set 89 = .ok (.invokevirtual 57, 3) := by decide +kernel
theorem dX2_set_92 : decode cX2_set 92 = .ok (.iconst 1, 1) := by decide +kernel
theorem dX2_set_93 : decode cX2_set 93 = .ok (.ireturn, 1) := by decide +kernel
theorem dX2_clear_0 : decode cX2_clear 0 = .ok (.iload_n 1, 1) := by decide +kernel
theorem dX2_clear_1 : decode cX2_clear 1 = .ok (.invokestatic 42, 3) := by decide +kernel
theorem dX2_clear_4 : decode cX2_clear 4 = .ok (.ifCond .ne 5, 3) := by decide +kernel
theorem dX2_clear_7 : decode cX2_clear 7 = .ok (.iconst 0, 1) := by decide +kernel
theorem dX2_clear_8 : decode cX2_clear 8 = .ok (.ireturn, 1) := by decide +kernel
theorem dX2_clear_9 : decode cX2_clear 9 = .ok (.aload_n 0, 1) := by decide +kernel
theorem dX2_clear_10 : decode cX2_clear 10 = .ok (.getfield 20, 3) := by decide +kernel
theorem dX2_clear_13 : decode cX2_clear 13 = .ok (.iload_n 1, 1) := by decide +kernel
theorem dX2_clear_14 : decode cX2_clear 14 = .ok (.aaload, 1) := by decide +kernel
theorem dX2_clear_15 : decode cX2_clear 15 = .ok (.invokevirtual 39, 3) := by decide +kernel
theorem dX2_clear_18 : decode cX2_clear 18 = .ok (.iconst 1, 1) := by decide +kernel
theorem dX2_clear_19 : decode cX2_clear 19 = .ok (.ireturn, 1) := by decide +kernel
theorem dX2_does_0 : decode cX2_does 0 = .ok (.iload_n 1, 1) := by decide +kernel
theorem dX2_does_1 : decode cX2_does 1 = .ok (.ifCond .lt 9, 3) := by decide +kernel
theorem dX2_does_4 : decode cX2_does 4 = .ok (.iload_n 1, 1) := by decide +kernel
theorem dX2_does_5 : decode cX2_does 5 = .ok (.bipush 11, 2) := by decide +kernel
theorem dX2_does_7 : decode cX2_does 7 = .ok (.if_icmp .le 13, 3) := by decide +kernel
theorem dX2_does_10 : decode cX2_does 10 = .ok (.new 61, 3) := by decide +kernel
theorem dX2_does_13 : decode cX2_does 13 = .ok (.dup, 1) := by decide +kernel
theorem dX2_does_14 : decode cX2_does 14 = .ok (.ldc 63, 2) := by decide +kernel
theorem dX2_does_16 : decode cX2_does 16 = .ok (.invokespecial 65, 3) := by decide +kernel
theorem dX2_does_19 : decode cX2_does 19 = .ok (.athrow, 1) := by decide +kernel
theorem dX2_does_20 : decode cX2_does 20 = .ok (.iload_n 1, 1) := by decide +kernel
theorem dX2_does_21 : decode cX2_does 21 = .ok (.bipush 8, 2) := by decide +kernel
theorem dX2_does_23 : decode cX2_does 23 = .ok (.if_icmp .lt 7, 3) := by decide +kernel
theorem dX2_does_26 : decode cX2_does 26 = .ok (.iconst 1, 1) := by decide +kernel
theorem dX2_does_27 : decode cX2_does 27 = .ok (.goto 4, 3) := by decide +kernel
theorem dX2_does_30 : decode cX2_does 30 = .ok (.iconst 0, 1) := by decide +kernel
theorem dX2_does_31 : decode cX2_does 31 = .ok (.istore 5, 2) := by decide +kernel
theorem dX2_does_33 : decode cX2_does 33 = .ok (.iload_n 2, 1) := by decide +kernel
theorem dX2_does_34 : decode cX2_does 34 = .ok (.invokestatic 42, 3) := by decide +kernel
theorem dX2_does_37 : decode cX2_does 37 = .ok (.ifCond .eq 23, 3) := by decide +kernel
theorem dX2_does_40 : decode cX2_does 40 = .ok (.iload_n 3, 1) := by decide +kernel
theorem dX2_does_41 : decode cX2_does 41 = .ok (.invokestatic 42, 3) := by decide +kernel
theorem dX2_does_44 : decode cX2_does 44 = .ok (.ifCond .eq 16, 3) := by decide +kernel
theorem dX2_does_47 : decode cX2_does 47 = .ok (.iload 5, 2) := by decide +kernel
theorem dX2_does_49 : decode cX2_does 49 = .ok (.ifCond .ne 21, 3) := by decide +kernel
theorem dX2_does_52 : decode cX2_does 52 = .ok (.iload 4, 2) := by decide +kernel
theorem dX2_does_54 : decode cX2_does 54 = .ok (.invokestatic 42, 3) := by decide +kernel
theorem dX2_does_57 : decode cX2_does 57 = .ok (.ifCond .ne 13, 3) := by decide +kernel
theorem dX2_does_60 : decode cX2_does 60 = .ok (.new 61, 3) := by decide +kernel
theorem dX2_does_63 : decode cX2_does 63 = .ok (.dup, 1) := by decide +kernel
theorem dX2_does_64 : decode cX2_does 64 = .ok (.ldc 68, 2) := by decide +kernel
theorem dX2_does_66 : decode cX2_does 66 = .ok (.invokespecial 65, 3) := by decide +kernel
theorem dX2_does_69 : decode cX2_does 69 = .ok (.athrow, 1) := by decide +kernel
theorem dX2_does_70 : decode cX2_does 70 = .ok (.iload 5, 2) := by decide +kernel
theorem dX2_does_72 : decode cX2_does 72 = .ok (.ifCond .eq 17, 3) := by decide +kernel
theorem dX2_does_75 : decode cX2_does 75 = .ok (.aload_n 0, 1) := by decide +kernel
theorem dX2_does_76 : decode cX2_does 76 = .ok (.iload_n 1, 1) := by decide +kernel
theorem dX2_does_77 : decode cX2_does 77 = .ok (.aload_n 0, 1) := by decide +kernel
theorem dX2_does_78 : decode cX2_does 78 = .ok (.getfield 20, 3) := by decide +kernel
theorem dX2_does_81 : decode cX2_does 81 = .ok (.iload_n 3, 1) := by decide +kernel
theorem dX2_does_82 : decode cX2_does 82 = .ok (.aaload, 1) := by decide +kernel
theorem dX2_does_83 : decode cX2_does 83 = .ok (.invokevirtual 70, 3) := by decide +kernel
theorem dX2_does_86 : decode cX2_does 86 = .ok (.goto 21, 3) := by decide +kernel
theorem dX2_does_89 : decode cX2_does 89 = .ok (.aload_n 0, 1) := by decide +kernel
theorem dX2_does_90 : decode cX2_does 90 = .ok (.iload_n 1, 1) := by decide +kernel
theorem dX2_does_91 : decode cX2_does 91 = .ok (.aload_n 0, 1) := by decide +kernel
theorem dX2_does_92 : decode cX2_does 92 = .ok (.getfield 20, 3) := by decide +kernel
theorem dX2_does_95 : decode cX2_does 95 = .ok (.iload_n 3, 1) := by decide +kernel
theorem dX2_does_96 : decode cX2_does 96 = .ok (.aaload, 1) := by decide +kernel
theorem dX2_does_97 : decode cX2_does 97 = .ok (.aload_n 0, 1) := by decide +kernel
theorem dX2_does_98 : decode cX2_does 98 = .ok (.getfield 20, 3) := by decide +kernel
theorem dX2_does_101 : decode cX2_does 101 = .ok (.iload 4, 2) := by decide +kernel
theorem dX2_does_103 : decode cX2_does 103 = .ok (.aaload, 1) := by decide +kernel
theorem dX2_does_104 : decode cX2_does 104 = .ok (.invokevirtual 74, 3) := by decide +kernel
theorem dX2_does_107 : decode cX2_does 107 = .ok (.aload_n 0, 1) := by decide +kernel
theorem dX2_does_108 : decode cX2_does 108 = .ok (.aload_n 0, 1) := by decide +kernel
theorem dX2_does_109 : decode cX2_does 109 = .ok (.getfield 25, 3) := by decide +kernel
theorem dX2_does_112 : decode cX2_does 112 = .ok (.aload_n 0, 1) := by decide +kernel
theorem dX2_does_113 : decode cX2_does 113 = .ok (.getfield 20, 3) := by decide +kernel
theorem dX2_does_116 : decode cX2_does 116 = .ok (.iload_n 2, 1) := by decide +kernel
theorem dX2_does_117 : decode cX2_does 117 = .ok (.aaload, 1) := by decide +kernel
theorem dX2_does_118 : decode cX2_does 118 = .ok (.invokevirtual 78, 3) := by decide +kernel
theorem dX2_does_121 : decode cX2_does 121 = .ok (.ireturn, 1) := by decide +kernel
theorem dX2_part_0 : decode cX2_part 0 = .ok (.iload_n 1, 1) := by decide +kernel
theorem dX2_part_1 : decode cX2_part 1 = .ok (.invokestatic 42, 3) := by decide +kernel
theorem dX2_part_4 : decode cX2_part 4 = .ok (.ifCond .eq 26, 3) := by decide +kernel
theorem dX2_part_7 : decode cX2_part 7 = .ok (.iload_n 1, 1) := by decide +kernel
theorem dX2_part_8 : decode cX2_part 8 = .ok (.iconst 1, 1) := by decide +kernel
theorem dX2_part_9 : decode cX2_part 9 = .ok (.iadd, 1) := by decide +kernel
theorem dX2_part_10 : decode cX2_part 10 = .ok (.invokestatic 42, 3) := by decide +kernel
theorem dX2_part_13 : decode cX2_part 13 = .ok (.ifCond .eq 17, 3) := by decide +kernel
theorem dX2_part_16 : decode cX2_part 16 = .ok (.iload_n 2, 1) := by decide +kernel
theorem dX2_part_17 : decode cX2_part 17 = .ok (.invokestatic 42, 3) := by decide +kernel
theorem dX2_part_20 : decode cX2_part 20 = .ok (.ifCond .eq 10, 3) := by decide +kernel
theorem dX2_part_23 : decode cX2_part 23 = .ok (.iload_n 3, 1) := by decide +kernel
theorem dX2_part_24 : decode cX2_part 24 = .ok (.invokestatic 42, 3) := by decide +kernel
theorem dX2_part_27 : decode cX2_part 27 = .ok (.ifCond .ne 13, 3) := by decide +kernel
theorem dX2_part_30 : decode cX2_part 30 = .ok (.new 61, 3) := by decide +kernel
theorem dX2_part_33 : decode cX2_part 33 = .ok (.dup, 1) := by decide +kernel
theorem dX2_part_34 : decode cX2_part 34 = .ok (.ldc 68, 2) := by decide +kernel
theorem dX2_part_36 : decode cX2_part 36 = .ok (.invokespecial 65, 3) := by decide +kernel
theorem dX2_part_39 : decode cX2_part 39 = .ok (.athrow, 1) := by decide +kernel
theorem dX2_part_40 : decode cX2_part 40 = .ok (.aload_n 0, 1) := by decide +kernel
theorem dX2_part_41 : decode cX2_part 41 = .ok (.aload_n 0, 1) := by decide +kernel
theorem dX2_part_42 : decode cX2_part 42 = .ok (.getfield 20, 3) := by decide +kernel
theorem dX2_part_45 : decode cX2_part 45 = .ok (.iload_n 2, 1) := by decide +kernel
theorem dX2_part_46 : decode cX2_part 46 = .ok (.aaload, 1) := by decide +kernel
theorem dX2_part_47 : decode cX2_part 47 = .ok (.aload_n 0, 1) := by decide +kernel
theorem dX2_part_48 : decode cX2_part 48 = .ok (.getfield 20, 3) := by decide +kernel
theorem dX2_part_51 : decode cX2_part 51 = .ok (.iload_n 3, 1) := by decide +kernel
theorem dX2_part_52 : decode cX2_part 52 = .ok (.aaload, 1) := by decide +kernel
theorem dX2_part_53 : decode cX2_part 53 = .ok (.invokevirtual 82, 3) := by decide +kernel
theorem dX2_part_56 : decode cX2_part 56 = .ok (.aload_n 0, 1) := by decide +kernel
theorem dX2_part_57 : decode cX2_part 57 = .ok (.aload_n 0, 1) := by decide +kernel
theorem dX2_part_58 : decode cX2_part 58 = .ok (.getfield 25, 3) := by decide +kernel
theorem dX2_part_61 : decode cX2_part 61 = .ok (.aload_n 0, 1) := by decide +kernel
theorem dX2_part_62 : decode cX2_part 62 = .ok (.getfield 20, 3) := by decide +kernel
theorem dX2_part_65 : decode cX2_part 65 = .ok (.iload_n 1, 1) := by decide +kernel
theorem dX2_part_66 : decode cX2_part 66 = .ok (.aaload, 1) := by decide +kernel
theorem dX2_part_67 : decode cX2_part 67 = .ok (.invokevirtual 78, 3) := by decide +kernel
theorem dX2_part_70 : decode cX2_part 70 = .ok (.istore 4, 2) := by decide +kernel
theorem dX2_part_72 : decode cX2_part 72 = .ok (.aload_n 0, 1) := by decide +kernel
theorem dX2_part_73 : decode cX2_part 73 = .ok (.aload_n 0, 1) := by decide +kernel
theorem dX2_part_74 : decode cX2_part 74 = .ok (.getfield 29, 3) := by decide +kernel
theorem dX2_part_77 : decode cX2_part 77 = .ok (.aload_n 0, 1) := by decide +kernel
theorem dX2_part_78 : decode cX2_part 78 = .ok (.getfield 20, 3) := by decide +kernel
theorem dX2_part_81 : decode cX2_part 81 = .ok (.iload_n 1, 1) := by decide +kernel
theorem dX2_part_82 : decode cX2_part 82 = .ok (.iconst 1, 1) := by decide +kernel
theorem dX2_part_83 : decode cX2_part 83 = .ok (.iadd, 1) := by decide +kernel
theorem dX2_part_84 : decode cX2_part 84 = .ok (.aaload, 1) := by decide +kernel
theorem dX2_part_85 : decode cX2_part 85 = .ok (.invokevirtual 78, 3) := by decide +kernel
theorem dX2_part_88 : decode cX2_part 88 = .ok (.istore 5, 2) := by decide +kernel
theorem dX2_part_90 : decode cX2_part 90 = .ok (.iload 4, 2) := by decide +kernel
theorem dX2_part_92 : decode cX2_part 92 = .ok (.bipush 8, 2) := by decide +kernel
theorem dX2_part_94 : decode cX2_part 94 = .ok (.iload 5, 2) := by decide +kernel
theorem dX2_part_96 : decode cX2_part 96 = .ok (.imul, 1) := by decide +kernel
theorem dX2_part_97 : decode cX2_part 97 = .ok (.iadd, 1) := by decide +kernel
theorem dX2_part_98 : decode cX2_part 98 = .ok (.ireturn, 1) := by decide +kernel
theorem dX2_sum_0 : decode cX2_sum 0 = .ok (.iload_n 1, 1) := by decide +kernel
theorem dX2_sum_1 : decode cX2_sum 1 = .ok (.invokestatic 42, 3) := by decide +kernel
theorem dX2_sum_4 : decode cX2_sum 4 = .ok (.ifCond .eq 10, 3) := by decide +kernel
theorem dX2_sum_7 : decode cX2_sum 7 = .ok (.iload_n 2, 1) := by decide +kernel
theorem dX2_sum_8 : decode cX2_sum 8 = .ok (.invokestatic 42, 3) := by decide +kernel
theorem dX2_sum_11 : decode cX2_sum 11 = .ok (.ifCond .ne 13, 3) := by decide +kernel
theorem dX2_sum_14 : decode cX2_sum 14 = .ok (.new 61, 3) := by decide +kernel
theorem dX2_sum_17 : decode cX2_sum 17 = .ok (.dup, 1) := by decide +kernel
theorem dX2_sum_18 : decode cX2_sum 18 = .ok (.ldc 68, 2) := by decide +kernel
theorem dX2_sum_20 : decode cX2_sum 20 = .ok (.invokespecial 65, 3) := by decide +kernel
theorem dX2_sum_23 : decode cX2_sum 23 = .ok (.athrow, 1) := by decide +kernel
theorem dX2_sum_24 : decode cX2_sum 24 = .ok (.iload_n 3, 1) := by decide +kernel
theorem dX2_sum_25 : decode cX2_sum 25 = .ok (.iconst 1, 1) := by decide +kernel
theorem dX2_sum_26 : decode cX2_sum 26 = .ok (.if_icmp .lt 11, 3) := by decide +kernel
theorem dX2_sum_29 : decode cX2_sum 29 = .ok (.iload_n 3, 1) := by decide +kernel
theorem dX2_sum_30 : decode cX2_sum 30 = .ok (.bipush 8, 2) := by decide +kernel
theorem dX2_sum_32 : decode cX2_sum 32 = .ok (.iload_n 2, 1) := by decide +kernel
theorem dX2_sum_33 : decode cX2_sum 33 = .ok (.isub, 1) := by decide +kernel
theorem dX2_sum_34 : decode cX2_sum 34 = .ok (.if_icmp .le 13, 3) := by decide +kernel
theorem dX2_sum_37 : decode cX2_sum 37 = .ok (.new 61, 3) := by decide +kernel
theorem dX2_sum_40 : decode cX2_sum 40 = .ok (.dup, 1) := by decide +kernel
theorem dX2_sum_41 : decode cX2_sum 41 = .ok (.ldc 86, 2) := by decide +kernel
theorem dX2_sum_43 : decode cX2_sum 43 = .ok (.invokespecial 65, 3) := by decide +kernel
theorem dX2_sum_46 : decode cX2_sum 46 = .ok (.athrow, 1) := by decide +kernel
theorem dX2_sum_47 : decode cX2_sum 47 = .ok (.aload_n 0, 1) := by decide +kernel
theorem dX2_sum_48 : decode cX2_sum 48 = .ok (.getfield 25, 3) := by decide +kernel
theorem dX2_sum_51 : decode cX2_sum 51 = .ok (.lconst 0, 1) := by decide +kernel
theorem dX2_sum_52 : decode cX2_sum 52 = .ok (.lconst 0, 1) := by decide +kernel
theorem dX2_sum_53 : decode cX2_sum 53 = .ok (.invokevirtual 57, 3) := by decide +kernel
theorem dX2_sum_56 : decode cX2_sum 56 = .ok (.iload_n 2, 1) := by decide +kernel
theorem dX2_sum_57 : decode cX2_sum 57 = .ok (.istore 4, 2) := by decide +kernel
theorem dX2_sum_59 : decode cX2_sum 59 = .ok (.iload 4, 2) := by decide +kernel
theorem dX2_sum_61 : decode cX2_sum 61 = .ok (.iload_n 2, 1) := by decide +kernel
theorem dX2_sum_62 : decode cX2_sum 62 = .ok (.iload_n 3, 1) := by decide +kernel
theorem dX2_sum_63 : decode cX2_sum 63 = .ok (.iadd, 1) := by decide +kernel
theorem dX2_sum_64 : decode cX2_sum 64 = .ok (.if_icmp .ge 23, 3) := by decide +kernel
theorem dX2_sum_67 : decode cX2_sum 67 = .ok (.aload_n 0, 1) := by decide +kernel
theorem dX2_sum_68 : decode cX2_sum 68 = .ok (.getfield 25, 3) := by decide +kernel
theorem dX2_sum_71 : decode cX2_sum 71 = .ok (.aload_n 0, 1) := by decide +kernel
theorem dX2_sum_72 : decode cX2_sum 72 = .ok (.getfield 20, 3) := by decide +kernel
theorem dX2_sum_75 : decode cX2_sum 75 = .ok (.iload 4, 2) := by decide +kernel
theorem dX2_sum_77 : decode cX2_sum 77 = .ok (.aaload, 1) := by decide +kernel
theorem dX2_sum_78 : decode cX2_sum 78 = .ok (.invokestatic 88, 3) := by decide +kernel
theorem dX2_sum_81 : decode cX2_sum 81 = .ok (.iinc 4 1, 3) := by decide +kernel
theorem dX2_sum_84 : decode cX2_sum 84 = .ok (.goto (-25), 3) := by decide +kernel
theorem dX2_sum_87 : decode cX2_sum 87 = .ok (.aload_n 0, 1) := by decide +kernel
theorem dX2_sum_88 : decode cX2_sum 88 = .ok (.aload_n 0, 1) := by decide +kernel
theorem dX2_sum_89 : decode cX2_sum 89 = .ok (.getfield 25, 3) := by decide +kernel
theorem dX2_sum_92 : decode cX2_sum 92 = .ok (.aload_n 0, 1) := by decide +kernel
theorem dX2_sum_93 : decode cX2_sum 93 = .ok (.getfield 20, 3) := by decide +kernel
theorem dX2_sum_96 : decode cX2_sum 96 = .ok (.iload_n 1, 1) := by decide +kernel
theorem dX2_sum_97 : decode cX2_sum 97 = .ok (.aaload, 1) := by decide +kernel
theorem dX2_sum_98 : decode cX2_sum 98 = .ok (.invokevirtual 78, 3) := by decide +kernel
theorem dX2_sum_101 : decode cX2_sum 101 = .ok (.ireturn, 1) := by decide +kernel
theorem dX2_kind_0 : decode cX2_kind 0 = .ok (.iload_n 1, 1) := by decide +kernel
theorem dX2_kind_1 : decode cX2_kind 1 = .ok (.invokestatic 42, 3) := by decide +kernel
theorem dX2_kind_4 : decode cX2_kind 4 = .ok (.ifCond .eq 15, 3) := by decide +kernel
theorem dX2_kind_7 : decode cX2_kind 7 = .ok (.aload_n 0, 1) := by decide +kernel
theorem dX2_kind_8 : decode cX2_kind 8 = .ok (.getfield 20, 3) := by decide +kernel
theorem dX2_kind_11 : decode cX2_kind 11 = .ok (.iload_n 1, 1) := by decide +kernel
theorem dX2_kind_12 : decode cX2_kind 12 = .ok (.aaload, 1) := by decide +kernel
theorem dX2_kind_13 : decode cX2_kind 13 = .ok (.invokevirtual 91, 3) := by decide +kernel
theorem dX2_kind_16 : decode cX2_kind 16 = .ok (.goto 4, 3) := by decide +kernel
theorem dX2_kind_19 : decode cX2_kind 19 = .ok (.iconst (-1), 1) := by decide +kernel
theorem dX2_kind_20 : decode cX2_kind 20 = .ok (.ireturn, 1) := by decide +kernel
theorem dX2_low_0 : decode cX2_low 0 = .ok (.aload_n 0, 1) := by decide +kernel
theorem dX2_low_1 : decode cX2_low 1 = .ok (.iload_n 1, 1) := by decide +kernel
theorem dX2_low_2 : decode cX2_low 2 = .ok (.invokevirtual 95, 3) := by decide +kernel
theorem dX2_low_5 : decode cX2_low 5 = .ok (.ifCond .ne 13, 3) := by decide +kernel
theorem dX2_low_8 : decode cX2_low 8 = .ok (.new 98, 3) := by decide +kernel
theorem dX2_low_11 : decode cX2_low 11 = .ok (.dup, 1) := by decide +kernel
theorem dX2_low_12 : decode cX2_low 12 = .ok (.ldc 100, 2) := by decide +kernel
theorem dX2_low_14 : decode cX2_low 14 = .ok (.invokespecial 102, 3) := by decide +kernel
theorem dX2_low_17 : decode cX2_low 17 = .ok (.athrow, 1) := by decide +kernel
theorem dX2_low_18 : decode cX2_low 18 = .ok (.aload_n 0, 1) := by decide +kernel
theorem dX2_low_19 : decode cX2_low 19 = .ok (.getfield 12, 3) := by decide +kernel
theorem dX2_low_22 : decode cX2_low 22 = .ok (.aload_n 0, 1) := by decide +kernel
theorem dX2_low_23 : decode cX2_low 23 = .ok (.getfield 20, 3) := by decide +kernel
theorem dX2_low_26 : decode cX2_low 26 = .ok (.iload_n 1, 1) := by decide +kernel
theorem dX2_low_27 : decode cX2_low 27 = .ok (.aaload, 1) := by decide +kernel
theorem dX2_low_28 : decode cX2_low 28 = .ok (.getfield 103, 3) := by decide +kernel
theorem dX2_low_31 : decode cX2_low 31 = .ok (.invokevirtual 107, 3) := by decide +kernel
theorem dX2_low_34 : decode cX2_low 34 = .ok (.ireturn, 1) := by decide +kernel
theorem dX2_high_0 : decode cX2_high 0 = .ok (.aload_n 0, 1) := by decide +kernel
theorem dX2_high_1 : decode cX2_high 1 = .ok (.iload_n 1, 1) := by decide +kernel
theorem dX2_high_2 : decode cX2_high 2 = .ok (.invokevirtual 95, 3) := by decide +kernel
theorem dX2_high_5 : decode cX2_high 5 = .ok (.ifCond .ne 13, 3) := by decide +kernel
theorem dX2_high_8 : decode cX2_high 8 = .ok (.new 98, 3) := by decide +kernel
theorem dX2_high_11 : decode cX2_high 11 = .ok (.dup, 1) := by decide +kernel
theorem dX2_high_12 : decode cX2_high 12 = .ok (.ldc 100, 2) := by decide +kernel
theorem dX2_high_14 : decode cX2_high 14 = .ok (.invokespecial 102, 3) := by decide +kernel
theorem dX2_high_17 : decode cX2_high 17 = .ok (.athrow, 1) := by decide +kernel
theorem dX2_high_18 : decode cX2_high 18 = .ok (.aload_n 0, 1) := by decide +kernel
theorem dX2_high_19 : decode cX2_high 19 = .ok (.getfield 12, 3) := by decide +kernel
theorem dX2_high_22 : decode cX2_high 22 = .ok (.aload_n 0, 1) := by decide +kernel
theorem dX2_high_23 : decode cX2_high 23 = .ok (.getfield 20, 3) := by decide +kernel
theorem dX2_high_26 : decode cX2_high 26 = .ok (.iload_n 1, 1) := by decide +kernel
theorem dX2_high_27 : decode cX2_high 27 = .ok (.aaload, 1) := by decide +kernel
theorem dX2_high_28 : decode cX2_high 28 = .ok (.getfield 111, 3) := by decide +kernel
theorem dX2_high_31 : decode cX2_high 31 = .ok (.invokevirtual 107, 3) := by decide +kernel
theorem dX2_high_34 : decode cX2_high 34 = .ok (.ireturn, 1) := by decide +kernel
theorem dX2_middle_0 : decode cX2_middle 0 = .ok (.aload_n 0, 1) := by decide +kernel
theorem dX2_middle_1 : decode cX2_middle 1 = .ok (.iload_n 1, 1) := by decide +kernel
theorem dX2_middle_2 : decode cX2_middle 2 = .ok (.invokevirtual 95, 3) := by decide +kernel
theorem dX2_middle_5 : decode cX2_middle 5 = .ok (.ifCond .eq 15, 3) := by decide +kernel
theorem dX2_middle_8 : decode cX2_middle 8 = .ok (.aload_n 0, 1) := by decide +kernel
theorem dX2_middle_9 : decode cX2_middle 9 = .ok (.getfield 20, 3) := by decide +kernel
theorem dX2_middle_12 : decode cX2_middle 12 = .ok (.iload_n 1, 1) := by decide +kernel
theorem dX2_middle_13 : decode cX2_middle 13 = .ok (.aaload, 1) := by decide +kernel
theorem dX2_middle_14 : decode cX2_middle 14 = .ok (.invokevirtual 114, 3) := by decide +kernel
theorem dX2_middle_17 : decode cX2_middle 17 = .ok (.ifCond .eq 13, 3) := by decide +kernel
theorem dX2_middle_20 : decode cX2_middle 20 = .ok (.new 98, 3) := by decide +kernel
theorem dX2_middle_23 : decode cX2_middle 23 = .ok (.dup, 1) := by decide +kernel
theorem dX2_middle_24 : decode cX2_middle 24 = .ok (.ldc 118, 2) := by decide +kernel
theorem dX2_middle_26 : decode cX2_middle 26 = .ok (.invokespecial 102, 3) := by decide +kernel
theorem dX2_middle_29 : decode cX2_middle 29 = .ok (.athrow, 1) := by decide +kernel
theorem dX2_middle_30 : decode cX2_middle 30 = .ok (.aload_n 0, 1) := by decide +kernel
theorem dX2_middle_31 : decode cX2_middle 31 = .ok (.getfield 12, 3) := by decide +kernel
theorem dX2_middle_34 : decode cX2_middle 34 = .ok (.aload_n 0, 1) := by decide +kernel
theorem dX2_middle_35 : decode cX2_middle 35 = .ok (.getfield 20, 3) := by decide +kernel
theorem dX2_middle_38 : decode cX2_middle 38 = .ok (.iload_n 1, 1) := by decide +kernel
theorem dX2_middle_39 : decode cX2_middle 39 = .ok (.aaload, 1) := by decide +kernel
theorem dX2_middle_40 : decode cX2_middle 40 = .ok (.getfield 103, 3) := by decide +kernel
theorem dX2_middle_43 : decode cX2_middle 43 = .ok (.aload_n 0, 1) := by decide +kernel
theorem dX2_middle_44 : decode cX2_middle 44 = .ok (.getfield 20, 3) := by decide +kernel
theorem dX2_middle_47 : decode cX2_middle 47 = .ok (.iload_n 1, 1) := by decide +kernel
theorem dX2_middle_48 : decode cX2_middle 48 = .ok (.aaload, 1) := by decide +kernel
theorem dX2_middle_49 : decode cX2_middle 49 = .ok (.getfield 111, 3) := by decide +kernel
theorem dX2_middle_52 : decode cX2_middle 52 = .ok (.ladd, 1) := by decide +kernel
theorem dX2_middle_53 : decode cX2_middle 53 = .ok (.invokevirtual 120, 3) := by decide +kernel
theorem dX2_middle_56 : decode cX2_middle 56 = .ok (.ireturn, 1) := by decide +kernel
theorem dX2_width_0 : decode cX2_width 0 = .ok (.aload_n 0, 1) := by decide +kernel
theorem dX2_width_1 : decode cX2_width 1 = .ok (.iload_n 1, 1) := by decide +kernel
theorem dX2_width_2 : decode cX2_width 2 = .ok (.invokevirtual 95, 3) := by decide +kernel
theorem dX2_width_5 : decode cX2_width 5 = .ok (.ifCond .ne 13, 3) := by decide +kernel
theorem dX2_width_8 : decode cX2_width 8 = .ok (.new 98, 3) := by decide +kernel
theorem dX2_width_11 : decode cX2_width 11 = .ok (.dup, 1) := by decide +kernel
theorem dX2_width_12 : decode cX2_width 12 = .ok (.ldc 100, 2) := by decide +kernel
theorem dX2_width_14 : decode cX2_width 14 = .ok (.invokespecial 102, 3) := by decide +kernel
theorem dX2_width_17 : decode cX2_width 17 = .ok (.athrow, 1) := by decide +kernel
theorem dX2_width_18 : decode cX2_width 18 = .ok (.aload_n 0, 1) := by decide +kernel
theorem dX2_width_19 : decode cX2_width 19 = .ok (.getfield 20, 3) := by decide +kernel
theorem dX2_width_22 : decode cX2_width 22 = .ok (.iload_n 1, 1) := by decide +kernel
theorem dX2_width_23 : decode cX2_width 23 = .ok (.aaload, 1) := by decide +kernel
theorem dX2_width_24 : decode cX2_width 24 = .ok (.getfield 111, 3) := by decide +kernel
theorem dX2_width_27 : decode cX2_width 27 = .ok (.aload_n 0, 1) := by decide +kernel
theorem dX2_width_28 : decode cX2_width 28 = .ok (.getfield 20, 3) := by decide +kernel
theorem dX2_width_31 : decode cX2_width 31 = .ok (.iload_n 1, 1) := by decide +kernel
theorem dX2_width_32 : decode cX2_width 32 = .ok (.aaload, 1) := by decide +kernel
theorem dX2_width_33 : decode cX2_width 33 = .ok (.getfield 103, 3) := by decide +kernel
theorem dX2_width_36 : decode cX2_width 36 = .ok (.lneg, 1) := by decide +kernel
theorem dX2_width_37 : decode cX2_width 37 = .ok (.invokestatic 123, 3) := by decide +kernel
theorem dX2_width_40 : decode cX2_width 40 = .ok (.lstore_n 2, 1) := by decide +kernel
theorem dX2_width_41 : decode cX2_width 41 = .ok (.aload_n 0, 1) := by decide +kernel
theorem dX2_width_42 : decode cX2_width 42 = .ok (.getfield 12, 3) := by decide +kernel
theorem dX2_width_45 : decode cX2_width 45 = .ok (.aload_n 0, 1) := by decide +kernel
theorem dX2_width_46 : decode cX2_width 46 = .ok (.getfield 12, 3) := by decide +kernel
theorem dX2_width_49 : decode cX2_width 49 = .ok (.lload_n 2, 1) := by decide +kernel
theorem dX2_width_50 : decode cX2_width 50 = .ok (.invokevirtual 127, 3) := by decide +kernel
theorem dX2_width_53 : decode cX2_width 53 = .ok (.invokevirtual 107, 3) := by decide +kernel
theorem dX2_width_56 : decode cX2_width 56 = .ok (.ireturn, 1) := by decide +kernel
theorem dX2_compare_0 : decode cX2_compare 0 = .ok (.iload_n 1, 1) := by decide +kernel
theorem dX2_compare_1 : decode cX2_compare 1 = .ok (.invokestatic 42, 3) := by decide +kernel
theorem dX2_compare_4 : decode cX2_compare 4 = .ok (.ifCond .eq 10, 3) := by decide +kernel
theorem dX2_compare_7 : decode cX2_compare 7 = .ok (.iload_n 2, 1) := by decide +kernel
theorem dX2_compare_8 : decode cX2_compare 8 = .ok (.invokestatic 42, 3) := by decide +kernel
theorem dX2_compare_11 : decode cX2_compare 11 = .ok (.ifCond .ne 5, 3) := by decide +kernel
theorem dX2_compare_14 : decode cX2_compare 14 = .ok (.iconst (-1), 1) := by decide +kernel
theorem dX2_compare_15 : decode cX2_compare 15 = .ok (.ireturn, 1) := by decide +kernel
theorem dX2_compare_16 : decode cX2_compare 16 = .ok (.aload_n 0, 1) := by decide +kernel
theorem dX2_compare_17 : decode cX2_compare 17 = .ok (.iload_n 1, 1) := by decide +kernel
theorem dX2_compare_18 : decode cX2_compare 18 = .ok (.invokevirtual 95, 3) := by decide +kernel
theorem dX2_compare_21 : decode cX2_compare 21 = .ok (.ifCond .eq 11, 3) := by decide +kernel
theorem dX2_compare_24 : decode cX2_compare 24 = .ok (.aload_n 0, 1) := by decide +kernel
theorem dX2_compare_25 : decode cX2_compare 25 = .ok (.iload_n 2, 1) := by decide +kernel
theorem dX2_compare_26 : decode cX2_compare 26 = .ok (.invokevirtual 95, 3) := by decide +kernel
theorem dX2_compare_29 : decode cX2_compare 29 = .ok (.ifCond .ne 5, 3) := by decide +kernel
theorem dX2_compare_32 : decode cX2_compare 32 = .ok (.iconst 0, 1) := by decide +kernel
theorem dX2_compare_33 : decode cX2_compare 33 = .ok (.ireturn, 1) := by decide +kernel
theorem dX2_compare_34 : decode cX2_compare 34 = .ok (.aload_n 0, 1) := by decide +kernel
theorem dX2_compare_35 : decode cX2_compare 35 = .ok (.getfield 20, 3) := by decide +kernel
theorem dX2_compare_38 : decode cX2_compare 38 = .ok (.iload_n 1, 1) := by decide +kernel
theorem dX2_compare_39 : decode cX2_compare 39 = .ok (.aaload, 1) := by decide +kernel
theorem dX2_compare_40 : decode cX2_compare 40 = .ok (.astore_n 3, 1) := by decide +kernel
theorem dX2_compare_41 : decode cX2_compare 41 = .ok (.aload_n 0, 1) := by decide +kernel
theorem dX2_compare_42 : decode cX2_compare 42 = .ok (.getfield 20, 3) := by decide +kernel
theorem dX2_compare_45 : decode cX2_compare 45 = .ok (.iload_n 2, 1) := by decide +kernel
theorem dX2_compare_46 : decode cX2_compare 46 = .ok (.aaload, 1) := by decide +kernel
theorem dX2_compare_47 : decode cX2_compare 47 = .ok (.astore 4, 2) := by decide +kernel
theorem dX2_compare_49 : decode cX2_compare 49 = .ok (.aload 4, 2) := by decide +kernel
theorem dX2_compare_51 : decode cX2_compare 51 = .ok (.aload_n 3, 1) := by decide +kernel
theorem dX2_compare_52 : decode cX2_compare 52 = .ok (.invokevirtual 131, 3) := by decide +kernel
theorem dX2_compare_55 : decode cX2_compare 55 = .ok (.istore 5, 2) := by decide +kernel
theorem dX2_compare_57 : decode cX2_compare 57 = .ok (.aload_n 3, 1) := by decide +kernel
theorem dX2_compare_58 : decode cX2_compare 58 = .ok (.aload 4, 2) := by decide +kernel
theorem dX2_compare_60 : decode cX2_compare 60 = .ok (.invokevirtual 131, 3) := by decide +kernel
theorem dX2_compare_63 : decode cX2_compare 63 = .ok (.istore 6, 2) := by decide +kernel
theorem dX2_compare_65 : decode cX2_compare 65 = .ok (.aload_n 3, 1) := by decide +kernel
theorem dX2_compare_66 : decode cX2_compare 66 = .ok (.getfield 103, 3) := by decide +kernel
theorem dX2_compare_69 : decode cX2_compare 69 = .ok (.aload 4, 2) := by decide +kernel
theorem dX2_compare_71 : decode cX2_compare 71 = .ok (.getfield 111, 3) := by decide +kernel
theorem dX2_compare_74 : decode cX2_compare 74 = .ok (.lcmp, 1) := by decide +kernel
theorem dX2_compare_75 : decode cX2_compare 75 = .ok (.ifCond .ge 7, 3) := by decide +kernel
theorem dX2_compare_78 : decode cX2_compare 78 = .ok (.iconst 1, 1) := by decide +kernel
theorem dX2_compare_79 : decode cX2_compare 79 = .ok (.goto 4, 3) := by decide +kernel
theorem dX2_compare_82 : decode cX2_compare 82 = .ok (.iconst 0, 1) := by decide +kernel
theorem dX2_compare_83 : decode cX2_compare 83 = .ok (.aload_n 3, 1) := by decide +kernel
theorem dX2_compare_84 : decode cX2_compare 84 = .ok (.getfield 103, 3) := by decide +kernel
theorem dX2_compare_87 : decode cX2_compare 87 = .ok (.aload 4, 2) := by decide +kernel
theorem dX2_compare_89 : decode cX2_compare 89 = .ok (.getfield 111, 3) := by decide +kernel
theorem dX2_compare_92 : decode cX2_compare 92 = .ok (.lcmp, 1) := by decide +kernel
theorem dX2_compare_93 : decode cX2_compare 93 = .ok (.ifCond .gt 20, 3) := by decide +kernel
theorem dX2_compare_96 : decode cX2_compare 96 = .ok (.aload 4, 2) := by decide +kernel
theorem dX2_compare_98 : decode cX2_compare 98 = .ok (.getfield 103, 3) := by decide +kernel
theorem dX2_compare_101 : decode cX2_compare 101 = .ok (.aload_n 3, 1) := by decide +kernel
theorem dX2_compare_102 : decode cX2_compare 102 = .ok (.getfield 111, 3) := by decide +kernel
theorem dX2_compare_105 : decode cX2_compare 105 = .ok (.lcmp, 1) := by decide +kernel
theorem dX2_compare_106 : decode cX2_compare 106 = .ok (.ifCond .gt 7, 3) := by decide +kernel
theorem dX2_compare_109 : decode cX2_compare 109 = .ok (.iconst 2, 1) := by decide +kernel
theorem dX2_compare_110 : decode cX2_compare 110 = .ok (.goto 4, 3) := by decide +kernel
theorem dX2_compare_113 : decode cX2_compare 113 = .ok (.iconst 0, 1) := by decide +kernel
theorem dX2_compare_114 : decode cX2_compare 114 = .ok (.ior, 1) := by decide +kernel
theorem dX2_compare_115 : decode cX2_compare 115 = .ok (.aload_n 3, 1) := by decide +kernel
theorem dX2_compare_116 : decode cX2_compare 116 = .ok (.getfield 111, 3) := by decide +kernel
theorem dX2_compare_119 : decode cX2_compare 119 = .ok (.aload 4, 2) := by decide +kernel
theorem dX2_compare_121 : decode cX2_compare 121 = .ok (.getfield 103, 3) := by decide +kernel
theorem dX2_compare_124 : decode cX2_compare 124 = .ok (.lcmp, 1) := by decide +kernel
theorem dX2_compare_125 : decode cX2_compare 125 = .ok (.ifCond .le 7, 3) := by decide +kernel
theorem dX2_compare_128 : decode cX2_compare 128 = .ok (.iconst 4, 1) := by decide +kernel
theorem dX2_compare_129 : decode cX2_compare 129 = .ok (.goto 4, 3) := by decide +kernel
theorem dX2_compare_132 : decode cX2_compare 132 = .ok (.iconst 0, 1) := by decide +kernel
theorem dX2_compare_133 : decode cX2_compare 133 = .ok (.ior, 1) := by decide +kernel
theorem dX2_compare_134 : decode cX2_compare 134 = .ok (.iload 5, 2) := by decide +kernel
theorem dX2_compare_136 : decode cX2_compare 136 = .ok (.ifCond .eq 8, 3) := by decide +kernel
theorem dX2_compare_139 : decode cX2_compare 139 = .ok (.bipush 8, 2) := by decide +kernel
theorem dX2_compare_141 : decode cX2_compare 141 = .ok (.goto 4, 3) := by decide +kernel
theorem dX2_compare_144 : decode cX2_compare 144 = .ok (.iconst 0, 1) := by decide +kernel
theorem dX2_compare_145 : decode cX2_compare 145 = .ok (.ior, 1) := by decide +kernel
theorem dX2_compare_146 : decode cX2_compare 146 = .ok (.iload 6, 2) := by decide +kernel
theorem dX2_compare_148 : decode cX2_compare 148 = .ok (.ifCond .eq 8, 3) := by decide +kernel
theorem dX2_compare_151 : decode cX2_compare 151 = .ok (.bipush 16, 2) := by decide +kernel
theorem dX2_compare_153 : decode cX2_compare 153 = .ok (.goto 4, 3) := by decide +kernel
theorem dX2_compare_156 : decode cX2_compare 156 = .ok (.iconst 0, 1) := by decide +kernel
theorem dX2_compare_157 : decode cX2_compare 157 = .ok (.ior, 1) := by decide +kernel
theorem dX2_compare_158 : decode cX2_compare 158 = .ok (.iload 5, 2) := by decide +kernel
theorem dX2_compare_160 : decode cX2_compare 160 = .ok (.ifCond .eq 13, 3) := by decide +kernel
theorem dX2_compare_163 : decode cX2_compare 163 = .ok (.iload 6, 2) := by decide +kernel
theorem dX2_compare_165 : decode cX2_compare 165 = .ok (.ifCond .eq 8, 3) := by decide +kernel
theorem dX2_compare_168 : decode cX2_compare 168 = .ok (.bipush 32, 2) := by decide +kernel
theorem dX2_compare_170 : decode cX2_compare 170 = .ok (.goto 4, 3) := by decide +kernel
theorem dX2_compare_173 : decode cX2_compare 173 = .ok (.iconst 0, 1) := by decide +kernel
theorem dX2_compare_174 : decode cX2_compare 174 = .ok (.ior, 1) := by decide +kernel
theorem dX2_compare_175 : decode cX2_compare 175 = .ok (.ireturn, 1) := by decide +kernel
