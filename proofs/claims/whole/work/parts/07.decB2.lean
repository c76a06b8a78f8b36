theorem dX2_divideByAbove_0 : decode cX2_divideByAbove 0 = .ok (.lload 4, 2) := by decide +kernel
theorem dX2_divideByAbove_2 : decode cX2_divideByAbove 2 = .ok (.lconst 0, 1) := by decide +kernel
theorem dX2_divideByAbove_3 : decode cX2_divideByAbove 3 = .ok (.lcmp, 1) := by decide +kernel
theorem dX2_divideByAbove_4 : decode cX2_divideByAbove 4 = .ok (.ifCond .gt 9, 3) := by decide +kernel
theorem dX2_divideByAbove_7 : decode cX2_divideByAbove 7 = .ok (.aload 6, 2) := by decide +kernel
theorem dX2_divideByAbove_9 : decode cX2_divideByAbove 9 = .ok (.invokevirtual 39, 3) := by decide +kernel
theorem dX2_divideByAbove_12 : decode cX2_divideByAbove 12 = .ok (.return_, 1) := by decide +kernel
theorem dX2_divideByAbove_13 : decode cX2_divideByAbove 13 = .ok (.lload_n 2, 1) := by decide +kernel
theorem dX2_divideByAbove_14 : decode cX2_divideByAbove 14 = .ok (.lconst 0, 1) := by decide +kernel
theorem dX2_divideByAbove_15 : decode cX2_divideByAbove 15 = .ok (.invokestatic 159, 3) := by decide +kernel
theorem dX2_divideByAbove_18 : decode cX2_divideByAbove 18 = .ok (.lstore 7, 2) := by decide +kernel
theorem dX2_divideByAbove_20 : decode cX2_divideByAbove 20 = .ok (.aload 6, 2) := by decide +kernel
theorem dX2_divideByAbove_22 : decode cX2_divideByAbove 22 = .ok (.aload_n 0, 1) := by decide +kernel
theorem dX2_divideByAbove_23 : decode cX2_divideByAbove 23 = .ok (.aload_n 1, 1) := by decide +kernel
theorem dX2_divideByAbove_24 : decode cX2_divideByAbove 24 = .ok (.getfield 103, 3) := by decide +kernel
theorem dX2_divideByAbove_27 : decode cX2_divideByAbove 27 = .ok (.lload 7, 2) := by decide +kernel
theorem dX2_divideByAbove_29 : decode cX2_divideByAbove 29 = .ok (.lload 4, 2) := by decide +kernel
theorem dX2_divideByAbove_31 : decode cX2_divideByAbove 31 = .ok (.invokevirtual 179, 3) := by decide +kernel
theorem dX2_divideByAbove_34 : decode cX2_divideByAbove 34 = .ok (.aload_n 0, 1) := by decide +kernel
theorem dX2_divideByAbove_35 : decode cX2_divideByAbove 35 = .ok (.aload_n 1, 1) := by decide +kernel
theorem dX2_divideByAbove_36 : decode cX2_divideByAbove 36 = .ok (.getfield 111, 3) := by decide +kernel
theorem dX2_divideByAbove_39 : decode cX2_divideByAbove 39 = .ok (.lneg, 1) := by decide +kernel
theorem dX2_divideByAbove_40 : decode cX2_divideByAbove 40 = .ok (.lload 7, 2) := by decide +kernel
theorem dX2_divideByAbove_42 : decode cX2_divideByAbove 42 = .ok (.lload 4, 2) := by decide +kernel
theorem dX2_divideByAbove_44 : decode cX2_divideByAbove 44 = .ok (.invokevirtual 179, 3) := by decide +kernel
theorem dX2_divideByAbove_47 : decode cX2_divideByAbove 47 = .ok (.lneg, 1) := by decide +kernel
theorem dX2_divideByAbove_48 : decode cX2_divideByAbove 48 = .ok (.invokevirtual 57, 3) := by decide +kernel
theorem dX2_divideByAbove_51 : decode cX2_divideByAbove 51 = .ok (.return_, 1) := by decide +kernel
theorem dX2_leastQuotient_0 : decode cX2_leastQuotient 0 = .ok (.lload_n 1, 1) := by decide +kernel
theorem dX2_leastQuotient_1 : decode cX2_leastQuotient 1 = .ok (.lconst 0, 1) := by decide +kernel
theorem dX2_leastQuotient_2 : decode cX2_leastQuotient 2 = .ok (.lcmp, 1) := by decide +kernel
theorem dX2_leastQuotient_3 : decode cX2_leastQuotient 3 = .ok (.ifCond .lt 38, 3) := by decide +kernel
theorem dX2_leastQuotient_6 : decode cX2_leastQuotient 6 = .ok (.lload 5, 2) := by decide +kernel
theorem dX2_leastQuotient_8 : decode cX2_leastQuotient 8 = .ok (.lconst 0, 1) := by decide +kernel
theorem dX2_leastQuotient_9 : decode cX2_leastQuotient 9 = .ok (.lcmp, 1) := by decide +kernel
theorem dX2_leastQuotient_10 : decode cX2_leastQuotient 10 = .ok (.ifCond .le 12, 3) := by decide +kernel
theorem dX2_leastQuotient_13 : decode cX2_leastQuotient 13 = .ok (.lload 5, 2) := by decide +kernel
theorem dX2_leastQuotient_15 : decode cX2_leastQuotient 15 = .ok (.ldc2_w 53, 3) := by decide +kernel
theorem dX2_leastQuotient_18 : decode cX2_leastQuotient 18 = .ok (.lcmp, 1) := by decide +kernel
theorem dX2_leastQuotient_19 : decode cX2_leastQuotient 19 = .ok (.ifCond .ne 7, 3) := by decide +kernel
theorem dX2_leastQuotient_22 : decode cX2_leastQuotient 22 = .ok (.lconst 0, 1) := by decide +kernel
theorem dX2_leastQuotient_23 : decode cX2_leastQuotient 23 = .ok (.goto 17, 3) := by decide +kernel
theorem dX2_leastQuotient_26 : decode cX2_leastQuotient 26 = .ok (.lload_n 1, 1) := by decide +kernel
theorem dX2_leastQuotient_27 : decode cX2_leastQuotient 27 = .ok (.aload_n 0, 1) := by decide +kernel
theorem dX2_leastQuotient_28 : decode cX2_leastQuotient 28 = .ok (.getfield 12, 3) := by decide +kernel
theorem dX2_leastQuotient_31 : decode cX2_leastQuotient 31 = .ok (.invokevirtual 183, 3) := by decide +kernel
theorem dX2_leastQuotient_34 : decode cX2_leastQuotient 34 = .ok (.lshl, 1) := by decide +kernel
theorem dX2_leastQuotient_35 : decode cX2_leastQuotient 35 = .ok (.lload 5, 2) := by decide +kernel
theorem dX2_leastQuotient_37 : decode cX2_leastQuotient 37 = .ok (.invokestatic 186, 3) := by decide +kernel
theorem dX2_leastQuotient_40 : decode cX2_leastQuotient 40 = .ok (.lreturn, 1) := by decide +kernel
theorem dX2_leastQuotient_41 : decode cX2_leastQuotient 41 = .ok (.lload_n 3, 1) := by decide +kernel
theorem dX2_leastQuotient_42 : decode cX2_leastQuotient 42 = .ok (.lconst 0, 1) := by decide +kernel
theorem dX2_leastQuotient_43 : decode cX2_leastQuotient 43 = .ok (.lcmp, 1) := by decide +kernel
theorem dX2_leastQuotient_44 : decode cX2_leastQuotient 44 = .ok (.ifCond .le 11, 3) := by decide +kernel
theorem dX2_leastQuotient_47 : decode cX2_leastQuotient 47 = .ok (.lload_n 1, 1) := by decide +kernel
theorem dX2_leastQuotient_48 : decode cX2_leastQuotient 48 = .ok (.ldc2_w 55, 3) := by decide +kernel
theorem dX2_leastQuotient_51 : decode cX2_leastQuotient 51 = .ok (.lcmp, 1) := by decide +kernel
theorem dX2_leastQuotient_52 : decode cX2_leastQuotient 52 = .ok (.ifCond .ne 7, 3) := by decide +kernel
theorem dX2_leastQuotient_55 : decode cX2_leastQuotient 55 = .ok (.ldc2_w 55, 3) := by decide +kernel
theorem dX2_leastQuotient_58 : decode cX2_leastQuotient 58 = .ok (.lreturn, 1) := by decide +kernel
theorem dX2_leastQuotient_59 : decode cX2_leastQuotient 59 = .ok (.lload_n 1, 1) := by decide +kernel
theorem dX2_leastQuotient_60 : decode cX2_leastQuotient 60 = .ok (.aload_n 0, 1) := by decide +kernel
theorem dX2_leastQuotient_61 : decode cX2_leastQuotient 61 = .ok (.getfield 12, 3) := by decide +kernel
theorem dX2_leastQuotient_64 : decode cX2_leastQuotient 64 = .ok (.invokevirtual 183, 3) := by decide +kernel
theorem dX2_leastQuotient_67 : decode cX2_leastQuotient 67 = .ok (.lshl, 1) := by decide +kernel
theorem dX2_leastQuotient_68 : decode cX2_leastQuotient 68 = .ok (.lload_n 3, 1) := by decide +kernel
theorem dX2_leastQuotient_69 : decode cX2_leastQuotient 69 = .ok (.invokestatic 186, 3) := by decide +kernel
theorem dX2_leastQuotient_72 : decode cX2_leastQuotient 72 = .ok (.lreturn, 1) := by decide +kernel
theorem dX2_takeSize_0 : decode cX2_takeSize 0 = .ok (.aload_n 1, 1) := by decide +kernel
theorem dX2_takeSize_1 : decode cX2_takeSize 1 = .ok (.getfield 103, 3) := by decide +kernel
theorem dX2_takeSize_4 : decode cX2_takeSize 4 = .ok (.lconst 0, 1) := by decide +kernel
theorem dX2_takeSize_5 : decode cX2_takeSize 5 = .ok (.lcmp, 1) := by decide +kernel
theorem dX2_takeSize_6 : decode cX2_takeSize 6 = .ok (.ifCond .lt 21, 3) := by decide +kernel
theorem dX2_takeSize_9 : decode cX2_takeSize 9 = .ok (.aload_n 0, 1) := by decide +kernel
theorem dX2_takeSize_10 : decode cX2_takeSize 10 = .ok (.getfield 25, 3) := by decide +kernel
theorem dX2_takeSize_13 : decode cX2_takeSize 13 = .ok (.aload_n 1, 1) := by decide +kernel
theorem dX2_takeSize_14 : decode cX2_takeSize 14 = .ok (.getfield 103, 3) := by decide +kernel
theorem dX2_takeSize_17 : decode cX2_takeSize 17 = .ok (.aload_n 1, 1) := by decide +kernel
theorem dX2_takeSize_18 : decode cX2_takeSize 18 = .ok (.getfield 111, 3) := by decide +kernel
theorem dX2_takeSize_21 : decode cX2_takeSize 21 = .ok (.invokevirtual 57, 3) := by decide +kernel
theorem dX2_takeSize_24 : decode cX2_takeSize 24 = .ok (.goto 52, 3) := by decide +kernel
theorem dX2_takeSize_27 : decode cX2_takeSize 27 = .ok (.aload_n 1, 1) := by decide +kernel
theorem dX2_takeSize_28 : decode cX2_takeSize 28 = .ok (.getfield 111, 3) := by decide +kernel
theorem dX2_takeSize_31 : decode cX2_takeSize 31 = .ok (.lconst 0, 1) := by decide +kernel
theorem dX2_takeSize_32 : decode cX2_takeSize 32 = .ok (.lcmp, 1) := by decide +kernel
theorem dX2_takeSize_33 : decode cX2_takeSize 33 = .ok (.ifCond .gt 23, 3) := by decide +kernel
theorem dX2_takeSize_36 : decode cX2_takeSize 36 = .ok (.aload_n 0, 1) := by decide +kernel
theorem dX2_takeSize_37 : decode cX2_takeSize 37 = .ok (.getfield 25, 3) := by decide +kernel
theorem dX2_takeSize_40 : decode cX2_takeSize 40 = .ok (.aload_n 1, 1) := by decide +kernel
theorem dX2_takeSize_41 : decode cX2_takeSize 41 = .ok (.getfield 111, 3) := by decide +kernel
theorem dX2_takeSize_44 : decode cX2_takeSize 44 = .ok (.lneg, 1) := by decide +kernel
theorem dX2_takeSize_45 : decode cX2_takeSize 45 = .ok (.aload_n 1, 1) := by decide +kernel
theorem dX2_takeSize_46 : decode cX2_takeSize 46 = .ok (.getfield 103, 3) := by decide +kernel
theorem dX2_takeSize_49 : decode cX2_takeSize 49 = .ok (.lneg, 1) := by decide +kernel
theorem dX2_takeSize_50 : decode cX2_takeSize 50 = .ok (.invokevirtual 57, 3) := by decide +kernel
theorem dX2_takeSize_53 : decode cX2_takeSize 53 = .ok (.goto 23, 3) := by decide +kernel
theorem dX2_takeSize_56 : decode cX2_takeSize 56 = .ok (.aload_n 0, 1) := by decide +kernel
theorem dX2_takeSize_57 : decode cX2_takeSize 57 = .ok (.getfield 25, 3) := by decide +kernel
theorem dX2_takeSize_60 : decode cX2_takeSize 60 = .ok (.lconst 0, 1) := by decide +kernel
theorem dX2_takeSize_61 : decode cX2_takeSize 61 = .ok (.aload_n 1, 1) := by decide +kernel
theorem dX2_takeSize_62 : decode cX2_takeSize 62 = .ok (.getfield 103, 3) := by decide +kernel
theorem dX2_takeSize_65 : decode cX2_takeSize 65 = .ok (.lneg, 1) := by decide +kernel
theorem dX2_takeSize_66 : decode cX2_takeSize 66 = .ok (.aload_n 1, 1) := by decide +kernel
theorem dX2_takeSize_67 : decode cX2_takeSize 67 = .ok (.getfield 111, 3) := by decide +kernel
theorem dX2_takeSize_70 : decode cX2_takeSize 70 = .ok (.invokestatic 159, 3) := by decide +kernel
theorem dX2_takeSize_73 : decode cX2_takeSize 73 = .ok (.invokevirtual 57, 3) := by decide +kernel
theorem dX2_takeSize_76 : decode cX2_takeSize 76 = .ok (.return_, 1) := by decide +kernel
theorem dX2_takeRoot_0 : decode cX2_takeRoot 0 = .ok (.aload_n 1, 1) := by decide +kernel
theorem dX2_takeRoot_1 : decode cX2_takeRoot 1 = .ok (.getfield 111, 3) := by decide +kernel
theorem dX2_takeRoot_4 : decode cX2_takeRoot 4 = .ok (.lconst 0, 1) := by decide +kernel
theorem dX2_takeRoot_5 : decode cX2_takeRoot 5 = .ok (.lcmp, 1) := by decide +kernel
theorem dX2_takeRoot_6 : decode cX2_takeRoot 6 = .ok (.ifCond .ge 11, 3) := by decide +kernel
theorem dX2_takeRoot_9 : decode cX2_takeRoot 9 = .ok (.aload_n 0, 1) := by decide +kernel
theorem dX2_takeRoot_10 : decode cX2_takeRoot 10 = .ok (.getfield 25, 3) := by decide +kernel
theorem dX2_takeRoot_13 : decode cX2_takeRoot 13 = .ok (.invokevirtual 39, 3) := by decide +kernel
theorem dX2_takeRoot_16 : decode cX2_takeRoot 16 = .ok (.return_, 1) := by decide +kernel
theorem dX2_takeRoot_17 : decode cX2_takeRoot 17 = .ok (.aload_n 0, 1) := by decide +kernel
theorem dX2_takeRoot_18 : decode cX2_takeRoot 18 = .ok (.getfield 25, 3) := by decide +kernel
theorem dX2_takeRoot_21 : decode cX2_takeRoot 21 = .ok (.aload_n 0, 1) := by decide +kernel
theorem dX2_takeRoot_22 : decode cX2_takeRoot 22 = .ok (.aload_n 1, 1) := by decide +kernel
theorem dX2_takeRoot_23 : decode cX2_takeRoot 23 = .ok (.getfield 103, 3) := by decide +kernel
theorem dX2_takeRoot_26 : decode cX2_takeRoot 26 = .ok (.lconst 0, 1) := by decide +kernel
theorem dX2_takeRoot_27 : decode cX2_takeRoot 27 = .ok (.invokestatic 159, 3) := by decide +kernel
theorem dX2_takeRoot_30 : decode cX2_takeRoot 30 = .ok (.invokevirtual 189, 3) := by decide +kernel
theorem dX2_takeRoot_33 : decode cX2_takeRoot 33 = .ok (.aload_n 0, 1) := by decide +kernel
theorem dX2_takeRoot_34 : decode cX2_takeRoot 34 = .ok (.aload_n 1, 1) := by decide +kernel
theorem dX2_takeRoot_35 : decode cX2_takeRoot 35 = .ok (.getfield 111, 3) := by decide +kernel
theorem dX2_takeRoot_38 : decode cX2_takeRoot 38 = .ok (.invokevirtual 192, 3) := by decide +kernel
theorem dX2_takeRoot_41 : decode cX2_takeRoot 41 = .ok (.invokevirtual 57, 3) := by decide +kernel
theorem dX2_takeRoot_44 : decode cX2_takeRoot 44 = .ok (.return_, 1) := by decide +kernel
theorem dX2_rootNotAbove_0 : decode cX2_rootNotAbove 0 = .ok (.lload_n 1, 1) := by decide +kernel
theorem dX2_rootNotAbove_1 : decode cX2_rootNotAbove 1 = .ok (.aload_n 0, 1) := by decide +kernel
theorem dX2_rootNotAbove_2 : decode cX2_rootNotAbove 2 = .ok (.getfield 12, 3) := by decide +kernel
theorem dX2_rootNotAbove_5 : decode cX2_rootNotAbove 5 = .ok (.invokevirtual 183, 3) := by decide +kernel
theorem dX2_rootNotAbove_8 : decode cX2_rootNotAbove 8 = .ok (.lshl, 1) := by decide +kernel
theorem dX2_rootNotAbove_9 : decode cX2_rootNotAbove 9 = .ok (.invokestatic 195, 3) := by decide +kernel
theorem dX2_rootNotAbove_12 : decode cX2_rootNotAbove 12 = .ok (.lreturn, 1) := by decide +kernel
theorem dX2_rootNotBelow_0 : decode cX2_rootNotBelow 0 = .ok (.lload_n 1, 1) := by decide +kernel
theorem dX2_rootNotBelow_1 : decode cX2_rootNotBelow 1 = .ok (.ldc2_w 53, 3) := by decide +kernel
theorem dX2_rootNotBelow_4 : decode cX2_rootNotBelow 4 = .ok (.lcmp, 1) := by decide +kernel
theorem dX2_rootNotBelow_5 : decode cX2_rootNotBelow 5 = .ok (.ifCond .ne 7, 3) := by decide +kernel
theorem dX2_rootNotBelow_8 : decode cX2_rootNotBelow 8 = .ok (.ldc2_w 53, 3) := by decide +kernel
theorem dX2_rootNotBelow_11 : decode cX2_rootNotBelow 11 = .ok (.lreturn, 1) := by decide +kernel
theorem dX2_rootNotBelow_12 : decode cX2_rootNotBelow 12 = .ok (.lload_n 1, 1) := by decide +kernel
theorem dX2_rootNotBelow_13 : decode cX2_rootNotBelow 13 = .ok (.aload_n 0, 1) := by decide +kernel
theorem dX2_rootNotBelow_14 : decode cX2_rootNotBelow 14 = .ok (.getfield 12, 3) := by decide +kernel
theorem dX2_rootNotBelow_17 : decode cX2_rootNotBelow 17 = .ok (.invokevirtual 183, 3) := by decide +kernel
theorem dX2_rootNotBelow_20 : decode cX2_rootNotBelow 20 = .ok (.lshl, 1) := by decide +kernel
theorem dX2_rootNotBelow_21 : decode cX2_rootNotBelow 21 = .ok (.lstore_n 3, 1) := by decide +kernel
theorem dX2_rootNotBelow_22 : decode cX2_rootNotBelow 22 = .ok (.lload_n 3, 1) := by decide +kernel
theorem dX2_rootNotBelow_23 : decode cX2_rootNotBelow 23 = .ok (.invokestatic 195, 3) := by decide +kernel
theorem dX2_rootNotBelow_26 : decode cX2_rootNotBelow 26 = .ok (.lstore 5, 2) := by decide +kernel
theorem dX2_rootNotBelow_28 : decode cX2_rootNotBelow 28 = .ok (.lload 5, 2) := by decide +kernel
theorem dX2_rootNotBelow_30 : decode cX2_rootNotBelow 30 = .ok (.lload 5, 2) := by decide +kernel
theorem dX2_rootNotBelow_32 : decode cX2_rootNotBelow 32 = .ok (.lmul, 1) := by decide +kernel
theorem dX2_rootNotBelow_33 : decode cX2_rootNotBelow 33 = .ok (.lload_n 3, 1) := by decide +kernel
theorem dX2_rootNotBelow_34 : decode cX2_rootNotBelow 34 = .ok (.lcmp, 1) := by decide +kernel
theorem dX2_rootNotBelow_35 : decode cX2_rootNotBelow 35 = .ok (.ifCond .ge 10, 3) := by decide +kernel
theorem dX2_rootNotBelow_38 : decode cX2_rootNotBelow 38 = .ok (.lload 5, 2) := by decide +kernel
theorem dX2_rootNotBelow_40 : decode cX2_rootNotBelow 40 = .ok (.lconst 1, 1) := by decide +kernel
theorem dX2_rootNotBelow_41 : decode cX2_rootNotBelow 41 = .ok (.ladd, 1) := by decide +kernel
theorem dX2_rootNotBelow_42 : decode cX2_rootNotBelow 42 = .ok (.goto 5, 3) := by decide +kernel
theorem dX2_rootNotBelow_45 : decode cX2_rootNotBelow 45 = .ok (.lload 5, 2) := by decide +kernel
theorem dX2_rootNotBelow_47 : decode cX2_rootNotBelow 47 = .ok (.lreturn, 1) := by decide +kernel
theorem dX2_wholeRoot_0 : decode cX2_wholeRoot 0 = .ok (.lconst 0, 1) := by decide +kernel
theorem dX2_wholeRoot_1 : decode cX2_wholeRoot 1 = .ok (.lstore_n 2, 1) := by decide +kernel
theorem dX2_wholeRoot_2 : decode cX2_wholeRoot 2 = .ok (.bipush 20, 2) := by decide +kernel
theorem dX2_wholeRoot_4 : decode cX2_wholeRoot 4 = .ok (.istore 4, 2) := by decide +kernel
theorem dX2_wholeRoot_6 : decode cX2_wholeRoot 6 = .ok (.iload 4, 2) := by decide +kernel
theorem dX2_wholeRoot_8 : decode cX2_wholeRoot 8 = .ok (.ifCond .lt 30, 3) := by decide +kernel
theorem dX2_wholeRoot_11 : decode cX2_wholeRoot 11 = .ok (.lload_n 2, 1) := by decide +kernel
theorem dX2_wholeRoot_12 : decode cX2_wholeRoot 12 = .ok (.lconst 1, 1) := by decide +kernel
theorem dX2_wholeRoot_13 : decode cX2_wholeRoot 13 = .ok (.iload 4, 2) := by decide +kernel
theorem dX2_wholeRoot_15 : decode cX2_wholeRoot 15 = .ok (.lshl, 1) := by decide +kernel
theorem dX2_wholeRoot_16 : decode cX2_wholeRoot 16 = .ok (.ladd, 1) := by decide +kernel
theorem dX2_wholeRoot_17 : decode cX2_wholeRoot 17 = .ok (.lstore 5, 2) := by decide +kernel
theorem dX2_wholeRoot_19 : decode cX2_wholeRoot 19 = .ok (.lload 5, 2) := by decide +kernel
theorem dX2_wholeRoot_21 : decode cX2_wholeRoot 21 = .ok (.lload 5, 2) := by decide +kernel
theorem dX2_wholeRoot_23 : decode cX2_wholeRoot 23 = .ok (.lmul, 1) := by decide +kernel
theorem dX2_wholeRoot_24 : decode cX2_wholeRoot 24 = .ok (.lload_n 0, 1) := by decide +kernel
theorem dX2_wholeRoot_25 : decode cX2_wholeRoot 25 = .ok (.lcmp, 1) := by decide +kernel
theorem dX2_wholeRoot_26 : decode cX2_wholeRoot 26 = .ok (.ifCond .gt 6, 3) := by decide +kernel
theorem dX2_wholeRoot_29 : decode cX2_wholeRoot 29 = .ok (.lload 5, 2) := by decide +kernel
theorem dX2_wholeRoot_31 : decode cX2_wholeRoot 31 = .ok (.lstore_n 2, 1) := by decide +kernel
theorem dX2_wholeRoot_32 : decode cX2_wholeRoot 32 = .ok (.iinc 4 (-1), 3) := by decide +kernel
theorem dX2_wholeRoot_35 : decode cX2_wholeRoot 35 = .ok (.goto (-29), 3) := by decide +kernel
theorem dX2_wholeRoot_38 : decode cX2_wholeRoot 38 = .ok (.lload_n 2, 1) := by decide +kernel
theorem dX2_wholeRoot_39 : decode cX2_wholeRoot 39 = .ok (.lreturn, 1) := by decide +kernel
theorem dX2_isEndless_0 : decode cX2_isEndless 0 = .ok (.lload_n 0, 1) := by decide +kernel
theorem dX2_isEndless_1 : decode cX2_isEndless 1 = .ok (.ldc2_w 53, 3) := by decide +kernel
theorem dX2_isEndless_4 : decode cX2_isEndless 4 = .ok (.lcmp, 1) := by decide +kernel
theorem dX2_isEndless_5 : decode cX2_isEndless 5 = .ok (.ifCond .eq 11, 3) := by decide +kernel
theorem dX2_isEndless_8 : decode cX2_isEndless 8 = .ok (.lload_n 0, 1) := by decide +kernel
theorem dX2_isEndless_9 : decode cX2_isEndless 9 = .ok (.ldc2_w 55, 3) := by decide +kernel
theorem dX2_isEndless_12 : decode cX2_isEndless 12 = .ok (.lcmp, 1) := by decide +kernel
theorem dX2_isEndless_13 : decode cX2_isEndless 13 = .ok (.ifCond .ne 7, 3) := by decide +kernel
theorem dX2_isEndless_16 : decode cX2_isEndless 16 = .ok (.iconst 1, 1) := by decide +kernel
theorem dX2_isEndless_17 : decode cX2_isEndless 17 = .ok (.goto 4, 3) := by decide +kernel
theorem dX2_isEndless_20 : decode cX2_isEndless 20 = .ok (.iconst 0, 1) := by decide +kernel
theorem dX2_isEndless_21 : decode cX2_isEndless 21 = .ok (.ireturn, 1) := by decide +kernel
theorem dX2_plus_0 : decode cX2_plus 0 = .ok (.lload_n 0, 1) := by decide +kernel
theorem dX2_plus_1 : decode cX2_plus 1 = .ok (.invokestatic 135, 3) := by decide +kernel
theorem dX2_plus_4 : decode cX2_plus 4 = .ok (.ifCond .eq 5, 3) := by decide +kernel
theorem dX2_plus_7 : decode cX2_plus 7 = .ok (.lload_n 0, 1) := by decide +kernel
theorem dX2_plus_8 : decode cX2_plus 8 = .ok (.lreturn, 1) := by decide +kernel
theorem dX2_plus_9 : decode cX2_plus 9 = .ok (.lload_n 2, 1) := by decide +kernel
theorem dX2_plus_10 : decode cX2_plus 10 = .ok (.invokestatic 135, 3) := by decide +kernel
theorem dX2_plus_13 : decode cX2_plus 13 = .ok (.ifCond .eq 7, 3) := by decide +kernel
theorem dX2_plus_16 : decode cX2_plus 16 = .ok (.lload_n 2, 1) := by decide +kernel
theorem dX2_plus_17 : decode cX2_plus 17 = .ok (.goto 6, 3) := by decide +kernel
theorem dX2_plus_20 : decode cX2_plus 20 = .ok (.lload_n 0, 1) := by decide +kernel
theorem dX2_plus_21 : decode cX2_plus 21 = .ok (.lload_n 2, 1) := by decide +kernel
theorem dX2_plus_22 : decode cX2_plus 22 = .ok (.ladd, 1) := by decide +kernel
theorem dX2_plus_23 : decode cX2_plus 23 = .ok (.lreturn, 1) := by decide +kernel
theorem dX2_productNotAbove_0 : decode cX2_productNotAbove 0 = .ok (.lload_n 1, 1) := by decide +kernel
theorem dX2_productNotAbove_1 : decode cX2_productNotAbove 1 = .ok (.lconst 0, 1) := by decide +kernel
theorem dX2_productNotAbove_2 : decode cX2_productNotAbove 2 = .ok (.lcmp, 1) := by decide +kernel
theorem dX2_productNotAbove_3 : decode cX2_productNotAbove 3 = .ok (.ifCond .eq 9, 3) := by decide +kernel
theorem dX2_productNotAbove_6 : decode cX2_productNotAbove 6 = .ok (.lload_n 3, 1) := by decide +kernel
theorem dX2_productNotAbove_7 : decode cX2_productNotAbove 7 = .ok (.lconst 0, 1) := by decide +kernel
theorem dX2_productNotAbove_8 : decode cX2_productNotAbove 8 = .ok (.lcmp, 1) := by decide +kernel
theorem dX2_productNotAbove_9 : decode cX2_productNotAbove 9 = .ok (.ifCond .ne 5, 3) := by decide +kernel
theorem dX2_productNotAbove_12 : decode cX2_productNotAbove 12 = .ok (.lconst 0, 1) := by decide +kernel
theorem dX2_productNotAbove_13 : decode cX2_productNotAbove 13 = .ok (.lreturn, 1) := by decide +kernel
theorem dX2_productNotAbove_14 : decode cX2_productNotAbove 14 = .ok (.lload_n 1, 1) := by decide +kernel
theorem dX2_productNotAbove_15 : decode cX2_productNotAbove 15 = .ok (.invokestatic 135, 3) := by decide +kernel
theorem dX2_productNotAbove_18 : decode cX2_productNotAbove 18 = .ok (.ifCond .ne 10, 3) := by decide +kernel
theorem dX2_productNotAbove_21 : decode cX2_productNotAbove 21 = .ok (.lload_n 3, 1) := by decide +kernel
theorem dX2_productNotAbove_22 : decode cX2_productNotAbove 22 = .ok (.invokestatic 135, 3) := by decide +kernel
theorem dX2_productNotAbove_25 : decode cX2_productNotAbove 25 = .ok (.ifCond .eq 38, 3) := by decide +kernel
theorem dX2_productNotAbove_28 : decode cX2_productNotAbove 28 = .ok (.lload_n 1, 1) := by decide +kernel
theorem dX2_productNotAbove_29 : decode cX2_productNotAbove 29 = .ok (.lconst 0, 1) := by decide +kernel
theorem dX2_productNotAbove_30 : decode cX2_productNotAbove 30 = .ok (.lcmp, 1) := by decide +kernel
theorem dX2_productNotAbove_31 : decode cX2_productNotAbove 31 = .ok (.ifCond .ge 7, 3) := by decide +kernel
theorem dX2_productNotAbove_34 : decode cX2_productNotAbove 34 = .ok (.iconst 1, 1) := by decide +kernel
theorem dX2_productNotAbove_35 : decode cX2_productNotAbove 35 = .ok (.goto 4, 3) := by decide +kernel
theorem dX2_productNotAbove_38 : decode cX2_productNotAbove 38 = .ok (.iconst 0, 1) := by decide +kernel
theorem dX2_productNotAbove_39 : decode cX2_productNotAbove 39 = .ok (.lload_n 3, 1) := by decide +kernel
theorem dX2_productNotAbove_40 : decode cX2_productNotAbove 40 = .ok (.lconst 0, 1) := by decide +kernel
theorem dX2_productNotAbove_41 : decode cX2_productNotAbove 41 = .ok (.lcmp, 1) := by decide +kernel
theorem dX2_productNotAbove_42 : decode cX2_productNotAbove 42 = .ok (.ifCond .ge 7, 3) := by decide +kernel
theorem dX2_productNotAbove_45 : decode cX2_productNotAbove 45 = .ok (.iconst 1, 1) := by decide +kernel
theorem dX2_productNotAbove_46 : decode cX2_productNotAbove 46 = .ok (.goto 4, 3) := by decide +kernel
theorem dX2_productNotAbove_49 : decode cX2_productNotAbove 49 = .ok (.iconst 0, 1) := by decide +kernel
theorem dX2_productNotAbove_50 : decode cX2_productNotAbove 50 = .ok (.if_icmp .ne 9, 3) := by decide +kernel
theorem dX2_productNotAbove_53 : decode cX2_productNotAbove 53 = .ok (.ldc2_w 53, 3) := by decide +kernel
theorem dX2_productNotAbove_56 : decode cX2_productNotAbove 56 = .ok (.goto 6, 3) := by decide +kernel
theorem dX2_productNotAbove_59 : decode cX2_productNotAbove 59 = .ok (.ldc2_w 55, 3) := by decide +kernel
theorem dX2_productNotAbove_62 : decode cX2_productNotAbove 62 = .ok (.lreturn, 1) := by decide +kernel
theorem dX2_productNotAbove_63 : decode cX2_productNotAbove 63 = .ok (.lload_n 1, 1) := by decide +kernel
theorem dX2_productNotAbove_64 : decode cX2_productNotAbove 64 = .ok (.lload_n 3, 1) := by decide +kernel
theorem dX2_productNotAbove_65 : decode cX2_productNotAbove 65 = .ok (.lmul, 1) := by decide +kernel
theorem dX2_productNotAbove_66 : decode cX2_productNotAbove 66 = .ok (.aload_n 0, 1) := by decide +kernel
theorem dX2_productNotAbove_67 : decode cX2_productNotAbove 67 = .ok (.getfield 12, 3) := by decide +kernel
theorem dX2_productNotAbove_70 : decode cX2_productNotAbove 70 = .ok (.invokevirtual 183, 3) := by decide +kernel
theorem dX2_productNotAbove_73 : decode cX2_productNotAbove 73 = .ok (.lshr, 1) := by decide +kernel
theorem dX2_productNotAbove_74 : decode cX2_productNotAbove 74 = .ok (.lreturn, 1) := by decide +kernel
theorem dX2_productNotBelow_0 : decode cX2_productNotBelow 0 = .ok (.aload_n 0, 1) := by decide +kernel
theorem dX2_productNotBelow_1 : decode cX2_productNotBelow 1 = .ok (.lload_n 1, 1) := by decide +kernel
theorem dX2_productNotBelow_2 : decode cX2_productNotBelow 2 = .ok (.lneg, 1) := by decide +kernel
theorem dX2_productNotBelow_3 : decode cX2_productNotBelow 3 = .ok (.lload_n 3, 1) := by decide +kernel
theorem dX2_productNotBelow_4 : decode cX2_productNotBelow 4 = .ok (.invokevirtual 166, 3) := by decide +kernel
theorem dX2_productNotBelow_7 : decode cX2_productNotBelow 7 = .ok (.lneg, 1) := by decide +kernel
theorem dX2_productNotBelow_8 : decode cX2_productNotBelow 8 = .ok (.lreturn, 1) := by decide +kernel
