theorem dX2_has_0 : decode cX2_has 0 = .ok (.aload_n 0, 1) := by decide +kernel
theorem dX2_has_1 : decode cX2_has 1 = .ok (.iload_n 1, 1) := by decide +kernel
theorem dX2_has_2 : decode cX2_has 2 = .ok (.invokevirtual 95, 3) := by decide +kernel
theorem dX2_has_5 : decode cX2_has 5 = .ok (.ifCond .eq 14, 3) := by decide +kernel
theorem dX2_has_8 : decode cX2_has 8 = .ok (.aload_n 0, 1) := by decide +kernel
theorem dX2_has_9 : decode cX2_has 9 = .ok (.getfield 12, 3) := by decide +kernel
theorem dX2_has_12 : decode cX2_has 12 = .ok (.iload_n 2, 1) := by decide +kernel
theorem dX2_has_13 : decode cX2_has 13 = .ok (.invokevirtual 46, 3) := by decide +kernel
theorem dX2_has_16 : decode cX2_has 16 = .ok (.ifCond .ne 5, 3) := by decide +kernel
theorem dX2_has_19 : decode cX2_has 19 = .ok (.iconst 0, 1) := by decide +kernel
theorem dX2_has_20 : decode cX2_has 20 = .ok (.ireturn, 1) := by decide +kernel
theorem dX2_has_21 : decode cX2_has 21 = .ok (.aload_n 0, 1) := by decide +kernel
theorem dX2_has_22 : decode cX2_has 22 = .ok (.getfield 12, 3) := by decide +kernel
theorem dX2_has_25 : decode cX2_has 25 = .ok (.iload_n 2, 1) := by decide +kernel
theorem dX2_has_26 : decode cX2_has 26 = .ok (.invokevirtual 49, 3) := by decide +kernel
theorem dX2_has_29 : decode cX2_has 29 = .ok (.lstore_n 3, 1) := by decide +kernel
theorem dX2_has_30 : decode cX2_has 30 = .ok (.lload_n 3, 1) := by decide +kernel
theorem dX2_has_31 : decode cX2_has 31 = .ok (.invokestatic 135, 3) := by decide +kernel
theorem dX2_has_34 : decode cX2_has 34 = .ok (.ifCond .ne 35, 3) := by decide +kernel
theorem dX2_has_37 : decode cX2_has 37 = .ok (.aload_n 0, 1) := by decide +kernel
theorem dX2_has_38 : decode cX2_has 38 = .ok (.getfield 20, 3) := by decide +kernel
theorem dX2_has_41 : decode cX2_has 41 = .ok (.iload_n 1, 1) := by decide +kernel
theorem dX2_has_42 : decode cX2_has 42 = .ok (.aaload, 1) := by decide +kernel
theorem dX2_has_43 : decode cX2_has 43 = .ok (.getfield 103, 3) := by decide +kernel
theorem dX2_has_46 : decode cX2_has 46 = .ok (.lload_n 3, 1) := by decide +kernel
theorem dX2_has_47 : decode cX2_has 47 = .ok (.lcmp, 1) := by decide +kernel
theorem dX2_has_48 : decode cX2_has 48 = .ok (.ifCond .gt 21, 3) := by decide +kernel
theorem dX2_has_51 : decode cX2_has 51 = .ok (.lload_n 3, 1) := by decide +kernel
theorem dX2_has_52 : decode cX2_has 52 = .ok (.aload_n 0, 1) := by decide +kernel
theorem dX2_has_53 : decode cX2_has 53 = .ok (.getfield 20, 3) := by decide +kernel
theorem dX2_has_56 : decode cX2_has 56 = .ok (.iload_n 1, 1) := by decide +kernel
theorem dX2_has_57 : decode cX2_has 57 = .ok (.aaload, 1) := by decide +kernel
theorem dX2_has_58 : decode cX2_has 58 = .ok (.getfield 111, 3) := by decide +kernel
theorem dX2_has_61 : decode cX2_has 61 = .ok (.lcmp, 1) := by decide +kernel
theorem dX2_has_62 : decode cX2_has 62 = .ok (.ifCond .gt 7, 3) := by decide +kernel
theorem dX2_has_65 : decode cX2_has 65 = .ok (.iconst 1, 1) := by decide +kernel
theorem dX2_has_66 : decode cX2_has 66 = .ok (.goto 4, 3) := by decide +kernel
theorem dX2_has_69 : decode cX2_has 69 = .ok (.iconst 0, 1) := by decide +kernel
theorem dX2_has_70 : decode cX2_has 70 = .ok (.ireturn, 1) := by decide +kernel
theorem dX2_isPlace_0 : decode cX2_isPlace 0 = .ok (.iload_n 0, 1) := by decide +kernel
theorem dX2_isPlace_1 : decode cX2_isPlace 1 = .ok (.ifCond .lt 13, 3) := by decide +kernel
theorem dX2_isPlace_4 : decode cX2_isPlace 4 = .ok (.iload_n 0, 1) := by decide +kernel
theorem dX2_isPlace_5 : decode cX2_isPlace 5 = .ok (.bipush 8, 2) := by decide +kernel
theorem dX2_isPlace_7 : decode cX2_isPlace 7 = .ok (.if_icmp .ge 7, 3) := by decide +kernel
theorem dX2_isPlace_10 : decode cX2_isPlace 10 = .ok (.iconst 1, 1) := by decide +kernel
theorem dX2_isPlace_11 : decode cX2_isPlace 11 = .ok (.goto 4, 3) := by decide +kernel
theorem dX2_isPlace_14 : decode cX2_isPlace 14 = .ok (.iconst 0, 1) := by decide +kernel
theorem dX2_isPlace_15 : decode cX2_isPlace 15 = .ok (.ireturn, 1) := by decide +kernel
theorem dX2_isFilled_0 : decode cX2_isFilled 0 = .ok (.iload_n 1, 1) := by decide +kernel
theorem dX2_isFilled_1 : decode cX2_isFilled 1 = .ok (.invokestatic 42, 3) := by decide +kernel
theorem dX2_isFilled_4 : decode cX2_isFilled 4 = .ok (.ifCond .eq 19, 3) := by decide +kernel
theorem dX2_isFilled_7 : decode cX2_isFilled 7 = .ok (.aload_n 0, 1) := by decide +kernel
theorem dX2_isFilled_8 : decode cX2_isFilled 8 = .ok (.getfield 20, 3) := by decide +kernel
theorem dX2_isFilled_11 : decode cX2_isFilled 11 = .ok (.iload_n 1, 1) := by decide +kernel
theorem dX2_isFilled_12 : decode cX2_isFilled 12 = .ok (.aaload, 1) := by decide +kernel
theorem dX2_isFilled_13 : decode cX2_isFilled 13 = .ok (.invokevirtual 139, 3) := by decide +kernel
theorem dX2_isFilled_16 : decode cX2_isFilled 16 = .ok (.ifCond .ne 7, 3) := by decide +kernel
theorem dX2_isFilled_19 : decode cX2_isFilled 19 = .ok (.iconst 1, 1) := by decide +kernel
theorem dX2_isFilled_20 : decode cX2_isFilled 20 = .ok (.goto 4, 3) := by decide +kernel
theorem dX2_isFilled_23 : decode cX2_isFilled 23 = .ok (.iconst 0, 1) := by decide +kernel
theorem dX2_isFilled_24 : decode cX2_isFilled 24 = .ok (.ireturn, 1) := by decide +kernel
theorem dX2_keep_0 : decode cX2_keep 0 = .ok (.aload_n 1, 1) := by decide +kernel
theorem dX2_keep_1 : decode cX2_keep 1 = .ok (.invokevirtual 139, 3) := by decide +kernel
theorem dX2_keep_4 : decode cX2_keep 4 = .ok (.ifCond .eq 10, 3) := by decide +kernel
theorem dX2_keep_7 : decode cX2_keep 7 = .ok (.aload_n 2, 1) := by decide +kernel
theorem dX2_keep_8 : decode cX2_keep 8 = .ok (.invokevirtual 39, 3) := by decide +kernel
theorem dX2_keep_11 : decode cX2_keep 11 = .ok (.goto 29, 3) := by decide +kernel
theorem dX2_keep_14 : decode cX2_keep 14 = .ok (.aload_n 2, 1) := by decide +kernel
theorem dX2_keep_15 : decode cX2_keep 15 = .ok (.aload_n 0, 1) := by decide +kernel
theorem dX2_keep_16 : decode cX2_keep 16 = .ok (.getfield 12, 3) := by decide +kernel
theorem dX2_keep_19 : decode cX2_keep 19 = .ok (.aload_n 1, 1) := by decide +kernel
theorem dX2_keep_20 : decode cX2_keep 20 = .ok (.getfield 103, 3) := by decide +kernel
theorem dX2_keep_23 : decode cX2_keep 23 = .ok (.invokevirtual 142, 3) := by decide +kernel
theorem dX2_keep_26 : decode cX2_keep 26 = .ok (.aload_n 0, 1) := by decide +kernel
theorem dX2_keep_27 : decode cX2_keep 27 = .ok (.getfield 12, 3) := by decide +kernel
theorem dX2_keep_30 : decode cX2_keep 30 = .ok (.aload_n 1, 1) := by decide +kernel
theorem dX2_keep_31 : decode cX2_keep 31 = .ok (.getfield 111, 3) := by decide +kernel
theorem dX2_keep_34 : decode cX2_keep 34 = .ok (.invokevirtual 127, 3) := by decide +kernel
theorem dX2_keep_37 : decode cX2_keep 37 = .ok (.invokevirtual 57, 3) := by decide +kernel
theorem dX2_keep_40 : decode cX2_keep 40 = .ok (.aload_n 2, 1) := by decide +kernel
theorem dX2_keep_41 : decode cX2_keep 41 = .ok (.invokevirtual 91, 3) := by decide +kernel
theorem dX2_keep_44 : decode cX2_keep 44 = .ok (.ireturn, 1) := by decide +kernel
theorem dX2_reckonTwo_0 : decode cX2_reckonTwo 0 = .ok (.iload_n 1, 1) := by decide +kernel
theorem dX2_reckonTwo_1 : decode cX2_reckonTwo 1 = .ok (.iconst 4, 1) := by decide +kernel
theorem dX2_reckonTwo_2 : decode cX2_reckonTwo 2 = .ok (.if_icmp .ne 10, 3) := by decide +kernel
theorem dX2_reckonTwo_5 : decode cX2_reckonTwo 5 = .ok (.aload_n 0, 1) := by decide +kernel
theorem dX2_reckonTwo_6 : decode cX2_reckonTwo 6 = .ok (.aload_n 2, 1) := by decide +kernel
theorem dX2_reckonTwo_7 : decode cX2_reckonTwo 7 = .ok (.aload_n 3, 1) := by decide +kernel
theorem dX2_reckonTwo_8 : decode cX2_reckonTwo 8 = .ok (.invokevirtual 145, 3) := by decide +kernel
theorem dX2_reckonTwo_11 : decode cX2_reckonTwo 11 = .ok (.return_, 1) := by decide +kernel
theorem dX2_reckonTwo_12 : decode cX2_reckonTwo 12 = .ok (.aload_n 2, 1) := by decide +kernel
theorem dX2_reckonTwo_13 : decode cX2_reckonTwo 13 = .ok (.invokevirtual 139, 3) := by decide +kernel
theorem dX2_reckonTwo_16 : decode cX2_reckonTwo 16 = .ok (.ifCond .ne 10, 3) := by decide +kernel
theorem dX2_reckonTwo_19 : decode cX2_reckonTwo 19 = .ok (.aload_n 3, 1) := by decide +kernel
theorem dX2_reckonTwo_20 : decode cX2_reckonTwo 20 = .ok (.invokevirtual 139, 3) := by decide +kernel
theorem dX2_reckonTwo_23 : decode cX2_reckonTwo 23 = .ok (.ifCond .eq 11, 3) := by decide +kernel
theorem dX2_reckonTwo_26 : decode cX2_reckonTwo 26 = .ok (.aload_n 0, 1) := by decide +kernel
theorem dX2_reckonTwo_27 : decode cX2_reckonTwo 27 = .ok (.getfield 25, 3) := by decide +kernel
theorem dX2_reckonTwo_30 : decode cX2_reckonTwo 30 = .ok (.invokevirtual 39, 3) := by decide +kernel
theorem dX2_reckonTwo_33 : decode cX2_reckonTwo 33 = .ok (.return_, 1) := by decide +kernel
theorem dX2_reckonTwo_34 : decode cX2_reckonTwo 34 = .ok (.iload_n 1, 1) := by decide +kernel
theorem dX2_reckonTwo_35 : decode cX2_reckonTwo 35 = .ok (.tableswitch 214 0 7 #[45, 77, 111, 120, 214, 141, 150, 182], 45) := by decide +kernel
theorem dX2_reckonTwo_80 : decode cX2_reckonTwo 80 = .ok (.aload_n 0, 1) := by decide +kernel
theorem dX2_reckonTwo_81 : decode cX2_reckonTwo 81 = .ok (.getfield 25, 3) := by decide +kernel
theorem dX2_reckonTwo_84 : decode cX2_reckonTwo 84 = .ok (.aload_n 2, 1) := by decide +kernel
theorem dX2_reckonTwo_85 : decode cX2_reckonTwo 85 = .ok (.getfield 103, 3) := by decide +kernel
theorem dX2_reckonTwo_88 : decode cX2_reckonTwo 88 = .ok (.aload_n 3, 1) := by decide +kernel
theorem dX2_reckonTwo_89 : decode cX2_reckonTwo 89 = .ok (.getfield 103, 3) := by decide +kernel
theorem dX2_reckonTwo_92 : decode cX2_reckonTwo 92 = .ok (.invokestatic 123, 3) := by decide +kernel
theorem dX2_reckonTwo_95 : decode cX2_reckonTwo 95 = .ok (.aload_n 2, 1) := by decide +kernel
theorem dX2_reckonTwo_96 : decode cX2_reckonTwo 96 = .ok (.getfield 111, 3) := by decide +kernel
theorem dX2_reckonTwo_99 : decode cX2_reckonTwo 99 = .ok (.aload_n 3, 1) := by decide +kernel
theorem dX2_reckonTwo_100 : decode cX2_reckonTwo 100 = .ok (.getfield 111, 3) := by decide +kernel
theorem dX2_reckonTwo_103 : decode cX2_reckonTwo 103 = .ok (.invokestatic 123, 3) := by decide +kernel
theorem dX2_reckonTwo_106 : decode cX2_reckonTwo 106 = .ok (.invokevirtual 57, 3) := by decide +kernel
theorem dX2_reckonTwo_109 : decode cX2_reckonTwo 109 = .ok (.goto 147, 3) := by decide +kernel
theorem dX2_reckonTwo_112 : decode cX2_reckonTwo 112 = .ok (.aload_n 0, 1) := by decide +kernel
theorem dX2_reckonTwo_113 : decode cX2_reckonTwo 113 = .ok (.getfield 25, 3) := by decide +kernel
theorem dX2_reckonTwo_116 : decode cX2_reckonTwo 116 = .ok (.aload_n 2, 1) := by decide +kernel
theorem dX2_reckonTwo_117 : decode cX2_reckonTwo 117 = .ok (.getfield 103, 3) := by decide +kernel
theorem dX2_reckonTwo_120 : decode cX2_reckonTwo 120 = .ok (.aload_n 3, 1) := by decide +kernel
theorem dX2_reckonTwo_121 : decode cX2_reckonTwo 121 = .ok (.getfield 111, 3) := by decide +kernel
theorem dX2_reckonTwo_124 : decode cX2_reckonTwo 124 = .ok (.lneg, 1) := by decide +kernel
theorem dX2_reckonTwo_125 : decode cX2_reckonTwo 125 = .ok (.invokestatic 123, 3) := by decide +kernel
theorem dX2_reckonTwo_128 : decode cX2_reckonTwo 128 = .ok (.aload_n 2, 1) := by decide +kernel
theorem dX2_reckonTwo_129 : decode cX2_reckonTwo 129 = .ok (.getfield 111, 3) := by decide +kernel
theorem dX2_reckonTwo_132 : decode cX2_reckonTwo 132 = .ok (.aload_n 3, 1) := by decide +kernel
theorem dX2_reckonTwo_133 : decode cX2_reckonTwo 133 = .ok (.getfield 103, 3) := by decide +kernel
theorem dX2_reckonTwo_136 : decode cX2_reckonTwo 136 = .ok (.lneg, 1) := by decide +kernel
theorem dX2_reckonTwo_137 : decode cX2_reckonTwo 137 = .ok (.invokestatic 123, 3) := by decide +kernel
theorem dX2_reckonTwo_140 : decode cX2_reckonTwo 140 = .ok (.invokevirtual 57, 3) := by decide +kernel
theorem dX2_reckonTwo_143 : decode cX2_reckonTwo 143 = .ok (.goto 113, 3) := by decide +kernel
theorem dX2_reckonTwo_146 : decode cX2_reckonTwo 146 = .ok (.aload_n 0, 1) := by decide +kernel
theorem dX2_reckonTwo_147 : decode cX2_reckonTwo 147 = .ok (.aload_n 2, 1) := by decide +kernel
theorem dX2_reckonTwo_148 : decode cX2_reckonTwo 148 = .ok (.aload_n 3, 1) := by decide +kernel
theorem dX2_reckonTwo_149 : decode cX2_reckonTwo 149 = .ok (.invokevirtual 148, 3) := by decide +kernel
theorem dX2_reckonTwo_152 : decode cX2_reckonTwo 152 = .ok (.goto 104, 3) := by decide +kernel
theorem dX2_reckonTwo_155 : decode cX2_reckonTwo 155 = .ok (.aload_n 0, 1) := by decide +kernel
theorem dX2_reckonTwo_156 : decode cX2_reckonTwo 156 = .ok (.aload_n 2, 1) := by decide +kernel
theorem dX2_reckonTwo_157 : decode cX2_reckonTwo 157 = .ok (.aload_n 3, 1) := by decide +kernel
theorem dX2_reckonTwo_158 : decode cX2_reckonTwo 158 = .ok (.invokevirtual 82, 3) := by decide +kernel
theorem dX2_reckonTwo_161 : decode cX2_reckonTwo 161 = .ok (.aload_n 0, 1) := by decide +kernel
theorem dX2_reckonTwo_162 : decode cX2_reckonTwo 162 = .ok (.aload_n 0, 1) := by decide +kernel
theorem dX2_reckonTwo_163 : decode cX2_reckonTwo 163 = .ok (.getfield 25, 3) := by decide +kernel
theorem dX2_reckonTwo_166 : decode cX2_reckonTwo 166 = .ok (.aload_n 0, 1) := by decide +kernel
theorem dX2_reckonTwo_167 : decode cX2_reckonTwo 167 = .ok (.getfield 29, 3) := by decide +kernel
theorem dX2_reckonTwo_170 : decode cX2_reckonTwo 170 = .ok (.invokevirtual 145, 3) := by decide +kernel
theorem dX2_reckonTwo_173 : decode cX2_reckonTwo 173 = .ok (.goto 83, 3) := by decide +kernel
theorem dX2_reckonTwo_176 : decode cX2_reckonTwo 176 = .ok (.aload_n 0, 1) := by decide +kernel
theorem dX2_reckonTwo_177 : decode cX2_reckonTwo 177 = .ok (.aload_n 2, 1) := by decide +kernel
theorem dX2_reckonTwo_178 : decode cX2_reckonTwo 178 = .ok (.aload_n 3, 1) := by decide +kernel
theorem dX2_reckonTwo_179 : decode cX2_reckonTwo 179 = .ok (.invokevirtual 151, 3) := by decide +kernel
theorem dX2_reckonTwo_182 : decode cX2_reckonTwo 182 = .ok (.goto 74, 3) := by decide +kernel
theorem dX2_reckonTwo_185 : decode cX2_reckonTwo 185 = .ok (.aload_n 0, 1) := by decide +kernel
theorem dX2_reckonTwo_186 : decode cX2_reckonTwo 186 = .ok (.getfield 25, 3) := by decide +kernel
theorem dX2_reckonTwo_189 : decode cX2_reckonTwo 189 = .ok (.aload_n 2, 1) := by decide +kernel
theorem dX2_reckonTwo_190 : decode cX2_reckonTwo 190 = .ok (.getfield 103, 3) := by decide +kernel
theorem dX2_reckonTwo_193 : decode cX2_reckonTwo 193 = .ok (.aload_n 3, 1) := by decide +kernel
theorem dX2_reckonTwo_194 : decode cX2_reckonTwo 194 = .ok (.getfield 103, 3) := by decide +kernel
theorem dX2_reckonTwo_197 : decode cX2_reckonTwo 197 = .ok (.invokestatic 154, 3) := by decide +kernel
theorem dX2_reckonTwo_200 : decode cX2_reckonTwo 200 = .ok (.aload_n 2, 1) := by decide +kernel
theorem dX2_reckonTwo_201 : decode cX2_reckonTwo 201 = .ok (.getfield 111, 3) := by decide +kernel
theorem dX2_reckonTwo_204 : decode cX2_reckonTwo 204 = .ok (.aload_n 3, 1) := by decide +kernel
theorem dX2_reckonTwo_205 : decode cX2_reckonTwo 205 = .ok (.getfield 111, 3) := by decide +kernel
theorem dX2_reckonTwo_208 : decode cX2_reckonTwo 208 = .ok (.invokestatic 154, 3) := by decide +kernel
theorem dX2_reckonTwo_211 : decode cX2_reckonTwo 211 = .ok (.invokevirtual 57, 3) := by decide +kernel
theorem dX2_reckonTwo_214 : decode cX2_reckonTwo 214 = .ok (.goto 42, 3) := by decide +kernel
theorem dX2_reckonTwo_217 : decode cX2_reckonTwo 217 = .ok (.aload_n 0, 1) := by decide +kernel
theorem dX2_reckonTwo_218 : decode cX2_reckonTwo 218 = .ok (.getfield 25, 3) := by decide +kernel
theorem dX2_reckonTwo_221 : decode cX2_reckonTwo 221 = .ok (.aload_n 2, 1) := by decide +kernel
theorem dX2_reckonTwo_222 : decode cX2_reckonTwo 222 = .ok (.getfield 103, 3) := by decide +kernel
theorem dX2_reckonTwo_225 : decode cX2_reckonTwo 225 = .ok (.aload_n 3, 1) := by decide +kernel
theorem dX2_reckonTwo_226 : decode cX2_reckonTwo 226 = .ok (.getfield 103, 3) := by decide +kernel
theorem dX2_reckonTwo_229 : decode cX2_reckonTwo 229 = .ok (.invokestatic 159, 3) := by decide +kernel
theorem dX2_reckonTwo_232 : decode cX2_reckonTwo 232 = .ok (.aload_n 2, 1) := by decide +kernel
theorem dX2_reckonTwo_233 : decode cX2_reckonTwo 233 = .ok (.getfield 111, 3) := by decide +kernel
theorem dX2_reckonTwo_236 : decode cX2_reckonTwo 236 = .ok (.aload_n 3, 1) := by decide +kernel
theorem dX2_reckonTwo_237 : decode cX2_reckonTwo 237 = .ok (.getfield 111, 3) := by decide +kernel
theorem dX2_reckonTwo_240 : decode cX2_reckonTwo 240 = .ok (.invokestatic 159, 3) := by decide +kernel
theorem dX2_reckonTwo_243 : decode cX2_reckonTwo 243 = .ok (.invokevirtual 57, 3) := by decide +kernel
theorem dX2_reckonTwo_246 : decode cX2_reckonTwo 246 = .ok (.goto 10, 3) := by decide +kernel
theorem dX2_reckonTwo_249 : decode cX2_reckonTwo 249 = .ok (.aload_n 0, 1) := by decide +kernel
theorem dX2_reckonTwo_250 : decode cX2_reckonTwo 250 = .ok (.getfield 25, 3) := by decide +kernel
theorem dX2_reckonTwo_253 : decode cX2_reckonTwo 253 = .ok (.invokevirtual 39, 3) := by decide +kernel
theorem dX2_reckonTwo_256 : decode cX2_reckonTwo 256 = .ok (.return_, 1) := by decide +kernel
theorem dX2_reckonOne_0 : decode cX2_reckonOne 0 = .ok (.aload_n 2, 1) := by decide +kernel
theorem dX2_reckonOne_1 : decode cX2_reckonOne 1 = .ok (.invokevirtual 139, 3) := by decide +kernel
theorem dX2_reckonOne_4 : decode cX2_reckonOne 4 = .ok (.ifCond .eq 11, 3) := by decide +kernel
theorem dX2_reckonOne_7 : decode cX2_reckonOne 7 = .ok (.aload_n 0, 1) := by decide +kernel
theorem dX2_reckonOne_8 : decode cX2_reckonOne 8 = .ok (.getfield 25, 3) := by decide +kernel
theorem dX2_reckonOne_11 : decode cX2_reckonOne 11 = .ok (.invokevirtual 39, 3) := by decide +kernel
theorem dX2_reckonOne_14 : decode cX2_reckonOne 14 = .ok (.return_, 1) := by decide +kernel
theorem dX2_reckonOne_15 : decode cX2_reckonOne 15 = .ok (.iload_n 1, 1) := by decide +kernel
theorem dX2_reckonOne_16 : decode cX2_reckonOne 16 = .ok (.tableswitch 119 8 11 #[32, 52, 103, 111], 32) := by decide +kernel
theorem dX2_reckonOne_48 : decode cX2_reckonOne 48 = .ok (.aload_n 0, 1) := by decide +kernel
theorem dX2_reckonOne_49 : decode cX2_reckonOne 49 = .ok (.getfield 25, 3) := by decide +kernel
theorem dX2_reckonOne_52 : decode cX2_reckonOne 52 = .ok (.aload_n 2, 1) := by decide +kernel
theorem dX2_reckonOne_53 : decode cX2_reckonOne 53 = .ok (.getfield 111, 3) := by decide +kernel
theorem dX2_reckonOne_56 : decode cX2_reckonOne 56 = .ok (.lneg, 1) := by decide +kernel
theorem dX2_reckonOne_57 : decode cX2_reckonOne 57 = .ok (.aload_n 2, 1) := by decide +kernel
theorem dX2_reckonOne_58 : decode cX2_reckonOne 58 = .ok (.getfield 103, 3) := by decide +kernel
theorem dX2_reckonOne_61 : decode cX2_reckonOne 61 = .ok (.lneg, 1) := by decide +kernel
theorem dX2_reckonOne_62 : decode cX2_reckonOne 62 = .ok (.invokevirtual 57, 3) := by decide +kernel
theorem dX2_reckonOne_65 : decode cX2_reckonOne 65 = .ok (.goto 77, 3) := by decide +kernel
theorem dX2_reckonOne_68 : decode cX2_reckonOne 68 = .ok (.aload_n 0, 1) := by decide +kernel
theorem dX2_reckonOne_69 : decode cX2_reckonOne 69 = .ok (.aload_n 2, 1) := by decide +kernel
theorem dX2_reckonOne_70 : decode cX2_reckonOne 70 = .ok (.invokevirtual 162, 3) := by decide +kernel
theorem dX2_reckonOne_73 : decode cX2_reckonOne 73 = .ok (.aload_n 0, 1) := by decide +kernel
theorem dX2_reckonOne_74 : decode cX2_reckonOne 74 = .ok (.getfield 25, 3) := by decide +kernel
theorem dX2_reckonOne_77 : decode cX2_reckonOne 77 = .ok (.aload_n 0, 1) := by decide +kernel
theorem dX2_reckonOne_78 : decode cX2_reckonOne 78 = .ok (.aload_n 0, 1) := by decide +kernel
theorem dX2_reckonOne_79 : decode cX2_reckonOne 79 = .ok (.getfield 25, 3) := by decide +kernel
theorem dX2_reckonOne_82 : decode cX2_reckonOne 82 = .ok (.getfield 103, 3) := by decide +kernel
theorem dX2_reckonOne_85 : decode cX2_reckonOne 85 = .ok (.aload_n 0, 1) := by decide +kernel
theorem dX2_reckonOne_86 : decode cX2_reckonOne 86 = .ok (.getfield 25, 3) := by decide +kernel
theorem dX2_reckonOne_89 : decode cX2_reckonOne 89 = .ok (.getfield 103, 3) := by decide +kernel
theorem dX2_reckonOne_92 : decode cX2_reckonOne 92 = .ok (.invokevirtual 166, 3) := by decide +kernel
theorem dX2_reckonOne_95 : decode cX2_reckonOne 95 = .ok (.aload_n 0, 1) := by decide +kernel
theorem dX2_reckonOne_96 : decode cX2_reckonOne 96 = .ok (.aload_n 0, 1) := by decide +kernel
theorem dX2_reckonOne_97 : decode cX2_reckonOne 97 = .ok (.getfield 25, 3) := by decide +kernel
theorem dX2_reckonOne_100 : decode cX2_reckonOne 100 = .ok (.getfield 111, 3) := by decide +kernel
theorem dX2_reckonOne_103 : decode cX2_reckonOne 103 = .ok (.aload_n 0, 1) := by decide +kernel
theorem dX2_reckonOne_104 : decode cX2_reckonOne 104 = .ok (.getfield 25, 3) := by decide +kernel
theorem dX2_reckonOne_107 : decode cX2_reckonOne 107 = .ok (.getfield 111, 3) := by decide +kernel
theorem dX2_reckonOne_110 : decode cX2_reckonOne 110 = .ok (.invokevirtual 169, 3) := by decide +kernel
theorem dX2_reckonOne_113 : decode cX2_reckonOne 113 = .ok (.invokevirtual 57, 3) := by decide +kernel
theorem dX2_reckonOne_116 : decode cX2_reckonOne 116 = .ok (.goto 26, 3) := by decide +kernel
theorem dX2_reckonOne_119 : decode cX2_reckonOne 119 = .ok (.aload_n 0, 1) := by decide +kernel
theorem dX2_reckonOne_120 : decode cX2_reckonOne 120 = .ok (.aload_n 2, 1) := by decide +kernel
theorem dX2_reckonOne_121 : decode cX2_reckonOne 121 = .ok (.invokevirtual 172, 3) := by decide +kernel
theorem dX2_reckonOne_124 : decode cX2_reckonOne 124 = .ok (.goto 18, 3) := by decide +kernel
theorem dX2_reckonOne_127 : decode cX2_reckonOne 127 = .ok (.aload_n 0, 1) := by decide +kernel
theorem dX2_reckonOne_128 : decode cX2_reckonOne 128 = .ok (.aload_n 2, 1) := by decide +kernel
theorem dX2_reckonOne_129 : decode cX2_reckonOne 129 = .ok (.invokevirtual 162, 3) := by decide +kernel
theorem dX2_reckonOne_132 : decode cX2_reckonOne 132 = .ok (.goto 10, 3) := by decide +kernel
theorem dX2_reckonOne_135 : decode cX2_reckonOne 135 = .ok (.aload_n 0, 1) := by decide +kernel
theorem dX2_reckonOne_136 : decode cX2_reckonOne 136 = .ok (.getfield 25, 3) := by decide +kernel
theorem dX2_reckonOne_139 : decode cX2_reckonOne 139 = .ok (.invokevirtual 39, 3) := by decide +kernel
theorem dX2_reckonOne_142 : decode cX2_reckonOne 142 = .ok (.return_, 1) := by decide +kernel
theorem dX2_join_0 : decode cX2_join 0 = .ok (.aload_n 1, 1) := by decide +kernel
theorem dX2_join_1 : decode cX2_join 1 = .ok (.invokevirtual 139, 3) := by decide +kernel
theorem dX2_join_4 : decode cX2_join 4 = .ok (.ifCond .eq 21, 3) := by decide +kernel
theorem dX2_join_7 : decode cX2_join 7 = .ok (.aload_n 0, 1) := by decide +kernel
theorem dX2_join_8 : decode cX2_join 8 = .ok (.getfield 25, 3) := by decide +kernel
theorem dX2_join_11 : decode cX2_join 11 = .ok (.aload_n 2, 1) := by decide +kernel
theorem dX2_join_12 : decode cX2_join 12 = .ok (.getfield 103, 3) := by decide +kernel
theorem dX2_join_15 : decode cX2_join 15 = .ok (.aload_n 2, 1) := by decide +kernel
theorem dX2_join_16 : decode cX2_join 16 = .ok (.getfield 111, 3) := by decide +kernel
theorem dX2_join_19 : decode cX2_join 19 = .ok (.invokevirtual 57, 3) := by decide +kernel
theorem dX2_join_22 : decode cX2_join 22 = .ok (.goto 57, 3) := by decide +kernel
theorem dX2_join_25 : decode cX2_join 25 = .ok (.aload_n 2, 1) := by decide +kernel
theorem dX2_join_26 : decode cX2_join 26 = .ok (.invokevirtual 139, 3) := by decide +kernel
theorem dX2_join_29 : decode cX2_join 29 = .ok (.ifCond .eq 21, 3) := by decide +kernel
theorem dX2_join_32 : decode cX2_join 32 = .ok (.aload_n 0, 1) := by decide +kernel
theorem dX2_join_33 : decode cX2_join 33 = .ok (.getfield 25, 3) := by decide +kernel
theorem dX2_join_36 : decode cX2_join 36 = .ok (.aload_n 1, 1) := by decide +kernel
theorem dX2_join_37 : decode cX2_join 37 = .ok (.getfield 103, 3) := by decide +kernel
theorem dX2_join_40 : decode cX2_join 40 = .ok (.aload_n 1, 1) := by decide +kernel
theorem dX2_join_41 : decode cX2_join 41 = .ok (.getfield 111, 3) := by decide +kernel
theorem dX2_join_44 : decode cX2_join 44 = .ok (.invokevirtual 57, 3) := by decide +kernel
theorem dX2_join_47 : decode cX2_join 47 = .ok (.goto 32, 3) := by decide +kernel
theorem dX2_join_50 : decode cX2_join 50 = .ok (.aload_n 0, 1) := by decide +kernel
theorem dX2_join_51 : decode cX2_join 51 = .ok (.getfield 25, 3) := by decide +kernel
theorem dX2_join_54 : decode cX2_join 54 = .ok (.aload_n 1, 1) := by decide +kernel
theorem dX2_join_55 : decode cX2_join 55 = .ok (.getfield 103, 3) := by decide +kernel
theorem dX2_join_58 : decode cX2_join 58 = .ok (.aload_n 2, 1) := by decide +kernel
theorem dX2_join_59 : decode cX2_join 59 = .ok (.getfield 103, 3) := by decide +kernel
theorem dX2_join_62 : decode cX2_join 62 = .ok (.invokestatic 154, 3) := by decide +kernel
theorem dX2_join_65 : decode cX2_join 65 = .ok (.aload_n 1, 1) := by decide +kernel
theorem dX2_join_66 : decode cX2_join 66 = .ok (.getfield 111, 3) := by decide +kernel
theorem dX2_join_69 : decode cX2_join 69 = .ok (.aload_n 2, 1) := by decide +kernel
theorem dX2_join_70 : decode cX2_join 70 = .ok (.getfield 111, 3) := by decide +kernel
theorem dX2_join_73 : decode cX2_join 73 = .ok (.invokestatic 159, 3) := by decide +kernel
theorem dX2_join_76 : decode cX2_join 76 = .ok (.invokevirtual 57, 3) := by decide +kernel
theorem dX2_join_79 : decode cX2_join 79 = .ok (.return_, 1) := by decide +kernel
theorem dX2_meet_0 : decode cX2_meet 0 = .ok (.aload_n 1, 1) := by decide +kernel
theorem dX2_meet_1 : decode cX2_meet 1 = .ok (.getfield 103, 3) := by decide +kernel
theorem dX2_meet_4 : decode cX2_meet 4 = .ok (.aload_n 2, 1) := by decide +kernel
theorem dX2_meet_5 : decode cX2_meet 5 = .ok (.getfield 103, 3) := by decide +kernel
theorem dX2_meet_8 : decode cX2_meet 8 = .ok (.invokestatic 159, 3) := by decide +kernel
theorem dX2_meet_11 : decode cX2_meet 11 = .ok (.lstore_n 3, 1) := by decide +kernel
theorem dX2_meet_12 : decode cX2_meet 12 = .ok (.aload_n 1, 1) := by decide +kernel
theorem dX2_meet_13 : decode cX2_meet 13 = .ok (.getfield 111, 3) := by decide +kernel
theorem dX2_meet_16 : decode cX2_meet 16 = .ok (.aload_n 2, 1) := by decide +kernel
theorem dX2_meet_17 : decode cX2_meet 17 = .ok (.getfield 111, 3) := by decide +kernel
theorem dX2_meet_20 : decode cX2_meet 20 = .ok (.invokestatic 154, 3) := by decide +kernel
theorem dX2_meet_23 : decode cX2_meet 23 = .ok (.lstore 5, 2) := by decide +kernel
theorem dX2_meet_25 : decode cX2_meet 25 = .ok (.lload_n 3, 1) := by decide +kernel
theorem dX2_meet_26 : decode cX2_meet 26 = .ok (.lload 5, 2) := by decide +kernel
theorem dX2_meet_28 : decode cX2_meet 28 = .ok (.lcmp, 1) := by decide +kernel
theorem dX2_meet_29 : decode cX2_meet 29 = .ok (.ifCond .le 13, 3) := by decide +kernel
theorem dX2_meet_32 : decode cX2_meet 32 = .ok (.aload_n 0, 1) := by decide +kernel
theorem dX2_meet_33 : decode cX2_meet 33 = .ok (.getfield 25, 3) := by decide +kernel
theorem dX2_meet_36 : decode cX2_meet 36 = .ok (.invokevirtual 39, 3) := by decide +kernel
theorem dX2_meet_39 : decode cX2_meet 39 = .ok (.goto 13, 3) := by decide +kernel
theorem dX2_meet_42 : decode cX2_meet 42 = .ok (.aload_n 0, 1) := by decide +kernel
theorem dX2_meet_43 : decode cX2_meet 43 = .ok (.getfield 25, 3) := by decide +kernel
theorem dX2_meet_46 : decode cX2_meet 46 = .ok (.lload_n 3, 1) := by decide +kernel
theorem dX2_meet_47 : decode cX2_meet 47 = .ok (.lload 5, 2) := by decide +kernel
theorem dX2_meet_49 : decode cX2_meet 49 = .ok (.invokevirtual 57, 3) := by decide +kernel
theorem dX2_meet_52 : decode cX2_meet 52 = .ok (.return_, 1) := by decide +kernel
theorem dX2_add_0 : decode cX2_add 0 = .ok (.aload_n 0, 1) := by decide +kernel
theorem dX2_add_1 : decode cX2_add 1 = .ok (.invokevirtual 139, 3) := by decide +kernel
theorem dX2_add_4 : decode cX2_add 4 = .ok (.ifCond .ne 10, 3) := by decide +kernel
theorem dX2_add_7 : decode cX2_add 7 = .ok (.aload_n 1, 1) := by decide +kernel
theorem dX2_add_8 : decode cX2_add 8 = .ok (.invokevirtual 139, 3) := by decide +kernel
theorem dX2_add_11 : decode cX2_add 11 = .ok (.ifCond .eq 10, 3) := by decide +kernel
theorem dX2_add_14 : decode cX2_add 14 = .ok (.aload_n 0, 1) := by decide +kernel
theorem dX2_add_15 : decode cX2_add 15 = .ok (.invokevirtual 39, 3) := by decide +kernel
theorem dX2_add_18 : decode cX2_add 18 = .ok (.goto 29, 3) := by decide +kernel
theorem dX2_add_21 : decode cX2_add 21 = .ok (.aload_n 0, 1) := by decide +kernel
theorem dX2_add_22 : decode cX2_add 22 = .ok (.aload_n 0, 1) := by decide +kernel
theorem dX2_add_23 : decode cX2_add 23 = .ok (.getfield 103, 3) := by decide +kernel
theorem dX2_add_26 : decode cX2_add 26 = .ok (.aload_n 1, 1) := by decide +kernel
theorem dX2_add_27 : decode cX2_add 27 = .ok (.getfield 103, 3) := by decide +kernel
theorem dX2_add_30 : decode cX2_add 30 = .ok (.invokestatic 123, 3) := by decide +kernel
theorem dX2_add_33 : decode cX2_add 33 = .ok (.aload_n 0, 1) := by decide +kernel
theorem dX2_add_34 : decode cX2_add 34 = .ok (.getfield 111, 3) := by decide +kernel
theorem dX2_add_37 : decode cX2_add 37 = .ok (.aload_n 1, 1) := by decide +kernel
theorem dX2_add_38 : decode cX2_add 38 = .ok (.getfield 111, 3) := by decide +kernel
theorem dX2_add_41 : decode cX2_add 41 = .ok (.invokestatic 123, 3) := by decide +kernel
theorem dX2_add_44 : decode cX2_add 44 = .ok (.invokevirtual 57, 3) := by decide +kernel
theorem dX2_add_47 : decode cX2_add 47 = .ok (.return_, 1) := by decide +kernel
theorem dX2_multiply_0 : decode cX2_multiply 0 = .ok (.aload_n 0, 1) := by decide +kernel
theorem dX2_multiply_1 : decode cX2_multiply 1 = .ok (.aload_n 1, 1) := by decide +kernel
theorem dX2_multiply_2 : decode cX2_multiply 2 = .ok (.getfield 103, 3) := by decide +kernel
theorem dX2_multiply_5 : decode cX2_multiply 5 = .ok (.aload_n 2, 1) := by decide +kernel
theorem dX2_multiply_6 : decode cX2_multiply 6 = .ok (.getfield 103, 3) := by decide +kernel
theorem dX2_multiply_9 : decode cX2_multiply 9 = .ok (.invokevirtual 166, 3) := by decide +kernel
theorem dX2_multiply_12 : decode cX2_multiply 12 = .ok (.aload_n 0, 1) := by decide +kernel
theorem dX2_multiply_13 : decode cX2_multiply 13 = .ok (.aload_n 1, 1) := by decide +kernel
theorem dX2_multiply_14 : decode cX2_multiply 14 = .ok (.getfield 103, 3) := by decide +kernel
theorem dX2_multiply_17 : decode cX2_multiply 17 = .ok (.aload_n 2, 1) := by decide +kernel
theorem dX2_multiply_18 : decode cX2_multiply 18 = .ok (.getfield 111, 3) := by decide +kernel
theorem dX2_multiply_21 : decode cX2_multiply 21 = .ok (.invokevirtual 166, 3) := by decide +kernel
theorem dX2_multiply_24 : decode cX2_multiply 24 = .ok (.invokestatic 154, 3) := by decide +kernel
theorem dX2_multiply_27 : decode cX2_multiply 27 = .ok (.aload_n 0, 1) := by decide +kernel
theorem dX2_multiply_28 : decode cX2_multiply 28 = .ok (.aload_n 1, 1) := by decide +kernel
theorem dX2_multiply_29 : decode cX2_multiply 29 = .ok (.getfield 111, 3) := by decide +kernel
theorem dX2_multiply_32 : decode cX2_multiply 32 = .ok (.aload_n 2, 1) := by decide +kernel
theorem dX2_multiply_33 : decode cX2_multiply 33 = .ok (.getfield 103, 3) := by decide +kernel
theorem dX2_multiply_36 : decode cX2_multiply 36 = .ok (.invokevirtual 166, 3) := by decide +kernel
theorem dX2_multiply_39 : decode cX2_multiply 39 = .ok (.aload_n 0, 1) := by decide +kernel
theorem dX2_multiply_40 : decode cX2_multiply 40 = .ok (.aload_n 1, 1) := by decide +kernel
theorem dX2_multiply_41 : decode cX2_multiply 41 = .ok (.getfield 111, 3) := by decide +kernel
theorem dX2_multiply_44 : decode cX2_multiply 44 = .ok (.aload_n 2, 1) := by decide +kernel
theorem dX2_multiply_45 : decode cX2_multiply 45 = .ok (.getfield 111, 3) := by decide +kernel
theorem dX2_multiply_48 : decode cX2_multiply 48 = .ok (.invokevirtual 166, 3) := by decide +kernel
theorem dX2_multiply_51 : decode cX2_multiply 51 = .ok (.invokestatic 154, 3) := by decide +kernel
theorem dX2_multiply_54 : decode cX2_multiply 54 = .ok (.invokestatic 154, 3) := by decide +kernel
theorem dX2_multiply_57 : decode cX2_multiply 57 = .ok (.lstore_n 3, 1) := by decide +kernel
theorem dX2_multiply_58 : decode cX2_multiply 58 = .ok (.aload_n 0, 1) := by decide +kernel
theorem dX2_multiply_59 : decode cX2_multiply 59 = .ok (.aload_n 1, 1) := by decide +kernel
theorem dX2_multiply_60 : decode cX2_multiply 60 = .ok (.getfield 103, 3) := by decide +kernel
theorem dX2_multiply_63 : decode cX2_multiply 63 = .ok (.aload_n 2, 1) := by decide +kernel
theorem dX2_multiply_64 : decode cX2_multiply 64 = .ok (.getfield 103, 3) := by decide +kernel
theorem dX2_multiply_67 : decode cX2_multiply 67 = .ok (.invokevirtual 169, 3) := by decide +kernel
theorem dX2_multiply_70 : decode cX2_multiply 70 = .ok (.aload_n 0, 1) := by decide +kernel
theorem dX2_multiply_71 : decode cX2_multiply 71 = .ok (.aload_n 1, 1) := by decide +kernel
theorem dX2_multiply_72 : decode cX2_multiply 72 = .ok (.getfield 103, 3) := by decide +kernel
theorem dX2_multiply_75 : decode cX2_multiply 75 = .ok (.aload_n 2, 1) := by decide +kernel
theorem dX2_multiply_76 : decode cX2_multiply 76 = .ok (.getfield 111, 3) := by decide +kernel
theorem dX2_multiply_79 : decode cX2_multiply 79 = .ok (.invokevirtual 169, 3) := by decide +kernel
theorem dX2_multiply_82 : decode cX2_multiply 82 = .ok (.invokestatic 159, 3) := by decide +kernel
theorem dX2_multiply_85 : decode cX2_multiply 85 = .ok (.aload_n 0, 1) := by decide +kernel
theorem dX2_multiply_86 : decode cX2_multiply 86 = .ok (.aload_n 1, 1) := by decide +kernel
theorem dX2_multiply_87 : decode cX2_multiply 87 = .ok (.getfield 111, 3) := by decide +kernel
theorem dX2_multiply_90 : decode cX2_multiply 90 = .ok (.aload_n 2, 1) := by decide +kernel
theorem dX2_multiply_91 : decode cX2_multiply 91 = .ok (.getfield 103, 3) := by decide +kernel
theorem dX2_multiply_94 : decode cX2_multiply 94 = .ok (.invokevirtual 169, 3) := by decide +kernel
theorem dX2_multiply_97 : decode cX2_multiply 97 = .ok (.aload_n 0, 1) := by decide +kernel
theorem dX2_multiply_98 : decode cX2_multiply 98 = .ok (.aload_n 1, 1) := by decide +kernel
theorem dX2_multiply_99 : decode cX2_multiply 99 = .ok (.getfield 111, 3) := by decide +kernel
theorem dX2_multiply_102 : decode cX2_multiply 102 = .ok (.aload_n 2, 1) := by decide +kernel
theorem dX2_multiply_103 : decode cX2_multiply 103 = .ok (.getfield 111, 3) := by decide +kernel
theorem dX2_multiply_106 : decode cX2_multiply 106 = .ok (.invokevirtual 169, 3) := by decide +kernel
theorem dX2_multiply_109 : decode cX2_multiply 109 = .ok (.invokestatic 159, 3) := by decide +kernel
theorem dX2_multiply_112 : decode cX2_multiply 112 = .ok (.invokestatic 159, 3) := by decide +kernel
theorem dX2_multiply_115 : decode cX2_multiply 115 = .ok (.lstore 5, 2) := by decide +kernel
theorem dX2_multiply_117 : decode cX2_multiply 117 = .ok (.aload_n 0, 1) := by decide +kernel
theorem dX2_multiply_118 : decode cX2_multiply 118 = .ok (.getfield 25, 3) := by decide +kernel
theorem dX2_multiply_121 : decode cX2_multiply 121 = .ok (.lload_n 3, 1) := by decide +kernel
theorem dX2_multiply_122 : decode cX2_multiply 122 = .ok (.lload 5, 2) := by decide +kernel
theorem dX2_multiply_124 : decode cX2_multiply 124 = .ok (.invokevirtual 57, 3) := by decide +kernel
theorem dX2_multiply_127 : decode cX2_multiply 127 = .ok (.return_, 1) := by decide +kernel
theorem dX2_divide_0 : decode cX2_divide 0 = .ok (.aload_n 1, 1) := by decide +kernel
theorem dX2_divide_1 : decode cX2_divide 1 = .ok (.invokevirtual 139, 3) := by decide +kernel
theorem dX2_divide_4 : decode cX2_divide 4 = .ok (.ifCond .ne 10, 3) := by decide +kernel
theorem dX2_divide_7 : decode cX2_divide 7 = .ok (.aload_n 2, 1) := by decide +kernel
theorem dX2_divide_8 : decode cX2_divide 8 = .ok (.invokevirtual 139, 3) := by decide +kernel
theorem dX2_divide_11 : decode cX2_divide 11 = .ok (.ifCond .eq 18, 3) := by decide +kernel
theorem dX2_divide_14 : decode cX2_divide 14 = .ok (.aload_n 0, 1) := by decide +kernel
theorem dX2_divide_15 : decode cX2_divide 15 = .ok (.getfield 25, 3) := by decide +kernel
theorem dX2_divide_18 : decode cX2_divide 18 = .ok (.invokevirtual 39, 3) := by decide +kernel
theorem dX2_divide_21 : decode cX2_divide 21 = .ok (.aload_n 0, 1) := by decide +kernel
theorem dX2_divide_22 : decode cX2_divide 22 = .ok (.getfield 29, 3) := by decide +kernel
theorem dX2_divide_25 : decode cX2_divide 25 = .ok (.invokevirtual 39, 3) := by decide +kernel
theorem dX2_divide_28 : decode cX2_divide 28 = .ok (.return_, 1) := by decide +kernel
theorem dX2_divide_29 : decode cX2_divide 29 = .ok (.aload_n 0, 1) := by decide +kernel
theorem dX2_divide_30 : decode cX2_divide 30 = .ok (.aload_n 1, 1) := by decide +kernel
theorem dX2_divide_31 : decode cX2_divide 31 = .ok (.aload_n 2, 1) := by decide +kernel
theorem dX2_divide_32 : decode cX2_divide 32 = .ok (.getfield 103, 3) := by decide +kernel
theorem dX2_divide_35 : decode cX2_divide 35 = .ok (.aload_n 2, 1) := by decide +kernel
theorem dX2_divide_36 : decode cX2_divide 36 = .ok (.getfield 111, 3) := by decide +kernel
theorem dX2_divide_39 : decode cX2_divide 39 = .ok (.aload_n 0, 1) := by decide +kernel
theorem dX2_divide_40 : decode cX2_divide 40 = .ok (.getfield 25, 3) := by decide +kernel
theorem dX2_divide_43 : decode cX2_divide 43 = .ok (.invokevirtual 175, 3) := by decide +kernel
theorem dX2_divide_46 : decode cX2_divide 46 = .ok (.aload_n 0, 1) := by decide +kernel
theorem dX2_divide_47 : decode cX2_divide 47 = .ok (.aload_n 1, 1) := by decide +kernel
theorem dX2_divide_48 : decode cX2_divide 48 = .ok (.aload_n 2, 1) := by decide +kernel
theorem dX2_divide_49 : decode cX2_divide 49 = .ok (.getfield 111, 3) := by decide +kernel
theorem dX2_divide_52 : decode cX2_divide 52 = .ok (.lneg, 1) := by decide +kernel
theorem dX2_divide_53 : decode cX2_divide 53 = .ok (.aload_n 2, 1) := by decide +kernel
theorem dX2_divide_54 : decode cX2_divide 54 = .ok (.getfield 103, 3) := by decide +kernel
theorem dX2_divide_57 : decode cX2_divide 57 = .ok (.lneg, 1) := by decide +kernel
theorem dX2_divide_58 : decode cX2_divide 58 = .ok (.aload_n 0, 1) := by decide +kernel
theorem dX2_divide_59 : decode cX2_divide 59 = .ok (.getfield 29, 3) := by decide +kernel
theorem dX2_divide_62 : decode cX2_divide 62 = .ok (.invokevirtual 175, 3) := by decide +kernel
theorem dX2_divide_65 : decode cX2_divide 65 = .ok (.aload_n 0, 1) := by decide +kernel
theorem dX2_divide_66 : decode cX2_divide 66 = .ok (.getfield 29, 3) := by decide +kernel
theorem dX2_divide_69 : decode cX2_divide 69 = .ok (.invokevirtual 139, 3) := by decide +kernel
theorem dX2_divide_72 : decode cX2_divide 72 = .ok (.ifCond .ne 26, 3) := by decide +kernel
theorem dX2_divide_75 : decode cX2_divide 75 = .ok (.aload_n 0, 1) := by decide +kernel
theorem dX2_divide_76 : decode cX2_divide 76 = .ok (.getfield 29, 3) := by decide +kernel
theorem dX2_divide_79 : decode cX2_divide 79 = .ok (.aload_n 0, 1) := by decide +kernel
theorem dX2_divide_80 : decode cX2_divide 80 = .ok (.getfield 29, 3) := by decide +kernel
theorem dX2_divide_83 : decode cX2_divide 83 = .ok (.getfield 111, 3) := by decide +kernel
theorem dX2_divide_86 : decode cX2_divide 86 = .ok (.lneg, 1) := by decide +kernel
theorem dX2_divide_87 : decode cX2_divide 87 = .ok (.aload_n 0, 1) := by decide +kernel
theorem dX2_divide_88 : decode cX2_divide 88 = .ok (.getfield 29, 3) := by decide +kernel
theorem dX2_divide_91 : decode cX2_divide 91 = .ok (.getfield 103, 3) := by decide +kernel
theorem dX2_divide_94 : decode cX2_divide 94 = .ok (.lneg, 1) := by decide +kernel
theorem dX2_divide_95 : decode cX2_divide 95 = .ok (.invokevirtual 57, 3) := by decide +kernel
theorem dX2_divide_98 : decode cX2_divide 98 = .ok (.return_, 1) := by decide +kernel
