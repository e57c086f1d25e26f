theorem dX12_saysOf_168 : decode cX12_saysOf 168 = .ok (.iload 4, 2) := by decide +kernel
theorem dX12_saysOf_170 : decode cX12_saysOf 170 = .ok (.sipush 405, 3) := by decide +kernel
theorem dX12_saysOf_173 : decode cX12_saysOf 173 = .ok (.if_icmp .ne 24, 3) := by decide +kernel
theorem dX12_saysOf_176 : decode cX12_saysOf 176 = .ok (.aload_n 0, 1) := by decide +kernel
theorem dX12_saysOf_177 : decode cX12_saysOf 177 = .ok (.getfield 90, 3) := by decide +kernel
theorem dX12_saysOf_180 : decode cX12_saysOf 180 = .ok (.iload_n 2, 1) := by decide +kernel
theorem dX12_saysOf_181 : decode cX12_saysOf 181 = .ok (.iconst 1, 1) := by decide +kernel
theorem dX12_saysOf_182 : decode cX12_saysOf 182 = .ok (.isub, 1) := by decide +kernel
theorem dX12_saysOf_183 : decode cX12_saysOf 183 = .ok (.lconst 1, 1) := by decide +kernel
theorem dX12_saysOf_184 : decode cX12_saysOf 184 = .ok (.aload_n 0, 1) := by decide +kernel
theorem dX12_saysOf_185 : decode cX12_saysOf 185 = .ok (.getfield 90, 3) := by decide +kernel
theorem dX12_saysOf_188 : decode cX12_saysOf 188 = .ok (.iload_n 2, 1) := by decide +kernel
theorem dX12_saysOf_189 : decode cX12_saysOf 189 = .ok (.iconst 1, 1) := by decide +kernel
theorem dX12_saysOf_190 : decode cX12_saysOf 190 = .ok (.isub, 1) := by decide +kernel
theorem dX12_saysOf_191 : decode cX12_saysOf 191 = .ok (.laload, 1) := by decide +kernel
theorem dX12_saysOf_192 : decode cX12_saysOf 192 = .ok (.lsub, 1) := by decide +kernel
theorem dX12_saysOf_193 : decode cX12_saysOf 193 = .ok (.lastore, 1) := by decide +kernel
theorem dX12_saysOf_194 : decode cX12_saysOf 194 = .ok (.goto 33, 3) := by decide +kernel
theorem dX12_saysOf_197 : decode cX12_saysOf 197 = .ok (.iinc 2 (-1), 3) := by decide +kernel
theorem dX12_saysOf_200 : decode cX12_saysOf 200 = .ok (.aload_n 0, 1) := by decide +kernel
theorem dX12_saysOf_201 : decode cX12_saysOf 201 = .ok (.getfield 90, 3) := by decide +kernel
theorem dX12_saysOf_204 : decode cX12_saysOf 204 = .ok (.iload_n 2, 1) := by decide +kernel
theorem dX12_saysOf_205 : decode cX12_saysOf 205 = .ok (.iconst 1, 1) := by decide +kernel
theorem dX12_saysOf_206 : decode cX12_saysOf 206 = .ok (.isub, 1) := by decide +kernel
theorem dX12_saysOf_207 : decode cX12_saysOf 207 = .ok (.iload 4, 2) := by decide +kernel
theorem dX12_saysOf_209 : decode cX12_saysOf 209 = .ok (.aload_n 0, 1) := by decide +kernel
theorem dX12_saysOf_210 : decode cX12_saysOf 210 = .ok (.getfield 90, 3) := by decide +kernel
theorem dX12_saysOf_213 : decode cX12_saysOf 213 = .ok (.iload_n 2, 1) := by decide +kernel
theorem dX12_saysOf_214 : decode cX12_saysOf 214 = .ok (.iconst 1, 1) := by decide +kernel
theorem dX12_saysOf_215 : decode cX12_saysOf 215 = .ok (.isub, 1) := by decide +kernel
theorem dX12_saysOf_216 : decode cX12_saysOf 216 = .ok (.laload, 1) := by decide +kernel
theorem dX12_saysOf_217 : decode cX12_saysOf 217 = .ok (.aload_n 0, 1) := by decide +kernel
theorem dX12_saysOf_218 : decode cX12_saysOf 218 = .ok (.getfield 90, 3) := by decide +kernel
theorem dX12_saysOf_221 : decode cX12_saysOf 221 = .ok (.iload_n 2, 1) := by decide +kernel
theorem dX12_saysOf_222 : decode cX12_saysOf 222 = .ok (.laload, 1) := by decide +kernel
theorem dX12_saysOf_223 : decode cX12_saysOf 223 = .ok (.invokestatic 411, 3) := by decide +kernel
theorem dX12_saysOf_226 : decode cX12_saysOf 226 = .ok (.lastore, 1) := by decide +kernel
theorem dX12_saysOf_227 : decode cX12_saysOf 227 = .ok (.iinc 3 1, 3) := by decide +kernel
theorem dX12_saysOf_230 : decode cX12_saysOf 230 = .ok (.goto (-226), 3) := by decide +kernel
theorem dX12_saysOf_233 : decode cX12_saysOf 233 = .ok (.aload_n 0, 1) := by decide +kernel
theorem dX12_saysOf_234 : decode cX12_saysOf 234 = .ok (.getfield 90, 3) := by decide +kernel
theorem dX12_saysOf_237 : decode cX12_saysOf 237 = .ok (.iconst 0, 1) := by decide +kernel
theorem dX12_saysOf_238 : decode cX12_saysOf 238 = .ok (.laload, 1) := by decide +kernel
theorem dX12_saysOf_239 : decode cX12_saysOf 239 = .ok (.lreturn, 1) := by decide +kernel
theorem dX12_by_0 : decode cX12_by 0 = .ok (.iload_n 1, 1) := by decide +kernel
theorem dX12_by_1 : decode cX12_by 1 = .ok (.iconst (-1), 1) := by decide +kernel
theorem dX12_by_2 : decode cX12_by 2 = .ok (.if_icmp .eq 25, 3) := by decide +kernel
theorem dX12_by_5 : decode cX12_by 5 = .ok (.iload_n 1, 1) := by decide +kernel
theorem dX12_by_6 : decode cX12_by 6 = .ok (.iconst 0, 1) := by decide +kernel
theorem dX12_by_7 : decode cX12_by 7 = .ok (.aload_n 0, 1) := by decide +kernel
theorem dX12_by_8 : decode cX12_by 8 = .ok (.getfield 7, 3) := by decide +kernel
theorem dX12_by_11 : decode cX12_by 11 = .ok (.iconst 1, 1) := by decide +kernel
theorem dX12_by_12 : decode cX12_by 12 = .ok (.iaload, 1) := by decide +kernel
theorem dX12_by_13 : decode cX12_by 13 = .ok (.iconst 1, 1) := by decide +kernel
theorem dX12_by_14 : decode cX12_by 14 = .ok (.isub, 1) := by decide +kernel
theorem dX12_by_15 : decode cX12_by 15 = .ok (.invokestatic 173, 3) := by decide +kernel
theorem dX12_by_18 : decode cX12_by 18 = .ok (.ifCond .ne 9, 3) := by decide +kernel
theorem dX12_by_21 : decode cX12_by 21 = .ok (.aload_n 0, 1) := by decide +kernel
theorem dX12_by_22 : decode cX12_by 22 = .ok (.iconst 0, 1) := by decide +kernel
theorem dX12_by_23 : decode cX12_by 23 = .ok (.invokevirtual 181, 3) := by decide +kernel
theorem dX12_by_26 : decode cX12_by 26 = .ok (.ireturn, 1) := by decide +kernel
theorem dX12_by_27 : decode cX12_by 27 = .ok (.aload_n 0, 1) := by decide +kernel
theorem dX12_by_28 : decode cX12_by 28 = .ok (.getfield 7, 3) := by decide +kernel
theorem dX12_by_31 : decode cX12_by 31 = .ok (.iconst 2, 1) := by decide +kernel
theorem dX12_by_32 : decode cX12_by 32 = .ok (.iload_n 1, 1) := by decide +kernel
theorem dX12_by_33 : decode cX12_by 33 = .ok (.iastore, 1) := by decide +kernel
theorem dX12_by_34 : decode cX12_by 34 = .ok (.iconst 1, 1) := by decide +kernel
theorem dX12_by_35 : decode cX12_by 35 = .ok (.ireturn, 1) := by decide +kernel
theorem dX12_ordersOf_0 : decode cX12_ordersOf 0 = .ok (.iconst (-1), 1) := by decide +kernel
theorem dX12_ordersOf_1 : decode cX12_ordersOf 1 = .ok (.istore_n 2, 1) := by decide +kernel
theorem dX12_ordersOf_2 : decode cX12_ordersOf 2 = .ok (.iconst 0, 1) := by decide +kernel
theorem dX12_ordersOf_3 : decode cX12_ordersOf 3 = .ok (.istore_n 3, 1) := by decide +kernel
theorem dX12_ordersOf_4 : decode cX12_ordersOf 4 = .ok (.aload_n 0, 1) := by decide +kernel
theorem dX12_ordersOf_5 : decode cX12_ordersOf 5 = .ok (.getfield 7, 3) := by decide +kernel
theorem dX12_ordersOf_8 : decode cX12_ordersOf 8 = .ok (.iconst 2, 1) := by decide +kernel
theorem dX12_ordersOf_9 : decode cX12_ordersOf 9 = .ok (.iaload, 1) := by decide +kernel
theorem dX12_ordersOf_10 : decode cX12_ordersOf 10 = .ok (.iconst (-1), 1) := by decide +kernel
theorem dX12_ordersOf_11 : decode cX12_ordersOf 11 = .ok (.if_icmp .eq 60, 3) := by decide +kernel
theorem dX12_ordersOf_14 : decode cX12_ordersOf 14 = .ok (.iload_n 3, 1) := by decide +kernel
theorem dX12_ordersOf_15 : decode cX12_ordersOf 15 = .ok (.aload_n 0, 1) := by decide +kernel
theorem dX12_ordersOf_16 : decode cX12_ordersOf 16 = .ok (.getfield 27, 3) := by decide +kernel
theorem dX12_ordersOf_19 : decode cX12_ordersOf 19 = .ok (.aload_n 0, 1) := by decide +kernel
theorem dX12_ordersOf_20 : decode cX12_ordersOf 20 = .ok (.getfield 7, 3) := by decide +kernel
theorem dX12_ordersOf_23 : decode cX12_ordersOf 23 = .ok (.iconst 2, 1) := by decide +kernel
theorem dX12_ordersOf_24 : decode cX12_ordersOf 24 = .ok (.iaload, 1) := by decide +kernel
theorem dX12_ordersOf_25 : decode cX12_ordersOf 25 = .ok (.iaload, 1) := by decide +kernel
theorem dX12_ordersOf_26 : decode cX12_ordersOf 26 = .ok (.if_icmp .ge 45, 3) := by decide +kernel
theorem dX12_ordersOf_29 : decode cX12_ordersOf 29 = .ok (.bipush 24, 2) := by decide +kernel
theorem dX12_ordersOf_31 : decode cX12_ordersOf 31 = .ok (.aload_n 0, 1) := by decide +kernel
theorem dX12_ordersOf_32 : decode cX12_ordersOf 32 = .ok (.getfield 7, 3) := by decide +kernel
theorem dX12_ordersOf_35 : decode cX12_ordersOf 35 = .ok (.iconst 2, 1) := by decide +kernel
theorem dX12_ordersOf_36 : decode cX12_ordersOf 36 = .ok (.iaload, 1) := by decide +kernel
theorem dX12_ordersOf_37 : decode cX12_ordersOf 37 = .ok (.imul, 1) := by decide +kernel
theorem dX12_ordersOf_38 : decode cX12_ordersOf 38 = .ok (.iload_n 3, 1) := by decide +kernel
theorem dX12_ordersOf_39 : decode cX12_ordersOf 39 = .ok (.iadd, 1) := by decide +kernel
theorem dX12_ordersOf_40 : decode cX12_ordersOf 40 = .ok (.istore 4, 2) := by decide +kernel
theorem dX12_ordersOf_42 : decode cX12_ordersOf 42 = .ok (.aload_n 0, 1) := by decide +kernel
theorem dX12_ordersOf_43 : decode cX12_ordersOf 43 = .ok (.getfield 30, 3) := by decide +kernel
theorem dX12_ordersOf_46 : decode cX12_ordersOf 46 = .ok (.iload 4, 2) := by decide +kernel
theorem dX12_ordersOf_48 : decode cX12_ordersOf 48 = .ok (.iaload, 1) := by decide +kernel
theorem dX12_ordersOf_49 : decode cX12_ordersOf 49 = .ok (.iload_n 1, 1) := by decide +kernel
theorem dX12_ordersOf_50 : decode cX12_ordersOf 50 = .ok (.if_icmp .ne 13, 3) := by decide +kernel
theorem dX12_ordersOf_53 : decode cX12_ordersOf 53 = .ok (.aload_n 0, 1) := by decide +kernel
theorem dX12_ordersOf_54 : decode cX12_ordersOf 54 = .ok (.getfield 33, 3) := by decide +kernel
theorem dX12_ordersOf_57 : decode cX12_ordersOf 57 = .ok (.iload 4, 2) := by decide +kernel
theorem dX12_ordersOf_59 : decode cX12_ordersOf 59 = .ok (.iaload, 1) := by decide +kernel
theorem dX12_ordersOf_60 : decode cX12_ordersOf 60 = .ok (.goto 4, 3) := by decide +kernel
theorem dX12_ordersOf_63 : decode cX12_ordersOf 63 = .ok (.iload_n 2, 1) := by decide +kernel
theorem dX12_ordersOf_64 : decode cX12_ordersOf 64 = .ok (.istore_n 2, 1) := by decide +kernel
theorem dX12_ordersOf_65 : decode cX12_ordersOf 65 = .ok (.iinc 3 1, 3) := by decide +kernel
theorem dX12_ordersOf_68 : decode cX12_ordersOf 68 = .ok (.goto (-64), 3) := by decide +kernel
theorem dX12_ordersOf_71 : decode cX12_ordersOf 71 = .ok (.iload_n 2, 1) := by decide +kernel
theorem dX12_ordersOf_72 : decode cX12_ordersOf 72 = .ok (.ireturn, 1) := by decide +kernel
theorem dX12_held_0 : decode cX12_held 0 = .ok (.lload_n 0, 1) := by decide +kernel
theorem dX12_held_1 : decode cX12_held 1 = .ok (.iload_n 2, 1) := by decide +kernel
theorem dX12_held_2 : decode cX12_held 2 = .ok (.i2l, 1) := by decide +kernel
theorem dX12_held_3 : decode cX12_held 3 = .ok (.lcmp, 1) := by decide +kernel
theorem dX12_held_4 : decode cX12_held 4 = .ok (.ifCond .ge 7, 3) := by decide +kernel
theorem dX12_held_7 : decode cX12_held 7 = .ok (.iload_n 2, 1) := by decide +kernel
theorem dX12_held_8 : decode cX12_held 8 = .ok (.goto 16, 3) := by decide +kernel
theorem dX12_held_11 : decode cX12_held 11 = .ok (.lload_n 0, 1) := by decide +kernel
theorem dX12_held_12 : decode cX12_held 12 = .ok (.iload_n 3, 1) := by decide +kernel
theorem dX12_held_13 : decode cX12_held 13 = .ok (.i2l, 1) := by decide +kernel
theorem dX12_held_14 : decode cX12_held 14 = .ok (.lcmp, 1) := by decide +kernel
theorem dX12_held_15 : decode cX12_held 15 = .ok (.ifCond .le 7, 3) := by decide +kernel
theorem dX12_held_18 : decode cX12_held 18 = .ok (.iload_n 3, 1) := by decide +kernel
theorem dX12_held_19 : decode cX12_held 19 = .ok (.goto 5, 3) := by decide +kernel
theorem dX12_held_22 : decode cX12_held 22 = .ok (.lload_n 0, 1) := by decide +kernel
theorem dX12_held_23 : decode cX12_held 23 = .ok (.l2i, 1) := by decide +kernel
theorem dX12_held_24 : decode cX12_held 24 = .ok (.ireturn, 1) := by decide +kernel
theorem dX12_wasSpoken_0 : decode cX12_wasSpoken 0 = .ok (.aload_n 0, 1) := by decide +kernel
theorem dX12_wasSpoken_1 : decode cX12_wasSpoken 1 = .ok (.iload_n 1, 1) := by decide +kernel
theorem dX12_wasSpoken_2 : decode cX12_wasSpoken 2 = .ok (.iconst 3, 1) := by decide +kernel
theorem dX12_wasSpoken_3 : decode cX12_wasSpoken 3 = .ok (.invokevirtual 415, 3) := by decide +kernel
theorem dX12_wasSpoken_6 : decode cX12_wasSpoken 6 = .ok (.iconst (-1), 1) := by decide +kernel
theorem dX12_wasSpoken_7 : decode cX12_wasSpoken 7 = .ok (.if_icmp .eq 18, 3) := by decide +kernel
theorem dX12_wasSpoken_10 : decode cX12_wasSpoken 10 = .ok (.aload_n 0, 1) := by decide +kernel
theorem dX12_wasSpoken_11 : decode cX12_wasSpoken 11 = .ok (.iload_n 1, 1) := by decide +kernel
theorem dX12_wasSpoken_12 : decode cX12_wasSpoken 12 = .ok (.iconst 3, 1) := by decide +kernel
theorem dX12_wasSpoken_13 : decode cX12_wasSpoken 13 = .ok (.invokevirtual 415, 3) := by decide +kernel
theorem dX12_wasSpoken_16 : decode cX12_wasSpoken 16 = .ok (.aload_n 0, 1) := by decide +kernel
theorem dX12_wasSpoken_17 : decode cX12_wasSpoken 17 = .ok (.iload_n 1, 1) := by decide +kernel
theorem dX12_wasSpoken_18 : decode cX12_wasSpoken 18 = .ok (.iconst 1, 1) := by decide +kernel
theorem dX12_wasSpoken_19 : decode cX12_wasSpoken 19 = .ok (.invokevirtual 415, 3) := by decide +kernel
theorem dX12_wasSpoken_22 : decode cX12_wasSpoken 22 = .ok (.if_icmp .le 7, 3) := by decide +kernel
theorem dX12_wasSpoken_25 : decode cX12_wasSpoken 25 = .ok (.iconst 1, 1) := by decide +kernel
theorem dX12_wasSpoken_26 : decode cX12_wasSpoken 26 = .ok (.goto 4, 3) := by decide +kernel
theorem dX12_wasSpoken_29 : decode cX12_wasSpoken 29 = .ok (.iconst 0, 1) := by decide +kernel
theorem dX12_wasSpoken_30 : decode cX12_wasSpoken 30 = .ok (.ireturn, 1) := by decide +kernel
theorem dX12_laysNow_0 : decode cX12_laysNow 0 = .ok (.aload_n 0, 1) := by decide +kernel
theorem dX12_laysNow_1 : decode cX12_laysNow 1 = .ok (.iload_n 1, 1) := by decide +kernel
theorem dX12_laysNow_2 : decode cX12_laysNow 2 = .ok (.putfield 418, 3) := by decide +kernel
theorem dX12_laysNow_5 : decode cX12_laysNow 5 = .ok (.aload_n 0, 1) := by decide +kernel
theorem dX12_laysNow_6 : decode cX12_laysNow 6 = .ok (.aload_n 0, 1) := by decide +kernel
theorem dX12_laysNow_7 : decode cX12_laysNow 7 = .ok (.getfield 7, 3) := by decide +kernel
theorem dX12_laysNow_10 : decode cX12_laysNow 10 = .ok (.iconst 0, 1) := by decide +kernel
theorem dX12_laysNow_11 : decode cX12_laysNow 11 = .ok (.iaload, 1) := by decide +kernel
theorem dX12_laysNow_12 : decode cX12_laysNow 12 = .ok (.putfield 421, 3) := by decide +kernel
theorem dX12_laysNow_15 : decode cX12_laysNow 15 = .ok (.aload_n 0, 1) := by decide +kernel
theorem dX12_laysNow_16 : decode cX12_laysNow 16 = .ok (.aload_n 0, 1) := by decide +kernel
theorem dX12_laysNow_17 : decode cX12_laysNow 17 = .ok (.getfield 7, 3) := by decide +kernel
theorem dX12_laysNow_20 : decode cX12_laysNow 20 = .ok (.bipush 91, 2) := by decide +kernel
theorem dX12_laysNow_22 : decode cX12_laysNow 22 = .ok (.iaload, 1) := by decide +kernel
theorem dX12_laysNow_23 : decode cX12_laysNow 23 = .ok (.putfield 424, 3) := by decide +kernel
theorem dX12_laysNow_26 : decode cX12_laysNow 26 = .ok (.aload_n 0, 1) := by decide +kernel
theorem dX12_laysNow_27 : decode cX12_laysNow 27 = .ok (.aload_n 0, 1) := by decide +kernel
theorem dX12_laysNow_28 : decode cX12_laysNow 28 = .ok (.getfield 7, 3) := by decide +kernel
theorem dX12_laysNow_31 : decode cX12_laysNow 31 = .ok (.bipush 90, 2) := by decide +kernel
theorem dX12_laysNow_33 : decode cX12_laysNow 33 = .ok (.iaload, 1) := by decide +kernel
theorem dX12_laysNow_34 : decode cX12_laysNow 34 = .ok (.putfield 427, 3) := by decide +kernel
theorem dX12_laysNow_37 : decode cX12_laysNow 37 = .ok (.aload_n 0, 1) := by decide +kernel
theorem dX12_laysNow_38 : decode cX12_laysNow 38 = .ok (.aload_n 0, 1) := by decide +kernel
theorem dX12_laysNow_39 : decode cX12_laysNow 39 = .ok (.getfield 7, 3) := by decide +kernel
theorem dX12_laysNow_42 : decode cX12_laysNow 42 = .ok (.bipush 92, 2) := by decide +kernel
theorem dX12_laysNow_44 : decode cX12_laysNow 44 = .ok (.iaload, 1) := by decide +kernel
theorem dX12_laysNow_45 : decode cX12_laysNow 45 = .ok (.putfield 430, 3) := by decide +kernel
theorem dX12_laysNow_48 : decode cX12_laysNow 48 = .ok (.aload_n 0, 1) := by decide +kernel
theorem dX12_laysNow_49 : decode cX12_laysNow 49 = .ok (.iconst 0, 1) := by decide +kernel
theorem dX12_laysNow_50 : decode cX12_laysNow 50 = .ok (.putfield 433, 3) := by decide +kernel
theorem dX12_laysNow_53 : decode cX12_laysNow 53 = .ok (.aload_n 0, 1) := by decide +kernel
theorem dX12_laysNow_54 : decode cX12_laysNow 54 = .ok (.iconst 0, 1) := by decide +kernel
theorem dX12_laysNow_55 : decode cX12_laysNow 55 = .ok (.putfield 436, 3) := by decide +kernel
theorem dX12_laysNow_58 : decode cX12_laysNow 58 = .ok (.aload_n 0, 1) := by decide +kernel
theorem dX12_laysNow_59 : decode cX12_laysNow 59 = .ok (.iconst 0, 1) := by decide +kernel
theorem dX12_laysNow_60 : decode cX12_laysNow 60 = .ok (.putfield 439, 3) := by decide +kernel
theorem dX12_laysNow_63 : decode cX12_laysNow 63 = .ok (.iconst 0, 1) := by decide +kernel
theorem dX12_laysNow_64 : decode cX12_laysNow 64 = .ok (.istore_n 2, 1) := by decide +kernel
theorem dX12_laysNow_65 : decode cX12_laysNow 65 = .ok (.iload_n 2, 1) := by decide +kernel
theorem dX12_laysNow_66 : decode cX12_laysNow 66 = .ok (.bipush 64, 2) := by decide +kernel
theorem dX12_laysNow_68 : decode cX12_laysNow 68 = .ok (.if_icmp .ge 16, 3) := by decide +kernel
theorem dX12_laysNow_71 : decode cX12_laysNow 71 = .ok (.aload_n 0, 1) := by decide +kernel
theorem dX12_laysNow_72 : decode cX12_laysNow 72 = .ok (.getfield 136, 3) := by decide +kernel
theorem dX12_laysNow_75 : decode cX12_laysNow 75 = .ok (.iload_n 2, 1) := by decide +kernel
theorem dX12_laysNow_76 : decode cX12_laysNow 76 = .ok (.iconst 0, 1) := by decide +kernel
theorem dX12_laysNow_77 : decode cX12_laysNow 77 = .ok (.iastore, 1) := by decide +kernel
theorem dX12_laysNow_78 : decode cX12_laysNow 78 = .ok (.iinc 2 1, 3) := by decide +kernel
theorem dX12_laysNow_81 : decode cX12_laysNow 81 = .ok (.goto (-16), 3) := by decide +kernel
theorem dX12_laysNow_84 : decode cX12_laysNow 84 = .ok (.iconst 0, 1) := by decide +kernel
theorem dX12_laysNow_85 : decode cX12_laysNow 85 = .ok (.istore_n 2, 1) := by decide +kernel
theorem dX12_laysNow_86 : decode cX12_laysNow 86 = .ok (.iload_n 2, 1) := by decide +kernel
theorem dX12_laysNow_87 : decode cX12_laysNow 87 = .ok (.bipush 16, 2) := by decide +kernel
theorem dX12_laysNow_89 : decode cX12_laysNow 89 = .ok (.if_icmp .ge 24, 3) := by decide +kernel
theorem dX12_laysNow_92 : decode cX12_laysNow 92 = .ok (.aload_n 0, 1) := by decide +kernel
theorem dX12_laysNow_93 : decode cX12_laysNow 93 = .ok (.getfield 133, 3) := by decide +kernel
theorem dX12_laysNow_96 : decode cX12_laysNow 96 = .ok (.iload_n 2, 1) := by decide +kernel
theorem dX12_laysNow_97 : decode cX12_laysNow 97 = .ok (.aload_n 0, 1) := by decide +kernel
theorem dX12_laysNow_98 : decode cX12_laysNow 98 = .ok (.getfield 7, 3) := by decide +kernel
theorem dX12_laysNow_101 : decode cX12_laysNow 101 = .ok (.bipush 117, 2) := by decide +kernel
theorem dX12_laysNow_103 : decode cX12_laysNow 103 = .ok (.iload_n 2, 1) := by decide +kernel
theorem dX12_laysNow_104 : decode cX12_laysNow 104 = .ok (.iadd, 1) := by decide +kernel
theorem dX12_laysNow_105 : decode cX12_laysNow 105 = .ok (.iaload, 1) := by decide +kernel
theorem dX12_laysNow_106 : decode cX12_laysNow 106 = .ok (.iastore, 1) := by decide +kernel
theorem dX12_laysNow_107 : decode cX12_laysNow 107 = .ok (.iinc 2 1, 3) := by decide +kernel
theorem dX12_laysNow_110 : decode cX12_laysNow 110 = .ok (.goto (-24), 3) := by decide +kernel
theorem dX12_laysNow_113 : decode cX12_laysNow 113 = .ok (.iconst 0, 1) := by decide +kernel
theorem dX12_laysNow_114 : decode cX12_laysNow 114 = .ok (.istore_n 2, 1) := by decide +kernel
theorem dX12_laysNow_115 : decode cX12_laysNow 115 = .ok (.iload_n 2, 1) := by decide +kernel
theorem dX12_laysNow_116 : decode cX12_laysNow 116 = .ok (.iconst 4, 1) := by decide +kernel
theorem dX12_laysNow_117 : decode cX12_laysNow 117 = .ok (.if_icmp .ge 127, 3) := by decide +kernel
theorem dX12_laysNow_120 : decode cX12_laysNow 120 = .ok (.aload_n 0, 1) := by decide +kernel
theorem dX12_laysNow_121 : decode cX12_laysNow 121 = .ok (.getfield 94, 3) := by decide +kernel
theorem dX12_laysNow_124 : decode cX12_laysNow 124 = .ok (.iload_n 2, 1) := by decide +kernel
theorem dX12_laysNow_125 : decode cX12_laysNow 125 = .ok (.aload_n 0, 1) := by decide +kernel
theorem dX12_laysNow_126 : decode cX12_laysNow 126 = .ok (.getfield 7, 3) := by decide +kernel
theorem dX12_laysNow_129 : decode cX12_laysNow 129 = .ok (.bipush 93, 2) := by decide +kernel
theorem dX12_laysNow_131 : decode cX12_laysNow 131 = .ok (.iload_n 2, 1) := by decide +kernel
theorem dX12_laysNow_132 : decode cX12_laysNow 132 = .ok (.iadd, 1) := by decide +kernel
theorem dX12_laysNow_133 : decode cX12_laysNow 133 = .ok (.iaload, 1) := by decide +kernel
theorem dX12_laysNow_134 : decode cX12_laysNow 134 = .ok (.iastore, 1) := by decide +kernel
theorem dX12_laysNow_135 : decode cX12_laysNow 135 = .ok (.aload_n 0, 1) := by decide +kernel
theorem dX12_laysNow_136 : decode cX12_laysNow 136 = .ok (.getfield 97, 3) := by decide +kernel
theorem dX12_laysNow_139 : decode cX12_laysNow 139 = .ok (.iload_n 2, 1) := by decide +kernel
theorem dX12_laysNow_140 : decode cX12_laysNow 140 = .ok (.aload_n 0, 1) := by decide +kernel
theorem dX12_laysNow_141 : decode cX12_laysNow 141 = .ok (.getfield 7, 3) := by decide +kernel
theorem dX12_laysNow_144 : decode cX12_laysNow 144 = .ok (.bipush 97, 2) := by decide +kernel
theorem dX12_laysNow_146 : decode cX12_laysNow 146 = .ok (.iload_n 2, 1) := by decide +kernel
theorem dX12_laysNow_147 : decode cX12_laysNow 147 = .ok (.iadd, 1) := by decide +kernel
theorem dX12_laysNow_148 : decode cX12_laysNow 148 = .ok (.iaload, 1) := by decide +kernel
theorem dX12_laysNow_149 : decode cX12_laysNow 149 = .ok (.iastore, 1) := by decide +kernel
theorem dX12_laysNow_150 : decode cX12_laysNow 150 = .ok (.aload_n 0, 1) := by decide +kernel
theorem dX12_laysNow_151 : decode cX12_laysNow 151 = .ok (.getfield 100, 3) := by decide +kernel
theorem dX12_laysNow_154 : decode cX12_laysNow 154 = .ok (.iload_n 2, 1) := by decide +kernel
theorem dX12_laysNow_155 : decode cX12_laysNow 155 = .ok (.aload_n 0, 1) := by decide +kernel
theorem dX12_laysNow_156 : decode cX12_laysNow 156 = .ok (.getfield 7, 3) := by decide +kernel
theorem dX12_laysNow_159 : decode cX12_laysNow 159 = .ok (.bipush 101, 2) := by decide +kernel
theorem dX12_laysNow_161 : decode cX12_laysNow 161 = .ok (.iload_n 2, 1) := by decide +kernel
theorem dX12_laysNow_162 : decode cX12_laysNow 162 = .ok (.iadd, 1) := by decide +kernel
theorem dX12_laysNow_163 : decode cX12_laysNow 163 = .ok (.iaload, 1) := by decide +kernel
theorem dX12_laysNow_164 : decode cX12_laysNow 164 = .ok (.iastore, 1) := by decide +kernel
theorem dX12_laysNow_165 : decode cX12_laysNow 165 = .ok (.aload_n 0, 1) := by decide +kernel
theorem dX12_laysNow_166 : decode cX12_laysNow 166 = .ok (.getfield 103, 3) := by decide +kernel
theorem dX12_laysNow_169 : decode cX12_laysNow 169 = .ok (.iload_n 2, 1) := by decide +kernel
theorem dX12_laysNow_170 : decode cX12_laysNow 170 = .ok (.aload_n 0, 1) := by decide +kernel
theorem dX12_laysNow_171 : decode cX12_laysNow 171 = .ok (.getfield 7, 3) := by decide +kernel
theorem dX12_laysNow_174 : decode cX12_laysNow 174 = .ok (.bipush 105, 2) := by decide +kernel
theorem dX12_laysNow_176 : decode cX12_laysNow 176 = .ok (.iload_n 2, 1) := by decide +kernel
theorem dX12_laysNow_177 : decode cX12_laysNow 177 = .ok (.iadd, 1) := by decide +kernel
theorem dX12_laysNow_178 : decode cX12_laysNow 178 = .ok (.iaload, 1) := by decide +kernel
theorem dX12_laysNow_179 : decode cX12_laysNow 179 = .ok (.iastore, 1) := by decide +kernel
theorem dX12_laysNow_180 : decode cX12_laysNow 180 = .ok (.aload_n 0, 1) := by decide +kernel
theorem dX12_laysNow_181 : decode cX12_laysNow 181 = .ok (.getfield 106, 3) := by decide +kernel
theorem dX12_laysNow_184 : decode cX12_laysNow 184 = .ok (.iload_n 2, 1) := by decide +kernel
theorem dX12_laysNow_185 : decode cX12_laysNow 185 = .ok (.aload_n 0, 1) := by decide +kernel
theorem dX12_laysNow_186 : decode cX12_laysNow 186 = .ok (.getfield 7, 3) := by decide +kernel
theorem dX12_laysNow_189 : decode cX12_laysNow 189 = .ok (.bipush 109, 2) := by decide +kernel
theorem dX12_laysNow_191 : decode cX12_laysNow 191 = .ok (.iload_n 2, 1) := by decide +kernel
theorem dX12_laysNow_192 : decode cX12_laysNow 192 = .ok (.iadd, 1) := by decide +kernel
theorem dX12_laysNow_193 : decode cX12_laysNow 193 = .ok (.iaload, 1) := by decide +kernel
theorem dX12_laysNow_194 : decode cX12_laysNow 194 = .ok (.iastore, 1) := by decide +kernel
theorem dX12_laysNow_195 : decode cX12_laysNow 195 = .ok (.aload_n 0, 1) := by decide +kernel
theorem dX12_laysNow_196 : decode cX12_laysNow 196 = .ok (.getfield 109, 3) := by decide +kernel
theorem dX12_laysNow_199 : decode cX12_laysNow 199 = .ok (.iload_n 2, 1) := by decide +kernel
theorem dX12_laysNow_200 : decode cX12_laysNow 200 = .ok (.aload_n 0, 1) := by decide +kernel
theorem dX12_laysNow_201 : decode cX12_laysNow 201 = .ok (.getfield 7, 3) := by decide +kernel
theorem dX12_laysNow_204 : decode cX12_laysNow 204 = .ok (.bipush 113, 2) := by decide +kernel
theorem dX12_laysNow_206 : decode cX12_laysNow 206 = .ok (.iload_n 2, 1) := by decide +kernel
theorem dX12_laysNow_207 : decode cX12_laysNow 207 = .ok (.iadd, 1) := by decide +kernel
theorem dX12_laysNow_208 : decode cX12_laysNow 208 = .ok (.iaload, 1) := by decide +kernel
theorem dX12_laysNow_209 : decode cX12_laysNow 209 = .ok (.iastore, 1) := by decide +kernel
theorem dX12_laysNow_210 : decode cX12_laysNow 210 = .ok (.aload_n 0, 1) := by decide +kernel
theorem dX12_laysNow_211 : decode cX12_laysNow 211 = .ok (.getfield 118, 3) := by decide +kernel
theorem dX12_laysNow_214 : decode cX12_laysNow 214 = .ok (.iload_n 2, 1) := by decide +kernel
theorem dX12_laysNow_215 : decode cX12_laysNow 215 = .ok (.iconst (-1), 1) := by decide +kernel
theorem dX12_laysNow_216 : decode cX12_laysNow 216 = .ok (.iastore, 1) := by decide +kernel
theorem dX12_laysNow_217 : decode cX12_laysNow 217 = .ok (.aload_n 0, 1) := by decide +kernel
theorem dX12_laysNow_218 : decode cX12_laysNow 218 = .ok (.getfield 121, 3) := by decide +kernel
theorem dX12_laysNow_221 : decode cX12_laysNow 221 = .ok (.iload_n 2, 1) := by decide +kernel
theorem dX12_laysNow_222 : decode cX12_laysNow 222 = .ok (.iconst 0, 1) := by decide +kernel
theorem dX12_laysNow_223 : decode cX12_laysNow 223 = .ok (.iastore, 1) := by decide +kernel
theorem dX12_laysNow_224 : decode cX12_laysNow 224 = .ok (.aload_n 0, 1) := by decide +kernel
theorem dX12_laysNow_225 : decode cX12_laysNow 225 = .ok (.getfield 124, 3) := by decide +kernel
theorem dX12_laysNow_228 : decode cX12_laysNow 228 = .ok (.iload_n 2, 1) := by decide +kernel
theorem dX12_laysNow_229 : decode cX12_laysNow 229 = .ok (.iconst 0, 1) := by decide +kernel
theorem dX12_laysNow_230 : decode cX12_laysNow 230 = .ok (.iastore, 1) := by decide +kernel
theorem dX12_laysNow_231 : decode cX12_laysNow 231 = .ok (.aload_n 0, 1) := by decide +kernel
theorem dX12_laysNow_232 : decode cX12_laysNow 232 = .ok (.getfield 127, 3) := by decide +kernel
theorem dX12_laysNow_235 : decode cX12_laysNow 235 = .ok (.iload_n 2, 1) := by decide +kernel
theorem dX12_laysNow_236 : decode cX12_laysNow 236 = .ok (.iconst (-1), 1) := by decide +kernel
theorem dX12_laysNow_237 : decode cX12_laysNow 237 = .ok (.iastore, 1) := by decide +kernel
theorem dX12_laysNow_238 : decode cX12_laysNow 238 = .ok (.iinc 2 1, 3) := by decide +kernel
theorem dX12_laysNow_241 : decode cX12_laysNow 241 = .ok (.goto (-126), 3) := by decide +kernel
theorem dX12_laysNow_244 : decode cX12_laysNow 244 = .ok (.iconst 0, 1) := by decide +kernel
theorem dX12_laysNow_245 : decode cX12_laysNow 245 = .ok (.istore_n 2, 1) := by decide +kernel
theorem dX12_laysNow_246 : decode cX12_laysNow 246 = .ok (.iload_n 2, 1) := by decide +kernel
theorem dX12_laysNow_247 : decode cX12_laysNow 247 = .ok (.aload_n 0, 1) := by decide +kernel
theorem dX12_laysNow_248 : decode cX12_laysNow 248 = .ok (.getfield 7, 3) := by decide +kernel
theorem dX12_laysNow_251 : decode cX12_laysNow 251 = .ok (.sipush 165, 3) := by decide +kernel
theorem dX12_laysNow_254 : decode cX12_laysNow 254 = .ok (.iaload, 1) := by decide +kernel
theorem dX12_laysNow_255 : decode cX12_laysNow 255 = .ok (.if_icmp .ge 14, 3) := by decide +kernel
theorem dX12_laysNow_258 : decode cX12_laysNow 258 = .ok (.aload_n 0, 1) := by decide +kernel
theorem dX12_laysNow_259 : decode cX12_laysNow 259 = .ok (.iload_n 2, 1) := by decide +kernel
theorem dX12_laysNow_260 : decode cX12_laysNow 260 = .ok (.invokevirtual 442, 3) := by decide +kernel
theorem dX12_laysNow_263 : decode cX12_laysNow 263 = .ok (.iinc 2 1, 3) := by decide +kernel
theorem dX12_laysNow_266 : decode cX12_laysNow 266 = .ok (.goto (-20), 3) := by decide +kernel
theorem dX12_laysNow_269 : decode cX12_laysNow 269 = .ok (.return_, 1) := by decide +kernel
theorem dX12_laysTurn_0 : decode cX12_laysTurn 0 = .ok (.aload_n 0, 1) := by decide +kernel
theorem dX12_laysTurn_1 : decode cX12_laysTurn 1 = .ok (.iload_n 1, 1) := by decide +kernel
theorem dX12_laysTurn_2 : decode cX12_laysTurn 2 = .ok (.iconst 0, 1) := by decide +kernel
theorem dX12_laysTurn_3 : decode cX12_laysTurn 3 = .ok (.invokevirtual 415, 3) := by decide +kernel
theorem dX12_laysTurn_6 : decode cX12_laysTurn 6 = .ok (.istore_n 2, 1) := by decide +kernel
theorem dX12_laysTurn_7 : decode cX12_laysTurn 7 = .ok (.aload_n 0, 1) := by decide +kernel
theorem dX12_laysTurn_8 : decode cX12_laysTurn 8 = .ok (.getfield 121, 3) := by decide +kernel
theorem dX12_laysTurn_11 : decode cX12_laysTurn 11 = .ok (.iload_n 2, 1) := by decide +kernel
theorem dX12_laysTurn_12 : decode cX12_laysTurn 12 = .ok (.dup2, 1) := by decide +kernel
theorem dX12_laysTurn_13 : decode cX12_laysTurn 13 = .ok (.iaload, 1) := by decide +kernel
theorem dX12_laysTurn_14 : decode cX12_laysTurn 14 = .ok (.iconst 1, 1) := by decide +kernel
theorem dX12_laysTurn_15 : decode cX12_laysTurn 15 = .ok (.iadd, 1) := by decide +kernel
theorem dX12_laysTurn_16 : decode cX12_laysTurn 16 = .ok (.iastore, 1) := by decide +kernel
theorem dX12_laysTurn_17 : decode cX12_laysTurn 17 = .ok (.aload_n 0, 1) := by decide +kernel
theorem dX12_laysTurn_18 : decode cX12_laysTurn 18 = .ok (.getfield 124, 3) := by decide +kernel
theorem dX12_laysTurn_21 : decode cX12_laysTurn 21 = .ok (.iload_n 2, 1) := by decide +kernel
theorem dX12_laysTurn_22 : decode cX12_laysTurn 22 = .ok (.dup2, 1) := by decide +kernel
theorem dX12_laysTurn_23 : decode cX12_laysTurn 23 = .ok (.iaload, 1) := by decide +kernel
theorem dX12_laysTurn_24 : decode cX12_laysTurn 24 = .ok (.aload_n 0, 1) := by decide +kernel
theorem dX12_laysTurn_25 : decode cX12_laysTurn 25 = .ok (.iload_n 1, 1) := by decide +kernel
theorem dX12_laysTurn_26 : decode cX12_laysTurn 26 = .ok (.iconst 4, 1) := by decide +kernel
theorem dX12_laysTurn_27 : decode cX12_laysTurn 27 = .ok (.invokevirtual 415, 3) := by decide +kernel
theorem dX12_laysTurn_30 : decode cX12_laysTurn 30 = .ok (.iconst 2, 1) := by decide +kernel
theorem dX12_laysTurn_31 : decode cX12_laysTurn 31 = .ok (.if_icmp .ne 7, 3) := by decide +kernel
theorem dX12_laysTurn_34 : decode cX12_laysTurn 34 = .ok (.iconst 1, 1) := by decide +kernel
theorem dX12_laysTurn_35 : decode cX12_laysTurn 35 = .ok (.goto 4, 3) := by decide +kernel
theorem dX12_laysTurn_38 : decode cX12_laysTurn 38 = .ok (.iconst 0, 1) := by decide +kernel
theorem dX12_laysTurn_39 : decode cX12_laysTurn 39 = .ok (.iadd, 1) := by decide +kernel
theorem dX12_laysTurn_40 : decode cX12_laysTurn 40 = .ok (.iastore, 1) := by decide +kernel
theorem dX12_laysTurn_41 : decode cX12_laysTurn 41 = .ok (.aload_n 0, 1) := by decide +kernel
theorem dX12_laysTurn_42 : decode cX12_laysTurn 42 = .ok (.iload_n 1, 1) := by decide +kernel
theorem dX12_laysTurn_43 : decode cX12_laysTurn 43 = .ok (.iconst 3, 1) := by decide +kernel
theorem dX12_laysTurn_44 : decode cX12_laysTurn 44 = .ok (.invokevirtual 415, 3) := by decide +kernel
theorem dX12_laysTurn_47 : decode cX12_laysTurn 47 = .ok (.iconst (-1), 1) := by decide +kernel
theorem dX12_laysTurn_48 : decode cX12_laysTurn 48 = .ok (.if_icmp .ne 10, 3) := by decide +kernel
theorem dX12_laysTurn_51 : decode cX12_laysTurn 51 = .ok (.aload_n 0, 1) := by decide +kernel
theorem dX12_laysTurn_52 : decode cX12_laysTurn 52 = .ok (.getfield 424, 3) := by decide +kernel
theorem dX12_laysTurn_55 : decode cX12_laysTurn 55 = .ok (.goto 11, 3) := by decide +kernel
theorem dX12_laysTurn_58 : decode cX12_laysTurn 58 = .ok (.aload_n 0, 1) := by decide +kernel
theorem dX12_laysTurn_59 : decode cX12_laysTurn 59 = .ok (.iload_n 1, 1) := by decide +kernel
theorem dX12_laysTurn_60 : decode cX12_laysTurn 60 = .ok (.iconst 3, 1) := by decide +kernel
theorem dX12_laysTurn_61 : decode cX12_laysTurn 61 = .ok (.invokevirtual 415, 3) := by decide +kernel
theorem dX12_laysTurn_64 : decode cX12_laysTurn 64 = .ok (.iconst 1, 1) := by decide +kernel
theorem dX12_laysTurn_65 : decode cX12_laysTurn 65 = .ok (.isub, 1) := by decide +kernel
theorem dX12_laysTurn_66 : decode cX12_laysTurn 66 = .ok (.istore_n 3, 1) := by decide +kernel
theorem dX12_laysTurn_67 : decode cX12_laysTurn 67 = .ok (.aload_n 0, 1) := by decide +kernel
theorem dX12_laysTurn_68 : decode cX12_laysTurn 68 = .ok (.iload_n 1, 1) := by decide +kernel
theorem dX12_laysTurn_69 : decode cX12_laysTurn 69 = .ok (.iconst 3, 1) := by decide +kernel
theorem dX12_laysTurn_70 : decode cX12_laysTurn 70 = .ok (.invokevirtual 415, 3) := by decide +kernel
theorem dX12_laysTurn_73 : decode cX12_laysTurn 73 = .ok (.iconst (-1), 1) := by decide +kernel
theorem dX12_laysTurn_74 : decode cX12_laysTurn 74 = .ok (.if_icmp .ne 37, 3) := by decide +kernel
theorem dX12_laysTurn_77 : decode cX12_laysTurn 77 = .ok (.aload_n 0, 1) := by decide +kernel
theorem dX12_laysTurn_78 : decode cX12_laysTurn 78 = .ok (.getfield 127, 3) := by decide +kernel
theorem dX12_laysTurn_81 : decode cX12_laysTurn 81 = .ok (.iload_n 2, 1) := by decide +kernel
theorem dX12_laysTurn_82 : decode cX12_laysTurn 82 = .ok (.iload_n 1, 1) := by decide +kernel
theorem dX12_laysTurn_83 : decode cX12_laysTurn 83 = .ok (.iastore, 1) := by decide +kernel
theorem dX12_laysTurn_84 : decode cX12_laysTurn 84 = .ok (.aload_n 0, 1) := by decide +kernel
theorem dX12_laysTurn_85 : decode cX12_laysTurn 85 = .ok (.getfield 112, 3) := by decide +kernel
theorem dX12_laysTurn_88 : decode cX12_laysTurn 88 = .ok (.iload_n 2, 1) := by decide +kernel
theorem dX12_laysTurn_89 : decode cX12_laysTurn 89 = .ok (.aload_n 0, 1) := by decide +kernel
theorem dX12_laysTurn_90 : decode cX12_laysTurn 90 = .ok (.iload_n 1, 1) := by decide +kernel
theorem dX12_laysTurn_91 : decode cX12_laysTurn 91 = .ok (.iconst 1, 1) := by decide +kernel
theorem dX12_laysTurn_92 : decode cX12_laysTurn 92 = .ok (.invokevirtual 415, 3) := by decide +kernel
theorem dX12_laysTurn_95 : decode cX12_laysTurn 95 = .ok (.iastore, 1) := by decide +kernel
theorem dX12_laysTurn_96 : decode cX12_laysTurn 96 = .ok (.aload_n 0, 1) := by decide +kernel
theorem dX12_laysTurn_97 : decode cX12_laysTurn 97 = .ok (.getfield 115, 3) := by decide +kernel
theorem dX12_laysTurn_100 : decode cX12_laysTurn 100 = .ok (.iload_n 2, 1) := by decide +kernel
theorem dX12_laysTurn_101 : decode cX12_laysTurn 101 = .ok (.aload_n 0, 1) := by decide +kernel
theorem dX12_laysTurn_102 : decode cX12_laysTurn 102 = .ok (.iload_n 1, 1) := by decide +kernel
theorem dX12_laysTurn_103 : decode cX12_laysTurn 103 = .ok (.iconst 2, 1) := by decide +kernel
theorem dX12_laysTurn_104 : decode cX12_laysTurn 104 = .ok (.invokevirtual 415, 3) := by decide +kernel
theorem dX12_laysTurn_107 : decode cX12_laysTurn 107 = .ok (.iastore, 1) := by decide +kernel
theorem dX12_laysTurn_108 : decode cX12_laysTurn 108 = .ok (.goto 23, 3) := by decide +kernel
theorem dX12_laysTurn_111 : decode cX12_laysTurn 111 = .ok (.aload_n 0, 1) := by decide +kernel
theorem dX12_laysTurn_112 : decode cX12_laysTurn 112 = .ok (.iload_n 1, 1) := by decide +kernel
theorem dX12_laysTurn_113 : decode cX12_laysTurn 113 = .ok (.invokevirtual 445, 3) := by decide +kernel
theorem dX12_laysTurn_116 : decode cX12_laysTurn 116 = .ok (.ifCond .eq 15, 3) := by decide +kernel
theorem dX12_laysTurn_119 : decode cX12_laysTurn 119 = .ok (.aload_n 0, 1) := by decide +kernel
theorem dX12_laysTurn_120 : decode cX12_laysTurn 120 = .ok (.getfield 118, 3) := by decide +kernel
theorem dX12_laysTurn_123 : decode cX12_laysTurn 123 = .ok (.iload_n 2, 1) := by decide +kernel
theorem dX12_laysTurn_124 : decode cX12_laysTurn 124 = .ok (.aload_n 0, 1) := by decide +kernel
theorem dX12_laysTurn_125 : decode cX12_laysTurn 125 = .ok (.iload_n 1, 1) := by decide +kernel
theorem dX12_laysTurn_126 : decode cX12_laysTurn 126 = .ok (.iconst 3, 1) := by decide +kernel
theorem dX12_laysTurn_127 : decode cX12_laysTurn 127 = .ok (.invokevirtual 415, 3) := by decide +kernel
theorem dX12_laysTurn_130 : decode cX12_laysTurn 130 = .ok (.iastore, 1) := by decide +kernel
theorem dX12_laysTurn_131 : decode cX12_laysTurn 131 = .ok (.aload_n 0, 1) := by decide +kernel
theorem dX12_laysTurn_132 : decode cX12_laysTurn 132 = .ok (.iload_n 1, 1) := by decide +kernel
theorem dX12_laysTurn_133 : decode cX12_laysTurn 133 = .ok (.iconst 1, 1) := by decide +kernel
theorem dX12_laysTurn_134 : decode cX12_laysTurn 134 = .ok (.invokevirtual 415, 3) := by decide +kernel
theorem dX12_laysTurn_137 : decode cX12_laysTurn 137 = .ok (.istore 4, 2) := by decide +kernel
theorem dX12_laysTurn_139 : decode cX12_laysTurn 139 = .ok (.iload 4, 2) := by decide +kernel
theorem dX12_laysTurn_141 : decode cX12_laysTurn 141 = .ok (.iload_n 3, 1) := by decide +kernel
theorem dX12_laysTurn_142 : decode cX12_laysTurn 142 = .ok (.if_icmp .gt 45, 3) := by decide +kernel
theorem dX12_laysTurn_145 : decode cX12_laysTurn 145 = .ok (.iload 4, 2) := by decide +kernel
theorem dX12_laysTurn_147 : decode cX12_laysTurn 147 = .ok (.aload_n 0, 1) := by decide +kernel
theorem dX12_laysTurn_148 : decode cX12_laysTurn 148 = .ok (.getfield 424, 3) := by decide +kernel
theorem dX12_laysTurn_151 : decode cX12_laysTurn 151 = .ok (.bipush 63, 2) := by decide +kernel
theorem dX12_laysTurn_153 : decode cX12_laysTurn 153 = .ok (.isub, 1) := by decide +kernel
theorem dX12_laysTurn_154 : decode cX12_laysTurn 154 = .ok (.if_icmp .le 27, 3) := by decide +kernel
theorem dX12_laysTurn_157 : decode cX12_laysTurn 157 = .ok (.aload_n 0, 1) := by decide +kernel
theorem dX12_laysTurn_158 : decode cX12_laysTurn 158 = .ok (.getfield 136, 3) := by decide +kernel
theorem dX12_laysTurn_161 : decode cX12_laysTurn 161 = .ok (.iload 4, 2) := by decide +kernel
theorem dX12_laysTurn_163 : decode cX12_laysTurn 163 = .ok (.bipush 63, 2) := by decide +kernel
theorem dX12_laysTurn_165 : decode cX12_laysTurn 165 = .ok (.iand, 1) := by decide +kernel
theorem dX12_laysTurn_166 : decode cX12_laysTurn 166 = .ok (.aload_n 0, 1) := by decide +kernel
theorem dX12_laysTurn_167 : decode cX12_laysTurn 167 = .ok (.getfield 136, 3) := by decide +kernel
theorem dX12_laysTurn_170 : decode cX12_laysTurn 170 = .ok (.iload 4, 2) := by decide +kernel
theorem dX12_laysTurn_172 : decode cX12_laysTurn 172 = .ok (.bipush 63, 2) := by decide +kernel
theorem dX12_laysTurn_174 : decode cX12_laysTurn 174 = .ok (.iand, 1) := by decide +kernel
theorem dX12_laysTurn_175 : decode cX12_laysTurn 175 = .ok (.iaload, 1) := by decide +kernel
theorem dX12_laysTurn_176 : decode cX12_laysTurn 176 = .ok (.iconst 1, 1) := by decide +kernel
theorem dX12_laysTurn_177 : decode cX12_laysTurn 177 = .ok (.iload_n 2, 1) := by decide +kernel
theorem dX12_laysTurn_178 : decode cX12_laysTurn 178 = .ok (.ishl, 1) := by decide +kernel
theorem dX12_laysTurn_179 : decode cX12_laysTurn 179 = .ok (.ior, 1) := by decide +kernel
theorem dX12_laysTurn_180 : decode cX12_laysTurn 180 = .ok (.iastore, 1) := by decide +kernel
theorem dX12_laysTurn_181 : decode cX12_laysTurn 181 = .ok (.iinc 4 1, 3) := by decide +kernel
theorem dX12_laysTurn_184 : decode cX12_laysTurn 184 = .ok (.goto (-45), 3) := by decide +kernel
theorem dX12_laysTurn_187 : decode cX12_laysTurn 187 = .ok (.return_, 1) := by decide +kernel
theorem dX12_keepsNow_0 : decode cX12_keepsNow 0 = .ok (.aload_n 0, 1) := by decide +kernel
theorem dX12_keepsNow_1 : decode cX12_keepsNow 1 = .ok (.getfield 7, 3) := by decide +kernel
theorem dX12_keepsNow_4 : decode cX12_keepsNow 4 = .ok (.bipush 91, 2) := by decide +kernel
theorem dX12_keepsNow_6 : decode cX12_keepsNow 6 = .ok (.aload_n 0, 1) := by decide +kernel
theorem dX12_keepsNow_7 : decode cX12_keepsNow 7 = .ok (.getfield 424, 3) := by decide +kernel
theorem dX12_keepsNow_10 : decode cX12_keepsNow 10 = .ok (.iastore, 1) := by decide +kernel
theorem dX12_keepsNow_11 : decode cX12_keepsNow 11 = .ok (.aload_n 0, 1) := by decide +kernel
theorem dX12_keepsNow_12 : decode cX12_keepsNow 12 = .ok (.getfield 7, 3) := by decide +kernel
theorem dX12_keepsNow_15 : decode cX12_keepsNow 15 = .ok (.bipush 92, 2) := by decide +kernel
theorem dX12_keepsNow_17 : decode cX12_keepsNow 17 = .ok (.aload_n 0, 1) := by decide +kernel
theorem dX12_keepsNow_18 : decode cX12_keepsNow 18 = .ok (.getfield 430, 3) := by decide +kernel
theorem dX12_keepsNow_21 : decode cX12_keepsNow 21 = .ok (.iastore, 1) := by decide +kernel
theorem dX12_keepsNow_22 : decode cX12_keepsNow 22 = .ok (.iconst 0, 1) := by decide +kernel
theorem dX12_keepsNow_23 : decode cX12_keepsNow 23 = .ok (.istore_n 1, 1) := by decide +kernel
theorem dX12_keepsNow_24 : decode cX12_keepsNow 24 = .ok (.iload_n 1, 1) := by decide +kernel
theorem dX12_keepsNow_25 : decode cX12_keepsNow 25 = .ok (.iconst 4, 1) := by decide +kernel
theorem dX12_keepsNow_26 : decode cX12_keepsNow 26 = .ok (.if_icmp .ge 99, 3) := by decide +kernel
theorem dX12_keepsNow_29 : decode cX12_keepsNow 29 = .ok (.aload_n 0, 1) := by decide +kernel
theorem dX12_keepsNow_30 : decode cX12_keepsNow 30 = .ok (.getfield 7, 3) := by decide +kernel
theorem dX12_keepsNow_33 : decode cX12_keepsNow 33 = .ok (.bipush 93, 2) := by decide +kernel
theorem dX12_keepsNow_35 : decode cX12_keepsNow 35 = .ok (.iload_n 1, 1) := by decide +kernel
theorem dX12_keepsNow_36 : decode cX12_keepsNow 36 = .ok (.iadd, 1) := by decide +kernel
theorem dX12_keepsNow_37 : decode cX12_keepsNow 37 = .ok (.aload_n 0, 1) := by decide +kernel
theorem dX12_keepsNow_38 : decode cX12_keepsNow 38 = .ok (.getfield 94, 3) := by decide +kernel
theorem dX12_keepsNow_41 : decode cX12_keepsNow 41 = .ok (.iload_n 1, 1) := by decide +kernel
theorem dX12_keepsNow_42 : decode cX12_keepsNow 42 = .ok (.iaload, 1) := by decide +kernel
theorem dX12_keepsNow_43 : decode cX12_keepsNow 43 = .ok (.iastore, 1) := by decide +kernel
theorem dX12_keepsNow_44 : decode cX12_keepsNow 44 = .ok (.aload_n 0, 1) := by decide +kernel
theorem dX12_keepsNow_45 : decode cX12_keepsNow 45 = .ok (.getfield 7, 3) := by decide +kernel
theorem dX12_keepsNow_48 : decode cX12_keepsNow 48 = .ok (.bipush 97, 2) := by decide +kernel
theorem dX12_keepsNow_50 : decode cX12_keepsNow 50 = .ok (.iload_n 1, 1) := by decide +kernel
theorem dX12_keepsNow_51 : decode cX12_keepsNow 51 = .ok (.iadd, 1) := by decide +kernel
theorem dX12_keepsNow_52 : decode cX12_keepsNow 52 = .ok (.aload_n 0, 1) := by decide +kernel
theorem dX12_keepsNow_53 : decode cX12_keepsNow 53 = .ok (.getfield 97, 3) := by decide +kernel
theorem dX12_keepsNow_56 : decode cX12_keepsNow 56 = .ok (.iload_n 1, 1) := by decide +kernel
theorem dX12_keepsNow_57 : decode cX12_keepsNow 57 = .ok (.iaload, 1) := by decide +kernel
theorem dX12_keepsNow_58 : decode cX12_keepsNow 58 = .ok (.iastore, 1) := by decide +kernel
theorem dX12_keepsNow_59 : decode cX12_keepsNow 59 = .ok (.aload_n 0, 1) := by decide +kernel
theorem dX12_keepsNow_60 : decode cX12_keepsNow 60 = .ok (.getfield 7, 3) := by decide +kernel
theorem dX12_keepsNow_63 : decode cX12_keepsNow 63 = .ok (.bipush 101, 2) := by decide +kernel
theorem dX12_keepsNow_65 : decode cX12_keepsNow 65 = .ok (.iload_n 1, 1) := by decide +kernel
theorem dX12_keepsNow_66 : decode cX12_keepsNow 66 = .ok (.iadd, 1) := by decide +kernel
theorem dX12_keepsNow_67 : decode cX12_keepsNow 67 = .ok (.aload_n 0, 1) := by decide +kernel
theorem dX12_keepsNow_68 : decode cX12_keepsNow 68 = .ok (.getfield 100, 3) := by decide +kernel
theorem dX12_keepsNow_71 : decode cX12_keepsNow 71 = .ok (.iload_n 1, 1) := by decide +kernel
theorem dX12_keepsNow_72 : decode cX12_keepsNow 72 = .ok (.iaload, 1) := by decide +kernel
theorem dX12_keepsNow_73 : decode cX12_keepsNow 73 = .ok (.iastore, 1) := by decide +kernel
theorem dX12_keepsNow_74 : decode cX12_keepsNow 74 = .ok (.aload_n 0, 1) := by decide +kernel
theorem dX12_keepsNow_75 : decode cX12_keepsNow 75 = .ok (.getfield 7, 3) := by decide +kernel
theorem dX12_keepsNow_78 : decode cX12_keepsNow 78 = .ok (.bipush 105, 2) := by decide +kernel
theorem dX12_keepsNow_80 : decode cX12_keepsNow 80 = .ok (.iload_n 1, 1) := by decide +kernel
theorem dX12_keepsNow_81 : decode cX12_keepsNow 81 = .ok (.iadd, 1) := by decide +kernel
theorem dX12_keepsNow_82 : decode cX12_keepsNow 82 = .ok (.aload_n 0, 1) := by decide +kernel
theorem dX12_keepsNow_83 : decode cX12_keepsNow 83 = .ok (.getfield 103, 3) := by decide +kernel
theorem dX12_keepsNow_86 : decode cX12_keepsNow 86 = .ok (.iload_n 1, 1) := by decide +kernel
theorem dX12_keepsNow_87 : decode cX12_keepsNow 87 = .ok (.iaload, 1) := by decide +kernel
theorem dX12_keepsNow_88 : decode cX12_keepsNow 88 = .ok (.iastore, 1) := by decide +kernel
theorem dX12_keepsNow_89 : decode cX12_keepsNow 89 = .ok (.aload_n 0, 1) := by decide +kernel
theorem dX12_keepsNow_90 : decode cX12_keepsNow 90 = .ok (.getfield 7, 3) := by decide +kernel
theorem dX12_keepsNow_93 : decode cX12_keepsNow 93 = .ok (.bipush 109, 2) := by decide +kernel
theorem dX12_keepsNow_95 : decode cX12_keepsNow 95 = .ok (.iload_n 1, 1) := by decide +kernel
theorem dX12_keepsNow_96 : decode cX12_keepsNow 96 = .ok (.iadd, 1) := by decide +kernel
theorem dX12_keepsNow_97 : decode cX12_keepsNow 97 = .ok (.aload_n 0, 1) := by decide +kernel
theorem dX12_keepsNow_98 : decode cX12_keepsNow 98 = .ok (.getfield 106, 3) := by decide +kernel
theorem dX12_keepsNow_101 : decode cX12_keepsNow 101 = .ok (.iload_n 1, 1) := by decide +kernel
theorem dX12_keepsNow_102 : decode cX12_keepsNow 102 = .ok (.iaload, 1) := by decide +kernel
theorem dX12_keepsNow_103 : decode cX12_keepsNow 103 = .ok (.iastore, 1) := by decide +kernel
theorem dX12_keepsNow_104 : decode cX12_keepsNow 104 = .ok (.aload_n 0, 1) := by decide +kernel
theorem dX12_keepsNow_105 : decode cX12_keepsNow 105 = .ok (.getfield 7, 3) := by decide +kernel
theorem dX12_keepsNow_108 : decode cX12_keepsNow 108 = .ok (.bipush 113, 2) := by decide +kernel
theorem dX12_keepsNow_110 : decode cX12_keepsNow 110 = .ok (.iload_n 1, 1) := by decide +kernel
theorem dX12_keepsNow_111 : decode cX12_keepsNow 111 = .ok (.iadd, 1) := by decide +kernel
theorem dX12_keepsNow_112 : decode cX12_keepsNow 112 = .ok (.aload_n 0, 1) := by decide +kernel
theorem dX12_keepsNow_113 : decode cX12_keepsNow 113 = .ok (.getfield 109, 3) := by decide +kernel
theorem dX12_keepsNow_116 : decode cX12_keepsNow 116 = .ok (.iload_n 1, 1) := by decide +kernel
theorem dX12_keepsNow_117 : decode cX12_keepsNow 117 = .ok (.iaload, 1) := by decide +kernel
theorem dX12_keepsNow_118 : decode cX12_keepsNow 118 = .ok (.iastore, 1) := by decide +kernel
theorem dX12_keepsNow_119 : decode cX12_keepsNow 119 = .ok (.iinc 1 1, 3) := by decide +kernel
theorem dX12_keepsNow_122 : decode cX12_keepsNow 122 = .ok (.goto (-98), 3) := by decide +kernel
theorem dX12_keepsNow_125 : decode cX12_keepsNow 125 = .ok (.return_, 1) := by decide +kernel
theorem dX12_draw_0 : decode cX12_draw 0 = .ok (.aload_n 0, 1) := by decide +kernel
theorem dX12_draw_1 : decode cX12_draw 1 = .ok (.getfield 430, 3) := by decide +kernel
theorem dX12_draw_4 : decode cX12_draw 4 = .ok (.iload_n 1, 1) := by decide +kernel
theorem dX12_draw_5 : decode cX12_draw 5 = .ok (.irem, 1) := by decide +kernel
theorem dX12_draw_6 : decode cX12_draw 6 = .ok (.istore_n 2, 1) := by decide +kernel
theorem dX12_draw_7 : decode cX12_draw 7 = .ok (.aload_n 0, 1) := by decide +kernel
theorem dX12_draw_8 : decode cX12_draw 8 = .ok (.aload_n 0, 1) := by decide +kernel
theorem dX12_draw_9 : decode cX12_draw 9 = .ok (.getfield 430, 3) := by decide +kernel
theorem dX12_draw_12 : decode cX12_draw 12 = .ok (.sipush 197, 3) := by decide +kernel
theorem dX12_draw_15 : decode cX12_draw 15 = .ok (.imul, 1) := by decide +kernel
theorem dX12_draw_16 : decode cX12_draw 16 = .ok (.bipush 113, 2) := by decide +kernel
theorem dX12_draw_18 : decode cX12_draw 18 = .ok (.iadd, 1) := by decide +kernel
theorem dX12_draw_19 : decode cX12_draw 19 = .ok (.sipush 30091, 3) := by decide +kernel
theorem dX12_draw_22 : decode cX12_draw 22 = .ok (.irem, 1) := by decide +kernel
theorem dX12_draw_23 : decode cX12_draw 23 = .ok (.putfield 430, 3) := by decide +kernel
theorem dX12_draw_26 : decode cX12_draw 26 = .ok (.iload_n 2, 1) := by decide +kernel
theorem dX12_draw_27 : decode cX12_draw 27 = .ok (.ireturn, 1) := by decide +kernel
theorem dX12_names_0 : decode cX12_names 0 = .ok (.aload_n 0, 1) := by decide +kernel
theorem dX12_names_1 : decode cX12_names 1 = .ok (.getfield 87, 3) := by decide +kernel
theorem dX12_names_4 : decode cX12_names 4 = .ok (.iconst 0, 1) := by decide +kernel
theorem dX12_names_5 : decode cX12_names 5 = .ok (.iload_n 1, 1) := by decide +kernel
theorem dX12_names_6 : decode cX12_names 6 = .ok (.iastore, 1) := by decide +kernel
theorem dX12_names_7 : decode cX12_names 7 = .ok (.aload_n 0, 1) := by decide +kernel
theorem dX12_names_8 : decode cX12_names 8 = .ok (.getfield 87, 3) := by decide +kernel
theorem dX12_names_11 : decode cX12_names 11 = .ok (.iconst 1, 1) := by decide +kernel
theorem dX12_names_12 : decode cX12_names 12 = .ok (.aload_n 0, 1) := by decide +kernel
theorem dX12_names_13 : decode cX12_names 13 = .ok (.getfield 421, 3) := by decide +kernel
theorem dX12_names_16 : decode cX12_names 16 = .ok (.iastore, 1) := by decide +kernel
theorem dX12_names_17 : decode cX12_names 17 = .ok (.aload_n 0, 1) := by decide +kernel
theorem dX12_names_18 : decode cX12_names 18 = .ok (.getfield 87, 3) := by decide +kernel
theorem dX12_names_21 : decode cX12_names 21 = .ok (.iconst 2, 1) := by decide +kernel
theorem dX12_names_22 : decode cX12_names 22 = .ok (.aload_n 0, 1) := by decide +kernel
theorem dX12_names_23 : decode cX12_names 23 = .ok (.getfield 427, 3) := by decide +kernel
theorem dX12_names_26 : decode cX12_names 26 = .ok (.iastore, 1) := by decide +kernel
theorem dX12_names_27 : decode cX12_names 27 = .ok (.aload_n 0, 1) := by decide +kernel
theorem dX12_names_28 : decode cX12_names 28 = .ok (.getfield 87, 3) := by decide +kernel
theorem dX12_names_31 : decode cX12_names 31 = .ok (.iconst 3, 1) := by decide +kernel
theorem dX12_names_32 : decode cX12_names 32 = .ok (.aload_n 0, 1) := by decide +kernel
theorem dX12_names_33 : decode cX12_names 33 = .ok (.getfield 121, 3) := by decide +kernel
theorem dX12_names_36 : decode cX12_names 36 = .ok (.iload_n 1, 1) := by decide +kernel
theorem dX12_names_37 : decode cX12_names 37 = .ok (.iaload, 1) := by decide +kernel
theorem dX12_names_38 : decode cX12_names 38 = .ok (.iastore, 1) := by decide +kernel
theorem dX12_names_39 : decode cX12_names 39 = .ok (.aload_n 0, 1) := by decide +kernel
theorem dX12_names_40 : decode cX12_names 40 = .ok (.getfield 87, 3) := by decide +kernel
theorem dX12_names_43 : decode cX12_names 43 = .ok (.iconst 4, 1) := by decide +kernel
theorem dX12_names_44 : decode cX12_names 44 = .ok (.aload_n 0, 1) := by decide +kernel
theorem dX12_names_45 : decode cX12_names 45 = .ok (.getfield 124, 3) := by decide +kernel
theorem dX12_names_48 : decode cX12_names 48 = .ok (.iload_n 1, 1) := by decide +kernel
theorem dX12_names_49 : decode cX12_names 49 = .ok (.iaload, 1) := by decide +kernel
theorem dX12_names_50 : decode cX12_names 50 = .ok (.iastore, 1) := by decide +kernel
theorem dX12_names_51 : decode cX12_names 51 = .ok (.aload_n 0, 1) := by decide +kernel
theorem dX12_names_52 : decode cX12_names 52 = .ok (.getfield 87, 3) := by decide +kernel
theorem dX12_names_55 : decode cX12_names 55 = .ok (.iconst 5, 1) := by decide +kernel
theorem dX12_names_56 : decode cX12_names 56 = .ok (.aload_n 0, 1) := by decide +kernel
theorem dX12_names_57 : decode cX12_names 57 = .ok (.iload_n 1, 1) := by decide +kernel
theorem dX12_names_58 : decode cX12_names 58 = .ok (.iconst 0, 1) := by decide +kernel
theorem dX12_names_59 : decode cX12_names 59 = .ok (.invokevirtual 448, 3) := by decide +kernel
theorem dX12_names_62 : decode cX12_names 62 = .ok (.iastore, 1) := by decide +kernel
theorem dX12_names_63 : decode cX12_names 63 = .ok (.aload_n 0, 1) := by decide +kernel
theorem dX12_names_64 : decode cX12_names 64 = .ok (.getfield 87, 3) := by decide +kernel
theorem dX12_names_67 : decode cX12_names 67 = .ok (.bipush 6, 2) := by decide +kernel
theorem dX12_names_69 : decode cX12_names 69 = .ok (.aload_n 0, 1) := by decide +kernel
theorem dX12_names_70 : decode cX12_names 70 = .ok (.iload_n 1, 1) := by decide +kernel
theorem dX12_names_71 : decode cX12_names 71 = .ok (.iconst 1, 1) := by decide +kernel
theorem dX12_names_72 : decode cX12_names 72 = .ok (.invokevirtual 448, 3) := by decide +kernel
theorem dX12_names_75 : decode cX12_names 75 = .ok (.iastore, 1) := by decide +kernel
theorem dX12_names_76 : decode cX12_names 76 = .ok (.aload_n 0, 1) := by decide +kernel
theorem dX12_names_77 : decode cX12_names 77 = .ok (.getfield 87, 3) := by decide +kernel
theorem dX12_names_80 : decode cX12_names 80 = .ok (.bipush 7, 2) := by decide +kernel
theorem dX12_names_82 : decode cX12_names 82 = .ok (.aload_n 0, 1) := by decide +kernel
theorem dX12_names_83 : decode cX12_names 83 = .ok (.iload_n 1, 1) := by decide +kernel
theorem dX12_names_84 : decode cX12_names 84 = .ok (.iconst 2, 1) := by decide +kernel
theorem dX12_names_85 : decode cX12_names 85 = .ok (.invokevirtual 448, 3) := by decide +kernel
theorem dX12_names_88 : decode cX12_names 88 = .ok (.iastore, 1) := by decide +kernel
theorem dX12_names_89 : decode cX12_names 89 = .ok (.aload_n 0, 1) := by decide +kernel
theorem dX12_names_90 : decode cX12_names 90 = .ok (.getfield 87, 3) := by decide +kernel
theorem dX12_names_93 : decode cX12_names 93 = .ok (.bipush 8, 2) := by decide +kernel
theorem dX12_names_95 : decode cX12_names 95 = .ok (.aload_n 0, 1) := by decide +kernel
theorem dX12_names_96 : decode cX12_names 96 = .ok (.iload_n 1, 1) := by decide +kernel
theorem dX12_names_97 : decode cX12_names 97 = .ok (.iconst 3, 1) := by decide +kernel
theorem dX12_names_98 : decode cX12_names 98 = .ok (.invokevirtual 448, 3) := by decide +kernel
theorem dX12_names_101 : decode cX12_names 101 = .ok (.iastore, 1) := by decide +kernel
theorem dX12_names_102 : decode cX12_names 102 = .ok (.return_, 1) := by decide +kernel
theorem dX12_lawOf_0 : decode cX12_lawOf 0 = .ok (.aload_n 0, 1) := by decide +kernel
theorem dX12_lawOf_1 : decode cX12_lawOf 1 = .ok (.iload_n 1, 1) := by decide +kernel
theorem dX12_lawOf_2 : decode cX12_lawOf 2 = .ok (.invokevirtual 451, 3) := by decide +kernel
theorem dX12_lawOf_5 : decode cX12_lawOf 5 = .ok (.istore 6, 2) := by decide +kernel
theorem dX12_lawOf_7 : decode cX12_lawOf 7 = .ok (.iload 6, 2) := by decide +kernel
theorem dX12_lawOf_9 : decode cX12_lawOf 9 = .ok (.iconst (-1), 1) := by decide +kernel
theorem dX12_lawOf_10 : decode cX12_lawOf 10 = .ok (.if_icmp .ne 5, 3) := by decide +kernel
theorem dX12_lawOf_13 : decode cX12_lawOf 13 = .ok (.iload_n 3, 1) := by decide +kernel
theorem dX12_lawOf_14 : decode cX12_lawOf 14 = .ok (.ireturn, 1) := by decide +kernel
theorem dX12_lawOf_15 : decode cX12_lawOf 15 = .ok (.aload_n 0, 1) := by decide +kernel
theorem dX12_lawOf_16 : decode cX12_lawOf 16 = .ok (.iload_n 2, 1) := by decide +kernel
theorem dX12_lawOf_17 : decode cX12_lawOf 17 = .ok (.invokevirtual 454, 3) := by decide +kernel
theorem dX12_lawOf_20 : decode cX12_lawOf 20 = .ok (.aload_n 0, 1) := by decide +kernel
theorem dX12_lawOf_21 : decode cX12_lawOf 21 = .ok (.iload 6, 2) := by decide +kernel
theorem dX12_lawOf_23 : decode cX12_lawOf 23 = .ok (.invokevirtual 457, 3) := by decide +kernel
theorem dX12_lawOf_26 : decode cX12_lawOf 26 = .ok (.iload 4, 2) := by decide +kernel
theorem dX12_lawOf_28 : decode cX12_lawOf 28 = .ok (.iload 5, 2) := by decide +kernel
theorem dX12_lawOf_30 : decode cX12_lawOf 30 = .ok (.invokestatic 461, 3) := by decide +kernel
theorem dX12_lawOf_33 : decode cX12_lawOf 33 = .ok (.ireturn, 1) := by decide +kernel
theorem dX12_stopsOf_0 : decode cX12_stopsOf 0 = .ok (.aload_n 0, 1) := by decide +kernel
theorem dX12_stopsOf_1 : decode cX12_stopsOf 1 = .ok (.getfield 418, 3) := by decide +kernel
theorem dX12_stopsOf_4 : decode cX12_stopsOf 4 = .ok (.iconst 2, 1) := by decide +kernel
theorem dX12_stopsOf_5 : decode cX12_stopsOf 5 = .ok (.if_icmp .ne 10, 3) := by decide +kernel
theorem dX12_stopsOf_8 : decode cX12_stopsOf 8 = .ok (.aload_n 0, 1) := by decide +kernel
theorem dX12_stopsOf_9 : decode cX12_stopsOf 9 = .ok (.getfield 465, 3) := by decide +kernel
theorem dX12_stopsOf_12 : decode cX12_stopsOf 12 = .ok (.goto 18, 3) := by decide +kernel
theorem dX12_stopsOf_15 : decode cX12_stopsOf 15 = .ok (.aload_n 0, 1) := by decide +kernel
theorem dX12_stopsOf_16 : decode cX12_stopsOf 16 = .ok (.iconst 1, 1) := by decide +kernel
theorem dX12_stopsOf_17 : decode cX12_stopsOf 17 = .ok (.iload_n 1, 1) := by decide +kernel
theorem dX12_stopsOf_18 : decode cX12_stopsOf 18 = .ok (.aload_n 0, 1) := by decide +kernel
theorem dX12_stopsOf_19 : decode cX12_stopsOf 19 = .ok (.iload_n 1, 1) := by decide +kernel
theorem dX12_stopsOf_20 : decode cX12_stopsOf 20 = .ok (.iconst 2, 1) := by decide +kernel
theorem dX12_stopsOf_21 : decode cX12_stopsOf 21 = .ok (.invokevirtual 448, 3) := by decide +kernel
theorem dX12_stopsOf_24 : decode cX12_stopsOf 24 = .ok (.iconst 0, 1) := by decide +kernel
theorem dX12_stopsOf_25 : decode cX12_stopsOf 25 = .ok (.bipush 99, 2) := by decide +kernel
theorem dX12_stopsOf_27 : decode cX12_stopsOf 27 = .ok (.invokevirtual 468, 3) := by decide +kernel
theorem dX12_stopsOf_30 : decode cX12_stopsOf 30 = .ok (.ireturn, 1) := by decide +kernel
theorem dX12_longOf_0 : decode cX12_longOf 0 = .ok (.aload_n 0, 1) := by decide +kernel
theorem dX12_longOf_1 : decode cX12_longOf 1 = .ok (.getfield 418, 3) := by decide +kernel
theorem dX12_longOf_4 : decode cX12_longOf 4 = .ok (.iconst 2, 1) := by decide +kernel
theorem dX12_longOf_5 : decode cX12_longOf 5 = .ok (.if_icmp .ne 10, 3) := by decide +kernel
theorem dX12_longOf_8 : decode cX12_longOf 8 = .ok (.aload_n 0, 1) := by decide +kernel
theorem dX12_longOf_9 : decode cX12_longOf 9 = .ok (.getfield 472, 3) := by decide +kernel
theorem dX12_longOf_12 : decode cX12_longOf 12 = .ok (.goto 18, 3) := by decide +kernel
theorem dX12_longOf_15 : decode cX12_longOf 15 = .ok (.aload_n 0, 1) := by decide +kernel
theorem dX12_longOf_16 : decode cX12_longOf 16 = .ok (.iconst 2, 1) := by decide +kernel
theorem dX12_longOf_17 : decode cX12_longOf 17 = .ok (.iload_n 1, 1) := by decide +kernel
theorem dX12_longOf_18 : decode cX12_longOf 18 = .ok (.aload_n 0, 1) := by decide +kernel
theorem dX12_longOf_19 : decode cX12_longOf 19 = .ok (.iload_n 1, 1) := by decide +kernel
theorem dX12_longOf_20 : decode cX12_longOf 20 = .ok (.iconst 3, 1) := by decide +kernel
theorem dX12_longOf_21 : decode cX12_longOf 21 = .ok (.invokevirtual 448, 3) := by decide +kernel
theorem dX12_longOf_24 : decode cX12_longOf 24 = .ok (.iconst 1, 1) := by decide +kernel
theorem dX12_longOf_25 : decode cX12_longOf 25 = .ok (.bipush 99, 2) := by decide +kernel
theorem dX12_longOf_27 : decode cX12_longOf 27 = .ok (.invokevirtual 468, 3) := by decide +kernel
theorem dX12_longOf_30 : decode cX12_longOf 30 = .ok (.ireturn, 1) := by decide +kernel
theorem dX12_findsPatience_0 : decode cX12_findsPatience 0 = .ok (.aload_n 0, 1) := by decide +kernel
theorem dX12_findsPatience_1 : decode cX12_findsPatience 1 = .ok (.getfield 418, 3) := by decide +kernel
theorem dX12_findsPatience_4 : decode cX12_findsPatience 4 = .ok (.iconst 2, 1) := by decide +kernel
theorem dX12_findsPatience_5 : decode cX12_findsPatience 5 = .ok (.if_icmp .ne 10, 3) := by decide +kernel
theorem dX12_findsPatience_8 : decode cX12_findsPatience 8 = .ok (.aload_n 0, 1) := by decide +kernel
theorem dX12_findsPatience_9 : decode cX12_findsPatience 9 = .ok (.getfield 139, 3) := by decide +kernel
theorem dX12_findsPatience_12 : decode cX12_findsPatience 12 = .ok (.iload_n 1, 1) := by decide +kernel
theorem dX12_findsPatience_13 : decode cX12_findsPatience 13 = .ok (.iaload, 1) := by decide +kernel
theorem dX12_findsPatience_14 : decode cX12_findsPatience 14 = .ok (.ireturn, 1) := by decide +kernel
theorem dX12_findsPatience_15 : decode cX12_findsPatience 15 = .ok (.aload_n 0, 1) := by decide +kernel
theorem dX12_findsPatience_16 : decode cX12_findsPatience 16 = .ok (.iconst 0, 1) := by decide +kernel
theorem dX12_findsPatience_17 : decode cX12_findsPatience 17 = .ok (.iload_n 1, 1) := by decide +kernel
theorem dX12_findsPatience_18 : decode cX12_findsPatience 18 = .ok (.aload_n 0, 1) := by decide +kernel
theorem dX12_findsPatience_19 : decode cX12_findsPatience 19 = .ok (.iload_n 1, 1) := by decide +kernel
theorem dX12_findsPatience_20 : decode cX12_findsPatience 20 = .ok (.iconst 0, 1) := by decide +kernel
theorem dX12_findsPatience_21 : decode cX12_findsPatience 21 = .ok (.invokevirtual 448, 3) := by decide +kernel
theorem dX12_findsPatience_24 : decode cX12_findsPatience 24 = .ok (.iconst 0, 1) := by decide +kernel
theorem dX12_findsPatience_25 : decode cX12_findsPatience 25 = .ok (.sipush 999, 3) := by decide +kernel
theorem dX12_findsPatience_28 : decode cX12_findsPatience 28 = .ok (.invokevirtual 468, 3) := by decide +kernel
theorem dX12_findsPatience_31 : decode cX12_findsPatience 31 = .ok (.istore_n 2, 1) := by decide +kernel
theorem dX12_findsPatience_32 : decode cX12_findsPatience 32 = .ok (.iload_n 2, 1) := by decide +kernel
theorem dX12_findsPatience_33 : decode cX12_findsPatience 33 = .ok (.aload_n 0, 1) := by decide +kernel
theorem dX12_findsPatience_34 : decode cX12_findsPatience 34 = .ok (.iload_n 1, 1) := by decide +kernel
theorem dX12_findsPatience_35 : decode cX12_findsPatience 35 = .ok (.iconst 1, 1) := by decide +kernel
theorem dX12_findsPatience_36 : decode cX12_findsPatience 36 = .ok (.invokevirtual 448, 3) := by decide +kernel
theorem dX12_findsPatience_39 : decode cX12_findsPatience 39 = .ok (.ifCond .ne 7, 3) := by decide +kernel
theorem dX12_findsPatience_42 : decode cX12_findsPatience 42 = .ok (.iconst 0, 1) := by decide +kernel
theorem dX12_findsPatience_43 : decode cX12_findsPatience 43 = .ok (.goto 15, 3) := by decide +kernel
theorem dX12_findsPatience_46 : decode cX12_findsPatience 46 = .ok (.aload_n 0, 1) := by decide +kernel
theorem dX12_findsPatience_47 : decode cX12_findsPatience 47 = .ok (.aload_n 0, 1) := by decide +kernel
theorem dX12_findsPatience_48 : decode cX12_findsPatience 48 = .ok (.iload_n 1, 1) := by decide +kernel
theorem dX12_findsPatience_49 : decode cX12_findsPatience 49 = .ok (.iconst 1, 1) := by decide +kernel
theorem dX12_findsPatience_50 : decode cX12_findsPatience 50 = .ok (.invokevirtual 448, 3) := by decide +kernel
theorem dX12_findsPatience_53 : decode cX12_findsPatience 53 = .ok (.iconst 1, 1) := by decide +kernel
theorem dX12_findsPatience_54 : decode cX12_findsPatience 54 = .ok (.iadd, 1) := by decide +kernel
theorem dX12_findsPatience_55 : decode cX12_findsPatience 55 = .ok (.invokevirtual 475, 3) := by decide +kernel
theorem dX12_findsPatience_58 : decode cX12_findsPatience 58 = .ok (.iadd, 1) := by decide +kernel
theorem dX12_findsPatience_59 : decode cX12_findsPatience 59 = .ok (.istore_n 2, 1) := by decide +kernel
theorem dX12_findsPatience_60 : decode cX12_findsPatience 60 = .ok (.aload_n 0, 1) := by decide +kernel
theorem dX12_findsPatience_61 : decode cX12_findsPatience 61 = .ok (.getfield 427, 3) := by decide +kernel
theorem dX12_findsPatience_64 : decode cX12_findsPatience 64 = .ok (.tableswitch 107 1 3 #[28, 35, 72], 28) := by decide +kernel
theorem dX12_findsPatience_92 : decode cX12_findsPatience 92 = .ok (.iload_n 2, 1) := by decide +kernel
theorem dX12_findsPatience_93 : decode cX12_findsPatience 93 = .ok (.bipush 10, 2) := by decide +kernel
theorem dX12_findsPatience_95 : decode cX12_findsPatience 95 = .ok (.iload_n 1, 1) := by decide +kernel
theorem dX12_findsPatience_96 : decode cX12_findsPatience 96 = .ok (.imul, 1) := by decide +kernel
theorem dX12_findsPatience_97 : decode cX12_findsPatience 97 = .ok (.iadd, 1) := by decide +kernel
theorem dX12_findsPatience_98 : decode cX12_findsPatience 98 = .ok (.ireturn, 1) := by decide +kernel
theorem dX12_findsPatience_99 : decode cX12_findsPatience 99 = .ok (.iload_n 1, 1) := by decide +kernel
theorem dX12_findsPatience_100 : decode cX12_findsPatience 100 = .ok (.ifCond .eq 28, 3) := by decide +kernel
theorem dX12_findsPatience_103 : decode cX12_findsPatience 103 = .ok (.aload_n 0, 1) := by decide +kernel
theorem dX12_findsPatience_104 : decode cX12_findsPatience 104 = .ok (.getfield 109, 3) := by decide +kernel
theorem dX12_findsPatience_107 : decode cX12_findsPatience 107 = .ok (.iload_n 1, 1) := by decide +kernel
theorem dX12_findsPatience_108 : decode cX12_findsPatience 108 = .ok (.iaload, 1) := by decide +kernel
theorem dX12_findsPatience_109 : decode cX12_findsPatience 109 = .ok (.iconst (-1), 1) := by decide +kernel
theorem dX12_findsPatience_110 : decode cX12_findsPatience 110 = .ok (.if_icmp .eq 22, 3) := by decide +kernel
theorem dX12_findsPatience_113 : decode cX12_findsPatience 113 = .ok (.aload_n 0, 1) := by decide +kernel
theorem dX12_findsPatience_114 : decode cX12_findsPatience 114 = .ok (.getfield 109, 3) := by decide +kernel
theorem dX12_findsPatience_117 : decode cX12_findsPatience 117 = .ok (.iload_n 1, 1) := by decide +kernel
theorem dX12_findsPatience_118 : decode cX12_findsPatience 118 = .ok (.iaload, 1) := by decide +kernel
theorem dX12_findsPatience_119 : decode cX12_findsPatience 119 = .ok (.aload_n 0, 1) := by decide +kernel
theorem dX12_findsPatience_120 : decode cX12_findsPatience 120 = .ok (.getfield 118, 3) := by decide +kernel
theorem dX12_findsPatience_123 : decode cX12_findsPatience 123 = .ok (.iload_n 1, 1) := by decide +kernel
theorem dX12_findsPatience_124 : decode cX12_findsPatience 124 = .ok (.iaload, 1) := by decide +kernel
theorem dX12_findsPatience_125 : decode cX12_findsPatience 125 = .ok (.if_icmp .lt 7, 3) := by decide +kernel
theorem dX12_findsPatience_128 : decode cX12_findsPatience 128 = .ok (.iload_n 2, 1) := by decide +kernel
theorem dX12_findsPatience_129 : decode cX12_findsPatience 129 = .ok (.goto 6, 3) := by decide +kernel
theorem dX12_findsPatience_132 : decode cX12_findsPatience 132 = .ok (.sipush 9999, 3) := by decide +kernel
theorem dX12_findsPatience_135 : decode cX12_findsPatience 135 = .ok (.ireturn, 1) := by decide +kernel
theorem dX12_findsPatience_136 : decode cX12_findsPatience 136 = .ok (.aload_n 0, 1) := by decide +kernel
theorem dX12_findsPatience_137 : decode cX12_findsPatience 137 = .ok (.getfield 106, 3) := by decide +kernel
theorem dX12_findsPatience_140 : decode cX12_findsPatience 140 = .ok (.iload_n 1, 1) := by decide +kernel
theorem dX12_findsPatience_141 : decode cX12_findsPatience 141 = .ok (.iaload, 1) := by decide +kernel
theorem dX12_findsPatience_142 : decode cX12_findsPatience 142 = .ok (.iconst (-1), 1) := by decide +kernel
theorem dX12_findsPatience_143 : decode cX12_findsPatience 143 = .ok (.if_icmp .eq 24, 3) := by decide +kernel
theorem dX12_findsPatience_146 : decode cX12_findsPatience 146 = .ok (.aload_n 0, 1) := by decide +kernel
theorem dX12_findsPatience_147 : decode cX12_findsPatience 147 = .ok (.getfield 106, 3) := by decide +kernel
theorem dX12_findsPatience_150 : decode cX12_findsPatience 150 = .ok (.iload_n 1, 1) := by decide +kernel
theorem dX12_findsPatience_151 : decode cX12_findsPatience 151 = .ok (.iaload, 1) := by decide +kernel
theorem dX12_findsPatience_152 : decode cX12_findsPatience 152 = .ok (.iconst 1, 1) := by decide +kernel
theorem dX12_findsPatience_153 : decode cX12_findsPatience 153 = .ok (.iadd, 1) := by decide +kernel
theorem dX12_findsPatience_154 : decode cX12_findsPatience 154 = .ok (.aload_n 0, 1) := by decide +kernel
theorem dX12_findsPatience_155 : decode cX12_findsPatience 155 = .ok (.getfield 421, 3) := by decide +kernel
theorem dX12_findsPatience_158 : decode cX12_findsPatience 158 = .ok (.irem, 1) := by decide +kernel
theorem dX12_findsPatience_159 : decode cX12_findsPatience 159 = .ok (.iload_n 1, 1) := by decide +kernel
theorem dX12_findsPatience_160 : decode cX12_findsPatience 160 = .ok (.if_icmp .ne 7, 3) := by decide +kernel
theorem dX12_findsPatience_163 : decode cX12_findsPatience 163 = .ok (.iconst 0, 1) := by decide +kernel
theorem dX12_findsPatience_164 : decode cX12_findsPatience 164 = .ok (.goto 6, 3) := by decide +kernel
theorem dX12_findsPatience_167 : decode cX12_findsPatience 167 = .ok (.iconst 3, 1) := by decide +kernel
theorem dX12_findsPatience_168 : decode cX12_findsPatience 168 = .ok (.iload_n 2, 1) := by decide +kernel
theorem dX12_findsPatience_169 : decode cX12_findsPatience 169 = .ok (.imul, 1) := by decide +kernel
theorem dX12_findsPatience_170 : decode cX12_findsPatience 170 = .ok (.ireturn, 1) := by decide +kernel
theorem dX12_findsPatience_171 : decode cX12_findsPatience 171 = .ok (.iload_n 2, 1) := by decide +kernel
theorem dX12_findsPatience_172 : decode cX12_findsPatience 172 = .ok (.ireturn, 1) := by decide +kernel
theorem dX12_beginsTurn_0 : decode cX12_beginsTurn 0 = .ok (.aload_n 0, 1) := by decide +kernel
theorem dX12_beginsTurn_1 : decode cX12_beginsTurn 1 = .ok (.getfield 418, 3) := by decide +kernel
theorem dX12_beginsTurn_4 : decode cX12_beginsTurn 4 = .ok (.ifCond .ne 44, 3) := by decide +kernel
theorem dX12_beginsTurn_7 : decode cX12_beginsTurn 7 = .ok (.aload_n 0, 1) := by decide +kernel
theorem dX12_beginsTurn_8 : decode cX12_beginsTurn 8 = .ok (.getfield 7, 3) := by decide +kernel
theorem dX12_beginsTurn_11 : decode cX12_beginsTurn 11 = .ok (.sipush 165, 3) := by decide +kernel
theorem dX12_beginsTurn_14 : decode cX12_beginsTurn 14 = .ok (.iaload, 1) := by decide +kernel
theorem dX12_beginsTurn_15 : decode cX12_beginsTurn 15 = .ok (.bipush 90, 2) := by decide +kernel
theorem dX12_beginsTurn_17 : decode cX12_beginsTurn 17 = .ok (.if_icmp .ne 5, 3) := by decide +kernel
theorem dX12_beginsTurn_20 : decode cX12_beginsTurn 20 = .ok (.iconst 0, 1) := by decide +kernel
theorem dX12_beginsTurn_21 : decode cX12_beginsTurn 21 = .ok (.ireturn, 1) := by decide +kernel
theorem dX12_beginsTurn_22 : decode cX12_beginsTurn 22 = .ok (.aload_n 0, 1) := by decide +kernel
theorem dX12_beginsTurn_23 : decode cX12_beginsTurn 23 = .ok (.getfield 127, 3) := by decide +kernel
theorem dX12_beginsTurn_26 : decode cX12_beginsTurn 26 = .ok (.iload_n 1, 1) := by decide +kernel
theorem dX12_beginsTurn_27 : decode cX12_beginsTurn 27 = .ok (.aload_n 0, 1) := by decide +kernel
theorem dX12_beginsTurn_28 : decode cX12_beginsTurn 28 = .ok (.getfield 7, 3) := by decide +kernel
theorem dX12_beginsTurn_31 : decode cX12_beginsTurn 31 = .ok (.sipush 165, 3) := by decide +kernel
theorem dX12_beginsTurn_34 : decode cX12_beginsTurn 34 = .ok (.iaload, 1) := by decide +kernel
theorem dX12_beginsTurn_35 : decode cX12_beginsTurn 35 = .ok (.iastore, 1) := by decide +kernel
theorem dX12_beginsTurn_36 : decode cX12_beginsTurn 36 = .ok (.aload_n 0, 1) := by decide +kernel
theorem dX12_beginsTurn_37 : decode cX12_beginsTurn 37 = .ok (.getfield 7, 3) := by decide +kernel
theorem dX12_beginsTurn_40 : decode cX12_beginsTurn 40 = .ok (.sipush 165, 3) := by decide +kernel
theorem dX12_beginsTurn_43 : decode cX12_beginsTurn 43 = .ok (.dup2, 1) := by decide +kernel
theorem dX12_beginsTurn_44 : decode cX12_beginsTurn 44 = .ok (.iaload, 1) := by decide +kernel
theorem dX12_beginsTurn_45 : decode cX12_beginsTurn 45 = .ok (.iconst 1, 1) := by decide +kernel
theorem dX12_beginsTurn_46 : decode cX12_beginsTurn 46 = .ok (.iadd, 1) := by decide +kernel
theorem dX12_beginsTurn_47 : decode cX12_beginsTurn 47 = .ok (.iastore, 1) := by decide +kernel
theorem dX12_beginsTurn_48 : decode cX12_beginsTurn 48 = .ok (.aload_n 0, 1) := by decide +kernel
theorem dX12_beginsTurn_49 : decode cX12_beginsTurn 49 = .ok (.iload_n 1, 1) := by decide +kernel
theorem dX12_beginsTurn_50 : decode cX12_beginsTurn 50 = .ok (.invokevirtual 478, 3) := by decide +kernel
theorem dX12_beginsTurn_53 : decode cX12_beginsTurn 53 = .ok (.istore_n 2, 1) := by decide +kernel
theorem dX12_beginsTurn_54 : decode cX12_beginsTurn 54 = .ok (.aload_n 0, 1) := by decide +kernel
theorem dX12_beginsTurn_55 : decode cX12_beginsTurn 55 = .ok (.getfield 418, 3) := by decide +kernel
theorem dX12_beginsTurn_58 : decode cX12_beginsTurn 58 = .ok (.ifCond .ne 67, 3) := by decide +kernel
theorem dX12_beginsTurn_61 : decode cX12_beginsTurn 61 = .ok (.sipush 166, 3) := by decide +kernel
theorem dX12_beginsTurn_64 : decode cX12_beginsTurn 64 = .ok (.iconst 5, 1) := by decide +kernel
theorem dX12_beginsTurn_65 : decode cX12_beginsTurn 65 = .ok (.aload_n 0, 1) := by decide +kernel
theorem dX12_beginsTurn_66 : decode cX12_beginsTurn 66 = .ok (.getfield 127, 3) := by decide +kernel
theorem dX12_beginsTurn_69 : decode cX12_beginsTurn 69 = .ok (.iload_n 1, 1) := by decide +kernel
theorem dX12_beginsTurn_70 : decode cX12_beginsTurn 70 = .ok (.iaload, 1) := by decide +kernel
theorem dX12_beginsTurn_71 : decode cX12_beginsTurn 71 = .ok (.imul, 1) := by decide +kernel
theorem dX12_beginsTurn_72 : decode cX12_beginsTurn 72 = .ok (.iadd, 1) := by decide +kernel
theorem dX12_beginsTurn_73 : decode cX12_beginsTurn 73 = .ok (.istore_n 3, 1) := by decide +kernel
theorem dX12_beginsTurn_74 : decode cX12_beginsTurn 74 = .ok (.aload_n 0, 1) := by decide +kernel
theorem dX12_beginsTurn_75 : decode cX12_beginsTurn 75 = .ok (.getfield 7, 3) := by decide +kernel
theorem dX12_beginsTurn_78 : decode cX12_beginsTurn 78 = .ok (.iload_n 3, 1) := by decide +kernel
theorem dX12_beginsTurn_79 : decode cX12_beginsTurn 79 = .ok (.iconst 0, 1) := by decide +kernel
theorem dX12_beginsTurn_80 : decode cX12_beginsTurn 80 = .ok (.iadd, 1) := by decide +kernel
theorem dX12_beginsTurn_81 : decode cX12_beginsTurn 81 = .ok (.iload_n 1, 1) := by decide +kernel
theorem dX12_beginsTurn_82 : decode cX12_beginsTurn 82 = .ok (.iastore, 1) := by decide +kernel
theorem dX12_beginsTurn_83 : decode cX12_beginsTurn 83 = .ok (.aload_n 0, 1) := by decide +kernel
theorem dX12_beginsTurn_84 : decode cX12_beginsTurn 84 = .ok (.getfield 7, 3) := by decide +kernel
theorem dX12_beginsTurn_87 : decode cX12_beginsTurn 87 = .ok (.iload_n 3, 1) := by decide +kernel
theorem dX12_beginsTurn_88 : decode cX12_beginsTurn 88 = .ok (.iconst 1, 1) := by decide +kernel
theorem dX12_beginsTurn_89 : decode cX12_beginsTurn 89 = .ok (.iadd, 1) := by decide +kernel
theorem dX12_beginsTurn_90 : decode cX12_beginsTurn 90 = .ok (.aload_n 0, 1) := by decide +kernel
theorem dX12_beginsTurn_91 : decode cX12_beginsTurn 91 = .ok (.getfield 424, 3) := by decide +kernel
theorem dX12_beginsTurn_94 : decode cX12_beginsTurn 94 = .ok (.iastore, 1) := by decide +kernel
theorem dX12_beginsTurn_95 : decode cX12_beginsTurn 95 = .ok (.aload_n 0, 1) := by decide +kernel
theorem dX12_beginsTurn_96 : decode cX12_beginsTurn 96 = .ok (.getfield 7, 3) := by decide +kernel
theorem dX12_beginsTurn_99 : decode cX12_beginsTurn 99 = .ok (.iload_n 3, 1) := by decide +kernel
theorem dX12_beginsTurn_100 : decode cX12_beginsTurn 100 = .ok (.iconst 2, 1) := by decide +kernel
theorem dX12_beginsTurn_101 : decode cX12_beginsTurn 101 = .ok (.iadd, 1) := by decide +kernel
theorem dX12_beginsTurn_102 : decode cX12_beginsTurn 102 = .ok (.iload_n 2, 1) := by decide +kernel
theorem dX12_beginsTurn_103 : decode cX12_beginsTurn 103 = .ok (.iastore, 1) := by decide +kernel
theorem dX12_beginsTurn_104 : decode cX12_beginsTurn 104 = .ok (.aload_n 0, 1) := by decide +kernel
theorem dX12_beginsTurn_105 : decode cX12_beginsTurn 105 = .ok (.getfield 7, 3) := by decide +kernel
theorem dX12_beginsTurn_108 : decode cX12_beginsTurn 108 = .ok (.iload_n 3, 1) := by decide +kernel
theorem dX12_beginsTurn_109 : decode cX12_beginsTurn 109 = .ok (.iconst 3, 1) := by decide +kernel
theorem dX12_beginsTurn_110 : decode cX12_beginsTurn 110 = .ok (.iadd, 1) := by decide +kernel
theorem dX12_beginsTurn_111 : decode cX12_beginsTurn 111 = .ok (.iconst (-1), 1) := by decide +kernel
theorem dX12_beginsTurn_112 : decode cX12_beginsTurn 112 = .ok (.iastore, 1) := by decide +kernel
theorem dX12_beginsTurn_113 : decode cX12_beginsTurn 113 = .ok (.aload_n 0, 1) := by decide +kernel
theorem dX12_beginsTurn_114 : decode cX12_beginsTurn 114 = .ok (.getfield 7, 3) := by decide +kernel
theorem dX12_beginsTurn_117 : decode cX12_beginsTurn 117 = .ok (.iload_n 3, 1) := by decide +kernel
theorem dX12_beginsTurn_118 : decode cX12_beginsTurn 118 = .ok (.iconst 4, 1) := by decide +kernel
theorem dX12_beginsTurn_119 : decode cX12_beginsTurn 119 = .ok (.iadd, 1) := by decide +kernel
theorem dX12_beginsTurn_120 : decode cX12_beginsTurn 120 = .ok (.iconst 0, 1) := by decide +kernel
theorem dX12_beginsTurn_121 : decode cX12_beginsTurn 121 = .ok (.iastore, 1) := by decide +kernel
theorem dX12_beginsTurn_122 : decode cX12_beginsTurn 122 = .ok (.goto 64, 3) := by decide +kernel
theorem dX12_beginsTurn_125 : decode cX12_beginsTurn 125 = .ok (.aload_n 0, 1) := by decide +kernel
theorem dX12_beginsTurn_126 : decode cX12_beginsTurn 126 = .ok (.getfield 418, 3) := by decide +kernel
theorem dX12_beginsTurn_129 : decode cX12_beginsTurn 129 = .ok (.iconst 2, 1) := by decide +kernel
theorem dX12_beginsTurn_130 : decode cX12_beginsTurn 130 = .ok (.if_icmp .ne 56, 3) := by decide +kernel
theorem dX12_beginsTurn_133 : decode cX12_beginsTurn 133 = .ok (.aload_n 0, 1) := by decide +kernel
theorem dX12_beginsTurn_134 : decode cX12_beginsTurn 134 = .ok (.getfield 154, 3) := by decide +kernel
theorem dX12_beginsTurn_137 : decode cX12_beginsTurn 137 = .ok (.iload_n 1, 1) := by decide +kernel
theorem dX12_beginsTurn_138 : decode cX12_beginsTurn 138 = .ok (.aload_n 0, 1) := by decide +kernel
theorem dX12_beginsTurn_139 : decode cX12_beginsTurn 139 = .ok (.getfield 481, 3) := by decide +kernel
theorem dX12_beginsTurn_142 : decode cX12_beginsTurn 142 = .ok (.iastore, 1) := by decide +kernel
theorem dX12_beginsTurn_143 : decode cX12_beginsTurn 143 = .ok (.aload_n 0, 1) := by decide +kernel
theorem dX12_beginsTurn_144 : decode cX12_beginsTurn 144 = .ok (.getfield 145, 3) := by decide +kernel
theorem dX12_beginsTurn_147 : decode cX12_beginsTurn 147 = .ok (.aload_n 0, 1) := by decide +kernel
theorem dX12_beginsTurn_148 : decode cX12_beginsTurn 148 = .ok (.getfield 481, 3) := by decide +kernel
theorem dX12_beginsTurn_151 : decode cX12_beginsTurn 151 = .ok (.iload_n 1, 1) := by decide +kernel
theorem dX12_beginsTurn_152 : decode cX12_beginsTurn 152 = .ok (.iastore, 1) := by decide +kernel
theorem dX12_beginsTurn_153 : decode cX12_beginsTurn 153 = .ok (.aload_n 0, 1) := by decide +kernel
theorem dX12_beginsTurn_154 : decode cX12_beginsTurn 154 = .ok (.getfield 148, 3) := by decide +kernel
theorem dX12_beginsTurn_157 : decode cX12_beginsTurn 157 = .ok (.aload_n 0, 1) := by decide +kernel
theorem dX12_beginsTurn_158 : decode cX12_beginsTurn 158 = .ok (.getfield 481, 3) := by decide +kernel
theorem dX12_beginsTurn_161 : decode cX12_beginsTurn 161 = .ok (.aload_n 0, 1) := by decide +kernel
theorem dX12_beginsTurn_162 : decode cX12_beginsTurn 162 = .ok (.getfield 424, 3) := by decide +kernel
theorem dX12_beginsTurn_165 : decode cX12_beginsTurn 165 = .ok (.iastore, 1) := by decide +kernel
theorem dX12_beginsTurn_166 : decode cX12_beginsTurn 166 = .ok (.aload_n 0, 1) := by decide +kernel
theorem dX12_beginsTurn_167 : decode cX12_beginsTurn 167 = .ok (.getfield 151, 3) := by decide +kernel
theorem dX12_beginsTurn_170 : decode cX12_beginsTurn 170 = .ok (.aload_n 0, 1) := by decide +kernel
theorem dX12_beginsTurn_171 : decode cX12_beginsTurn 171 = .ok (.getfield 481, 3) := by decide +kernel
theorem dX12_beginsTurn_174 : decode cX12_beginsTurn 174 = .ok (.iconst 0, 1) := by decide +kernel
theorem dX12_beginsTurn_175 : decode cX12_beginsTurn 175 = .ok (.iastore, 1) := by decide +kernel
theorem dX12_beginsTurn_176 : decode cX12_beginsTurn 176 = .ok (.aload_n 0, 1) := by decide +kernel
theorem dX12_beginsTurn_177 : decode cX12_beginsTurn 177 = .ok (.dup, 1) := by decide +kernel
theorem dX12_beginsTurn_178 : decode cX12_beginsTurn 178 = .ok (.getfield 481, 3) := by decide +kernel
theorem dX12_beginsTurn_181 : decode cX12_beginsTurn 181 = .ok (.iconst 1, 1) := by decide +kernel
theorem dX12_beginsTurn_182 : decode cX12_beginsTurn 182 = .ok (.iadd, 1) := by decide +kernel
theorem dX12_beginsTurn_183 : decode cX12_beginsTurn 183 = .ok (.putfield 481, 3) := by decide +kernel
theorem dX12_beginsTurn_186 : decode cX12_beginsTurn 186 = .ok (.aload_n 0, 1) := by decide +kernel
theorem dX12_beginsTurn_187 : decode cX12_beginsTurn 187 = .ok (.getfield 121, 3) := by decide +kernel
theorem dX12_beginsTurn_190 : decode cX12_beginsTurn 190 = .ok (.iload_n 1, 1) := by decide +kernel
theorem dX12_beginsTurn_191 : decode cX12_beginsTurn 191 = .ok (.dup2, 1) := by decide +kernel
theorem dX12_beginsTurn_192 : decode cX12_beginsTurn 192 = .ok (.iaload, 1) := by decide +kernel
theorem dX12_beginsTurn_193 : decode cX12_beginsTurn 193 = .ok (.iconst 1, 1) := by decide +kernel
theorem dX12_beginsTurn_194 : decode cX12_beginsTurn 194 = .ok (.iadd, 1) := by decide +kernel
theorem dX12_beginsTurn_195 : decode cX12_beginsTurn 195 = .ok (.iastore, 1) := by decide +kernel
theorem dX12_beginsTurn_196 : decode cX12_beginsTurn 196 = .ok (.aload_n 0, 1) := by decide +kernel
theorem dX12_beginsTurn_197 : decode cX12_beginsTurn 197 = .ok (.dup, 1) := by decide +kernel
theorem dX12_beginsTurn_198 : decode cX12_beginsTurn 198 = .ok (.getfield 433, 3) := by decide +kernel
theorem dX12_beginsTurn_201 : decode cX12_beginsTurn 201 = .ok (.iconst 1, 1) := by decide +kernel
theorem dX12_beginsTurn_202 : decode cX12_beginsTurn 202 = .ok (.iadd, 1) := by decide +kernel
theorem dX12_beginsTurn_203 : decode cX12_beginsTurn 203 = .ok (.putfield 433, 3) := by decide +kernel
theorem dX12_beginsTurn_206 : decode cX12_beginsTurn 206 = .ok (.aload_n 0, 1) := by decide +kernel
theorem dX12_beginsTurn_207 : decode cX12_beginsTurn 207 = .ok (.getfield 94, 3) := by decide +kernel
theorem dX12_beginsTurn_210 : decode cX12_beginsTurn 210 = .ok (.iload_n 1, 1) := by decide +kernel
theorem dX12_beginsTurn_211 : decode cX12_beginsTurn 211 = .ok (.iconst 1, 1) := by decide +kernel
theorem dX12_beginsTurn_212 : decode cX12_beginsTurn 212 = .ok (.iastore, 1) := by decide +kernel
theorem dX12_beginsTurn_213 : decode cX12_beginsTurn 213 = .ok (.aload_n 0, 1) := by decide +kernel
theorem dX12_beginsTurn_214 : decode cX12_beginsTurn 214 = .ok (.getfield 103, 3) := by decide +kernel
theorem dX12_beginsTurn_217 : decode cX12_beginsTurn 217 = .ok (.iload_n 1, 1) := by decide +kernel
theorem dX12_beginsTurn_218 : decode cX12_beginsTurn 218 = .ok (.iconst 0, 1) := by decide +kernel
theorem dX12_beginsTurn_219 : decode cX12_beginsTurn 219 = .ok (.iastore, 1) := by decide +kernel
theorem dX12_beginsTurn_220 : decode cX12_beginsTurn 220 = .ok (.aload_n 0, 1) := by decide +kernel
theorem dX12_beginsTurn_221 : decode cX12_beginsTurn 221 = .ok (.getfield 112, 3) := by decide +kernel
theorem dX12_beginsTurn_224 : decode cX12_beginsTurn 224 = .ok (.iload_n 1, 1) := by decide +kernel
theorem dX12_beginsTurn_225 : decode cX12_beginsTurn 225 = .ok (.aload_n 0, 1) := by decide +kernel
theorem dX12_beginsTurn_226 : decode cX12_beginsTurn 226 = .ok (.getfield 424, 3) := by decide +kernel
theorem dX12_beginsTurn_229 : decode cX12_beginsTurn 229 = .ok (.iastore, 1) := by decide +kernel
theorem dX12_beginsTurn_230 : decode cX12_beginsTurn 230 = .ok (.aload_n 0, 1) := by decide +kernel
theorem dX12_beginsTurn_231 : decode cX12_beginsTurn 231 = .ok (.getfield 115, 3) := by decide +kernel
theorem dX12_beginsTurn_234 : decode cX12_beginsTurn 234 = .ok (.iload_n 1, 1) := by decide +kernel
theorem dX12_beginsTurn_235 : decode cX12_beginsTurn 235 = .ok (.iload_n 2, 1) := by decide +kernel
theorem dX12_beginsTurn_236 : decode cX12_beginsTurn 236 = .ok (.iastore, 1) := by decide +kernel
theorem dX12_beginsTurn_237 : decode cX12_beginsTurn 237 = .ok (.iconst 1, 1) := by decide +kernel
theorem dX12_beginsTurn_238 : decode cX12_beginsTurn 238 = .ok (.ireturn, 1) := by decide +kernel
theorem dX12_endsTurn_0 : decode cX12_endsTurn 0 = .ok (.aload_n 0, 1) := by decide +kernel
theorem dX12_endsTurn_1 : decode cX12_endsTurn 1 = .ok (.getfield 418, 3) := by decide +kernel
theorem dX12_endsTurn_4 : decode cX12_endsTurn 4 = .ok (.ifCond .ne 49, 3) := by decide +kernel
theorem dX12_endsTurn_7 : decode cX12_endsTurn 7 = .ok (.aload_n 0, 1) := by decide +kernel
theorem dX12_endsTurn_8 : decode cX12_endsTurn 8 = .ok (.getfield 7, 3) := by decide +kernel
theorem dX12_endsTurn_11 : decode cX12_endsTurn 11 = .ok (.sipush 166, 3) := by decide +kernel
theorem dX12_endsTurn_14 : decode cX12_endsTurn 14 = .ok (.iconst 5, 1) := by decide +kernel
theorem dX12_endsTurn_15 : decode cX12_endsTurn 15 = .ok (.aload_n 0, 1) := by decide +kernel
theorem dX12_endsTurn_16 : decode cX12_endsTurn 16 = .ok (.getfield 127, 3) := by decide +kernel
theorem dX12_endsTurn_19 : decode cX12_endsTurn 19 = .ok (.iload_n 1, 1) := by decide +kernel
theorem dX12_endsTurn_20 : decode cX12_endsTurn 20 = .ok (.iaload, 1) := by decide +kernel
theorem dX12_endsTurn_21 : decode cX12_endsTurn 21 = .ok (.imul, 1) := by decide +kernel
theorem dX12_endsTurn_22 : decode cX12_endsTurn 22 = .ok (.iadd, 1) := by decide +kernel
theorem dX12_endsTurn_23 : decode cX12_endsTurn 23 = .ok (.iconst 3, 1) := by decide +kernel
theorem dX12_endsTurn_24 : decode cX12_endsTurn 24 = .ok (.iadd, 1) := by decide +kernel
theorem dX12_endsTurn_25 : decode cX12_endsTurn 25 = .ok (.aload_n 0, 1) := by decide +kernel
theorem dX12_endsTurn_26 : decode cX12_endsTurn 26 = .ok (.getfield 424, 3) := by decide +kernel
theorem dX12_endsTurn_29 : decode cX12_endsTurn 29 = .ok (.iastore, 1) := by decide +kernel
theorem dX12_endsTurn_30 : decode cX12_endsTurn 30 = .ok (.aload_n 0, 1) := by decide +kernel
theorem dX12_endsTurn_31 : decode cX12_endsTurn 31 = .ok (.getfield 7, 3) := by decide +kernel
theorem dX12_endsTurn_34 : decode cX12_endsTurn 34 = .ok (.sipush 166, 3) := by decide +kernel
theorem dX12_endsTurn_37 : decode cX12_endsTurn 37 = .ok (.iconst 5, 1) := by decide +kernel
theorem dX12_endsTurn_38 : decode cX12_endsTurn 38 = .ok (.aload_n 0, 1) := by decide +kernel
theorem dX12_endsTurn_39 : decode cX12_endsTurn 39 = .ok (.getfield 127, 3) := by decide +kernel
theorem dX12_endsTurn_42 : decode cX12_endsTurn 42 = .ok (.iload_n 1, 1) := by decide +kernel
theorem dX12_endsTurn_43 : decode cX12_endsTurn 43 = .ok (.iaload, 1) := by decide +kernel
theorem dX12_endsTurn_44 : decode cX12_endsTurn 44 = .ok (.imul, 1) := by decide +kernel
theorem dX12_endsTurn_45 : decode cX12_endsTurn 45 = .ok (.iadd, 1) := by decide +kernel
theorem dX12_endsTurn_46 : decode cX12_endsTurn 46 = .ok (.iconst 4, 1) := by decide +kernel
theorem dX12_endsTurn_47 : decode cX12_endsTurn 47 = .ok (.iadd, 1) := by decide +kernel
theorem dX12_endsTurn_48 : decode cX12_endsTurn 48 = .ok (.iload_n 2, 1) := by decide +kernel
theorem dX12_endsTurn_49 : decode cX12_endsTurn 49 = .ok (.iastore, 1) := by decide +kernel
theorem dX12_endsTurn_50 : decode cX12_endsTurn 50 = .ok (.goto 28, 3) := by decide +kernel
theorem dX12_endsTurn_53 : decode cX12_endsTurn 53 = .ok (.aload_n 0, 1) := by decide +kernel
theorem dX12_endsTurn_54 : decode cX12_endsTurn 54 = .ok (.getfield 418, 3) := by decide +kernel
theorem dX12_endsTurn_57 : decode cX12_endsTurn 57 = .ok (.iconst 2, 1) := by decide +kernel
theorem dX12_endsTurn_58 : decode cX12_endsTurn 58 = .ok (.if_icmp .ne 20, 3) := by decide +kernel
theorem dX12_endsTurn_61 : decode cX12_endsTurn 61 = .ok (.iload_n 2, 1) := by decide +kernel
theorem dX12_endsTurn_62 : decode cX12_endsTurn 62 = .ok (.iconst 1, 1) := by decide +kernel
theorem dX12_endsTurn_63 : decode cX12_endsTurn 63 = .ok (.if_icmp .ne 15, 3) := by decide +kernel
theorem dX12_endsTurn_66 : decode cX12_endsTurn 66 = .ok (.aload_n 0, 1) := by decide +kernel
theorem dX12_endsTurn_67 : decode cX12_endsTurn 67 = .ok (.getfield 151, 3) := by decide +kernel
theorem dX12_endsTurn_70 : decode cX12_endsTurn 70 = .ok (.aload_n 0, 1) := by decide +kernel
theorem dX12_endsTurn_71 : decode cX12_endsTurn 71 = .ok (.getfield 154, 3) := by decide +kernel
theorem dX12_endsTurn_74 : decode cX12_endsTurn 74 = .ok (.iload_n 1, 1) := by decide +kernel
theorem dX12_endsTurn_75 : decode cX12_endsTurn 75 = .ok (.iaload, 1) := by decide +kernel
theorem dX12_endsTurn_76 : decode cX12_endsTurn 76 = .ok (.iconst 1, 1) := by decide +kernel
theorem dX12_endsTurn_77 : decode cX12_endsTurn 77 = .ok (.iastore, 1) := by decide +kernel
theorem dX12_endsTurn_78 : decode cX12_endsTurn 78 = .ok (.aload_n 0, 1) := by decide +kernel
theorem dX12_endsTurn_79 : decode cX12_endsTurn 79 = .ok (.getfield 124, 3) := by decide +kernel
theorem dX12_endsTurn_82 : decode cX12_endsTurn 82 = .ok (.iload_n 1, 1) := by decide +kernel
theorem dX12_endsTurn_83 : decode cX12_endsTurn 83 = .ok (.dup2, 1) := by decide +kernel
theorem dX12_endsTurn_84 : decode cX12_endsTurn 84 = .ok (.iaload, 1) := by decide +kernel
theorem dX12_endsTurn_85 : decode cX12_endsTurn 85 = .ok (.iload_n 2, 1) := by decide +kernel
theorem dX12_endsTurn_86 : decode cX12_endsTurn 86 = .ok (.iconst 2, 1) := by decide +kernel
theorem dX12_endsTurn_87 : decode cX12_endsTurn 87 = .ok (.if_icmp .ne 7, 3) := by decide +kernel
theorem dX12_endsTurn_90 : decode cX12_endsTurn 90 = .ok (.iconst 1, 1) := by decide +kernel
theorem dX12_endsTurn_91 : decode cX12_endsTurn 91 = .ok (.goto 4, 3) := by decide +kernel
theorem dX12_endsTurn_94 : decode cX12_endsTurn 94 = .ok (.iconst 0, 1) := by decide +kernel
theorem dX12_endsTurn_95 : decode cX12_endsTurn 95 = .ok (.iadd, 1) := by decide +kernel
theorem dX12_endsTurn_96 : decode cX12_endsTurn 96 = .ok (.iastore, 1) := by decide +kernel
theorem dX12_endsTurn_97 : decode cX12_endsTurn 97 = .ok (.aload_n 0, 1) := by decide +kernel
theorem dX12_endsTurn_98 : decode cX12_endsTurn 98 = .ok (.getfield 424, 3) := by decide +kernel
theorem dX12_endsTurn_101 : decode cX12_endsTurn 101 = .ok (.aload_n 0, 1) := by decide +kernel
theorem dX12_endsTurn_102 : decode cX12_endsTurn 102 = .ok (.getfield 112, 3) := by decide +kernel
theorem dX12_endsTurn_105 : decode cX12_endsTurn 105 = .ok (.iload_n 1, 1) := by decide +kernel
theorem dX12_endsTurn_106 : decode cX12_endsTurn 106 = .ok (.iaload, 1) := by decide +kernel
theorem dX12_endsTurn_107 : decode cX12_endsTurn 107 = .ok (.if_icmp .le 13, 3) := by decide +kernel
theorem dX12_endsTurn_110 : decode cX12_endsTurn 110 = .ok (.aload_n 0, 1) := by decide +kernel
theorem dX12_endsTurn_111 : decode cX12_endsTurn 111 = .ok (.getfield 118, 3) := by decide +kernel
theorem dX12_endsTurn_114 : decode cX12_endsTurn 114 = .ok (.iload_n 1, 1) := by decide +kernel
theorem dX12_endsTurn_115 : decode cX12_endsTurn 115 = .ok (.aload_n 0, 1) := by decide +kernel
theorem dX12_endsTurn_116 : decode cX12_endsTurn 116 = .ok (.getfield 424, 3) := by decide +kernel
theorem dX12_endsTurn_119 : decode cX12_endsTurn 119 = .ok (.iastore, 1) := by decide +kernel
theorem dX12_endsTurn_120 : decode cX12_endsTurn 120 = .ok (.aload_n 0, 1) := by decide +kernel
theorem dX12_endsTurn_121 : decode cX12_endsTurn 121 = .ok (.getfield 94, 3) := by decide +kernel
theorem dX12_endsTurn_124 : decode cX12_endsTurn 124 = .ok (.iload_n 1, 1) := by decide +kernel
theorem dX12_endsTurn_125 : decode cX12_endsTurn 125 = .ok (.iconst 0, 1) := by decide +kernel
theorem dX12_endsTurn_126 : decode cX12_endsTurn 126 = .ok (.iastore, 1) := by decide +kernel
theorem dX12_endsTurn_127 : decode cX12_endsTurn 127 = .ok (.aload_n 0, 1) := by decide +kernel
theorem dX12_endsTurn_128 : decode cX12_endsTurn 128 = .ok (.getfield 97, 3) := by decide +kernel
theorem dX12_endsTurn_131 : decode cX12_endsTurn 131 = .ok (.iload_n 1, 1) := by decide +kernel
theorem dX12_endsTurn_132 : decode cX12_endsTurn 132 = .ok (.iconst 0, 1) := by decide +kernel
theorem dX12_endsTurn_133 : decode cX12_endsTurn 133 = .ok (.iastore, 1) := by decide +kernel
theorem dX12_endsTurn_134 : decode cX12_endsTurn 134 = .ok (.return_, 1) := by decide +kernel
theorem dX12_saysNow_0 : decode cX12_saysNow 0 = .ok (.aload_n 0, 1) := by decide +kernel
theorem dX12_saysNow_1 : decode cX12_saysNow 1 = .ok (.getfield 136, 3) := by decide +kernel
theorem dX12_saysNow_4 : decode cX12_saysNow 4 = .ok (.aload_n 0, 1) := by decide +kernel
theorem dX12_saysNow_5 : decode cX12_saysNow 5 = .ok (.getfield 424, 3) := by decide +kernel
theorem dX12_saysNow_8 : decode cX12_saysNow 8 = .ok (.bipush 63, 2) := by decide +kernel
theorem dX12_saysNow_10 : decode cX12_saysNow 10 = .ok (.iand, 1) := by decide +kernel
theorem dX12_saysNow_11 : decode cX12_saysNow 11 = .ok (.aload_n 0, 1) := by decide +kernel
theorem dX12_saysNow_12 : decode cX12_saysNow 12 = .ok (.getfield 136, 3) := by decide +kernel
theorem dX12_saysNow_15 : decode cX12_saysNow 15 = .ok (.aload_n 0, 1) := by decide +kernel
theorem dX12_saysNow_16 : decode cX12_saysNow 16 = .ok (.getfield 424, 3) := by decide +kernel
theorem dX12_saysNow_19 : decode cX12_saysNow 19 = .ok (.bipush 63, 2) := by decide +kernel
theorem dX12_saysNow_21 : decode cX12_saysNow 21 = .ok (.iand, 1) := by decide +kernel
theorem dX12_saysNow_22 : decode cX12_saysNow 22 = .ok (.iaload, 1) := by decide +kernel
theorem dX12_saysNow_23 : decode cX12_saysNow 23 = .ok (.iconst 1, 1) := by decide +kernel
theorem dX12_saysNow_24 : decode cX12_saysNow 24 = .ok (.iload_n 1, 1) := by decide +kernel
theorem dX12_saysNow_25 : decode cX12_saysNow 25 = .ok (.ishl, 1) := by decide +kernel
theorem dX12_saysNow_26 : decode cX12_saysNow 26 = .ok (.ior, 1) := by decide +kernel
theorem dX12_saysNow_27 : decode cX12_saysNow 27 = .ok (.iastore, 1) := by decide +kernel
theorem dX12_saysNow_28 : decode cX12_saysNow 28 = .ok (.return_, 1) := by decide +kernel
theorem dX12_goesSpeaking_0 : decode cX12_goesSpeaking 0 = .ok (.aload_n 0, 1) := by decide +kernel
theorem dX12_goesSpeaking_1 : decode cX12_goesSpeaking 1 = .ok (.getfield 103, 3) := by decide +kernel
theorem dX12_goesSpeaking_4 : decode cX12_goesSpeaking 4 = .ok (.iload_n 1, 1) := by decide +kernel
theorem dX12_goesSpeaking_5 : decode cX12_goesSpeaking 5 = .ok (.aload_n 0, 1) := by decide +kernel
theorem dX12_goesSpeaking_6 : decode cX12_goesSpeaking 6 = .ok (.getfield 130, 3) := by decide +kernel
theorem dX12_goesSpeaking_9 : decode cX12_goesSpeaking 9 = .ok (.iload_n 1, 1) := by decide +kernel
theorem dX12_goesSpeaking_10 : decode cX12_goesSpeaking 10 = .ok (.iaload, 1) := by decide +kernel
theorem dX12_goesSpeaking_11 : decode cX12_goesSpeaking 11 = .ok (.ifCond .ne 7, 3) := by decide +kernel
theorem dX12_goesSpeaking_14 : decode cX12_goesSpeaking 14 = .ok (.iconst 0, 1) := by decide +kernel
theorem dX12_goesSpeaking_15 : decode cX12_goesSpeaking 15 = .ok (.goto 11, 3) := by decide +kernel
theorem dX12_goesSpeaking_18 : decode cX12_goesSpeaking 18 = .ok (.aload_n 0, 1) := by decide +kernel
theorem dX12_goesSpeaking_19 : decode cX12_goesSpeaking 19 = .ok (.getfield 103, 3) := by decide +kernel
theorem dX12_goesSpeaking_22 : decode cX12_goesSpeaking 22 = .ok (.iload_n 1, 1) := by decide +kernel
theorem dX12_goesSpeaking_23 : decode cX12_goesSpeaking 23 = .ok (.iaload, 1) := by decide +kernel
theorem dX12_goesSpeaking_24 : decode cX12_goesSpeaking 24 = .ok (.iconst 1, 1) := by decide +kernel
theorem dX12_goesSpeaking_25 : decode cX12_goesSpeaking 25 = .ok (.iadd, 1) := by decide +kernel
theorem dX12_goesSpeaking_26 : decode cX12_goesSpeaking 26 = .ok (.iastore, 1) := by decide +kernel
theorem dX12_goesSpeaking_27 : decode cX12_goesSpeaking 27 = .ok (.aload_n 0, 1) := by decide +kernel
theorem dX12_goesSpeaking_28 : decode cX12_goesSpeaking 28 = .ok (.iload_n 1, 1) := by decide +kernel
theorem dX12_goesSpeaking_29 : decode cX12_goesSpeaking 29 = .ok (.invokevirtual 484, 3) := by decide +kernel
theorem dX12_goesSpeaking_32 : decode cX12_goesSpeaking 32 = .ok (.istore_n 2, 1) := by decide +kernel
theorem dX12_goesSpeaking_33 : decode cX12_goesSpeaking 33 = .ok (.iload_n 2, 1) := by decide +kernel
theorem dX12_goesSpeaking_34 : decode cX12_goesSpeaking 34 = .ok (.ifCond .eq 22, 3) := by decide +kernel
theorem dX12_goesSpeaking_37 : decode cX12_goesSpeaking 37 = .ok (.aload_n 0, 1) := by decide +kernel
theorem dX12_goesSpeaking_38 : decode cX12_goesSpeaking 38 = .ok (.getfield 103, 3) := by decide +kernel
theorem dX12_goesSpeaking_41 : decode cX12_goesSpeaking 41 = .ok (.iload_n 1, 1) := by decide +kernel
theorem dX12_goesSpeaking_42 : decode cX12_goesSpeaking 42 = .ok (.iaload, 1) := by decide +kernel
theorem dX12_goesSpeaking_43 : decode cX12_goesSpeaking 43 = .ok (.iload_n 2, 1) := by decide +kernel
theorem dX12_goesSpeaking_44 : decode cX12_goesSpeaking 44 = .ok (.if_icmp .ne 12, 3) := by decide +kernel
theorem dX12_goesSpeaking_47 : decode cX12_goesSpeaking 47 = .ok (.aload_n 0, 1) := by decide +kernel
theorem dX12_goesSpeaking_48 : decode cX12_goesSpeaking 48 = .ok (.iload_n 1, 1) := by decide +kernel
theorem dX12_goesSpeaking_49 : decode cX12_goesSpeaking 49 = .ok (.iconst 2, 1) := by decide +kernel
theorem dX12_goesSpeaking_50 : decode cX12_goesSpeaking 50 = .ok (.invokevirtual 487, 3) := by decide +kernel
theorem dX12_goesSpeaking_53 : decode cX12_goesSpeaking 53 = .ok (.goto 37, 3) := by decide +kernel
theorem dX12_goesSpeaking_56 : decode cX12_goesSpeaking 56 = .ok (.aload_n 0, 1) := by decide +kernel
theorem dX12_goesSpeaking_57 : decode cX12_goesSpeaking 57 = .ok (.getfield 424, 3) := by decide +kernel
theorem dX12_goesSpeaking_60 : decode cX12_goesSpeaking 60 = .ok (.aload_n 0, 1) := by decide +kernel
theorem dX12_goesSpeaking_61 : decode cX12_goesSpeaking 61 = .ok (.getfield 112, 3) := by decide +kernel
theorem dX12_goesSpeaking_64 : decode cX12_goesSpeaking 64 = .ok (.iload_n 1, 1) := by decide +kernel
theorem dX12_goesSpeaking_65 : decode cX12_goesSpeaking 65 = .ok (.iaload, 1) := by decide +kernel
theorem dX12_goesSpeaking_66 : decode cX12_goesSpeaking 66 = .ok (.isub, 1) := by decide +kernel
theorem dX12_goesSpeaking_67 : decode cX12_goesSpeaking 67 = .ok (.aload_n 0, 1) := by decide +kernel
theorem dX12_goesSpeaking_68 : decode cX12_goesSpeaking 68 = .ok (.getfield 115, 3) := by decide +kernel
theorem dX12_goesSpeaking_71 : decode cX12_goesSpeaking 71 = .ok (.iload_n 1, 1) := by decide +kernel
theorem dX12_goesSpeaking_72 : decode cX12_goesSpeaking 72 = .ok (.iaload, 1) := by decide +kernel
theorem dX12_goesSpeaking_73 : decode cX12_goesSpeaking 73 = .ok (.if_icmp .lt 12, 3) := by decide +kernel
theorem dX12_goesSpeaking_76 : decode cX12_goesSpeaking 76 = .ok (.aload_n 0, 1) := by decide +kernel
theorem dX12_goesSpeaking_77 : decode cX12_goesSpeaking 77 = .ok (.iload_n 1, 1) := by decide +kernel
theorem dX12_goesSpeaking_78 : decode cX12_goesSpeaking 78 = .ok (.iconst 1, 1) := by decide +kernel
theorem dX12_goesSpeaking_79 : decode cX12_goesSpeaking 79 = .ok (.invokevirtual 487, 3) := by decide +kernel
theorem dX12_goesSpeaking_82 : decode cX12_goesSpeaking 82 = .ok (.goto 8, 3) := by decide +kernel
theorem dX12_goesSpeaking_85 : decode cX12_goesSpeaking 85 = .ok (.aload_n 0, 1) := by decide +kernel
theorem dX12_goesSpeaking_86 : decode cX12_goesSpeaking 86 = .ok (.iload_n 1, 1) := by decide +kernel
theorem dX12_goesSpeaking_87 : decode cX12_goesSpeaking 87 = .ok (.invokevirtual 490, 3) := by decide +kernel
theorem dX12_goesSpeaking_90 : decode cX12_goesSpeaking 90 = .ok (.return_, 1) := by decide +kernel
theorem dX12_goesSilent_0 : decode cX12_goesSilent 0 = .ok (.aload_n 0, 1) := by decide +kernel
theorem dX12_goesSilent_1 : decode cX12_goesSilent 1 = .ok (.getfield 130, 3) := by decide +kernel
theorem dX12_goesSilent_4 : decode cX12_goesSilent 4 = .ok (.iload_n 1, 1) := by decide +kernel
theorem dX12_goesSilent_5 : decode cX12_goesSilent 5 = .ok (.iaload, 1) := by decide +kernel
theorem dX12_goesSilent_6 : decode cX12_goesSilent 6 = .ok (.ifCond .eq 11, 3) := by decide +kernel
theorem dX12_goesSilent_9 : decode cX12_goesSilent 9 = .ok (.aload_n 0, 1) := by decide +kernel
theorem dX12_goesSilent_10 : decode cX12_goesSilent 10 = .ok (.getfield 97, 3) := by decide +kernel
theorem dX12_goesSilent_13 : decode cX12_goesSilent 13 = .ok (.iload_n 1, 1) := by decide +kernel
theorem dX12_goesSilent_14 : decode cX12_goesSilent 14 = .ok (.iconst 0, 1) := by decide +kernel
theorem dX12_goesSilent_15 : decode cX12_goesSilent 15 = .ok (.iastore, 1) := by decide +kernel
theorem dX12_goesSilent_16 : decode cX12_goesSilent 16 = .ok (.return_, 1) := by decide +kernel
theorem dX12_goesSilent_17 : decode cX12_goesSilent 17 = .ok (.aload_n 0, 1) := by decide +kernel
theorem dX12_goesSilent_18 : decode cX12_goesSilent 18 = .ok (.getfield 97, 3) := by decide +kernel
theorem dX12_goesSilent_21 : decode cX12_goesSilent 21 = .ok (.iload_n 1, 1) := by decide +kernel
theorem dX12_goesSilent_22 : decode cX12_goesSilent 22 = .ok (.iaload, 1) := by decide +kernel
theorem dX12_goesSilent_23 : decode cX12_goesSilent 23 = .ok (.ifCond .ne 14, 3) := by decide +kernel
theorem dX12_goesSilent_26 : decode cX12_goesSilent 26 = .ok (.aload_n 0, 1) := by decide +kernel
theorem dX12_goesSilent_27 : decode cX12_goesSilent 27 = .ok (.getfield 100, 3) := by decide +kernel
theorem dX12_goesSilent_30 : decode cX12_goesSilent 30 = .ok (.iload_n 1, 1) := by decide +kernel
theorem dX12_goesSilent_31 : decode cX12_goesSilent 31 = .ok (.aload_n 0, 1) := by decide +kernel
theorem dX12_goesSilent_32 : decode cX12_goesSilent 32 = .ok (.iload_n 1, 1) := by decide +kernel
theorem dX12_goesSilent_33 : decode cX12_goesSilent 33 = .ok (.invokevirtual 493, 3) := by decide +kernel
theorem dX12_goesSilent_36 : decode cX12_goesSilent 36 = .ok (.iastore, 1) := by decide +kernel
theorem dX12_goesSilent_37 : decode cX12_goesSilent 37 = .ok (.aload_n 0, 1) := by decide +kernel
theorem dX12_goesSilent_38 : decode cX12_goesSilent 38 = .ok (.getfield 97, 3) := by decide +kernel
theorem dX12_goesSilent_41 : decode cX12_goesSilent 41 = .ok (.iload_n 1, 1) := by decide +kernel
theorem dX12_goesSilent_42 : decode cX12_goesSilent 42 = .ok (.iaload, 1) := by decide +kernel
theorem dX12_goesSilent_43 : decode cX12_goesSilent 43 = .ok (.iconst 1, 1) := by decide +kernel
theorem dX12_goesSilent_44 : decode cX12_goesSilent 44 = .ok (.iadd, 1) := by decide +kernel
theorem dX12_goesSilent_45 : decode cX12_goesSilent 45 = .ok (.aload_n 0, 1) := by decide +kernel
theorem dX12_goesSilent_46 : decode cX12_goesSilent 46 = .ok (.getfield 100, 3) := by decide +kernel
theorem dX12_goesSilent_49 : decode cX12_goesSilent 49 = .ok (.iload_n 1, 1) := by decide +kernel
theorem dX12_goesSilent_50 : decode cX12_goesSilent 50 = .ok (.iaload, 1) := by decide +kernel
theorem dX12_goesSilent_51 : decode cX12_goesSilent 51 = .ok (.if_icmp .gt 16, 3) := by decide +kernel
theorem dX12_goesSilent_54 : decode cX12_goesSilent 54 = .ok (.aload_n 0, 1) := by decide +kernel
theorem dX12_goesSilent_55 : decode cX12_goesSilent 55 = .ok (.getfield 97, 3) := by decide +kernel
theorem dX12_goesSilent_58 : decode cX12_goesSilent 58 = .ok (.iload_n 1, 1) := by decide +kernel
theorem dX12_goesSilent_59 : decode cX12_goesSilent 59 = .ok (.dup2, 1) := by decide +kernel
theorem dX12_goesSilent_60 : decode cX12_goesSilent 60 = .ok (.iaload, 1) := by decide +kernel
theorem dX12_goesSilent_61 : decode cX12_goesSilent 61 = .ok (.iconst 1, 1) := by decide +kernel
theorem dX12_goesSilent_62 : decode cX12_goesSilent 62 = .ok (.iadd, 1) := by decide +kernel
theorem dX12_goesSilent_63 : decode cX12_goesSilent 63 = .ok (.iastore, 1) := by decide +kernel
theorem dX12_goesSilent_64 : decode cX12_goesSilent 64 = .ok (.goto 26, 3) := by decide +kernel
theorem dX12_goesSilent_67 : decode cX12_goesSilent 67 = .ok (.aload_n 0, 1) := by decide +kernel
theorem dX12_goesSilent_68 : decode cX12_goesSilent 68 = .ok (.iload_n 1, 1) := by decide +kernel
theorem dX12_goesSilent_69 : decode cX12_goesSilent 69 = .ok (.invokevirtual 496, 3) := by decide +kernel
theorem dX12_goesSilent_72 : decode cX12_goesSilent 72 = .ok (.ifCond .eq 18, 3) := by decide +kernel
theorem dX12_goesSilent_75 : decode cX12_goesSilent 75 = .ok (.aload_n 0, 1) := by decide +kernel
theorem dX12_goesSilent_76 : decode cX12_goesSilent 76 = .ok (.getfield 97, 3) := by decide +kernel
theorem dX12_goesSilent_79 : decode cX12_goesSilent 79 = .ok (.iload_n 1, 1) := by decide +kernel
theorem dX12_goesSilent_80 : decode cX12_goesSilent 80 = .ok (.dup2, 1) := by decide +kernel
theorem dX12_goesSilent_81 : decode cX12_goesSilent 81 = .ok (.iaload, 1) := by decide +kernel
theorem dX12_goesSilent_82 : decode cX12_goesSilent 82 = .ok (.iconst 1, 1) := by decide +kernel
theorem dX12_goesSilent_83 : decode cX12_goesSilent 83 = .ok (.iadd, 1) := by decide +kernel
theorem dX12_goesSilent_84 : decode cX12_goesSilent 84 = .ok (.iastore, 1) := by decide +kernel
theorem dX12_goesSilent_85 : decode cX12_goesSilent 85 = .ok (.aload_n 0, 1) := by decide +kernel
theorem dX12_goesSilent_86 : decode cX12_goesSilent 86 = .ok (.iload_n 1, 1) := by decide +kernel
theorem dX12_goesSilent_87 : decode cX12_goesSilent 87 = .ok (.invokevirtual 490, 3) := by decide +kernel
theorem dX12_goesSilent_90 : decode cX12_goesSilent 90 = .ok (.return_, 1) := by decide +kernel
theorem dX12_lowestOf_0 : decode cX12_lowestOf 0 = .ok (.iconst 0, 1) := by decide +kernel
theorem dX12_lowestOf_1 : decode cX12_lowestOf 1 = .ok (.istore_n 1, 1) := by decide +kernel
theorem dX12_lowestOf_2 : decode cX12_lowestOf 2 = .ok (.iload_n 0, 1) := by decide +kernel
theorem dX12_lowestOf_3 : decode cX12_lowestOf 3 = .ok (.iload_n 1, 1) := by decide +kernel
theorem dX12_lowestOf_4 : decode cX12_lowestOf 4 = .ok (.ishr, 1) := by decide +kernel
theorem dX12_lowestOf_5 : decode cX12_lowestOf 5 = .ok (.iconst 1, 1) := by decide +kernel
theorem dX12_lowestOf_6 : decode cX12_lowestOf 6 = .ok (.iand, 1) := by decide +kernel
theorem dX12_lowestOf_7 : decode cX12_lowestOf 7 = .ok (.ifCond .ne 9, 3) := by decide +kernel
theorem dX12_lowestOf_10 : decode cX12_lowestOf 10 = .ok (.iinc 1 1, 3) := by decide +kernel
theorem dX12_lowestOf_13 : decode cX12_lowestOf 13 = .ok (.goto (-11), 3) := by decide +kernel
theorem dX12_lowestOf_16 : decode cX12_lowestOf 16 = .ok (.iload_n 1, 1) := by decide +kernel
theorem dX12_lowestOf_17 : decode cX12_lowestOf 17 = .ok (.ireturn, 1) := by decide +kernel
theorem dX12_hearsAll_0 : decode cX12_hearsAll 0 = .ok (.iconst 0, 1) := by decide +kernel
theorem dX12_hearsAll_1 : decode cX12_hearsAll 1 = .ok (.istore_n 1, 1) := by decide +kernel
theorem dX12_hearsAll_2 : decode cX12_hearsAll 2 = .ok (.iload_n 1, 1) := by decide +kernel
theorem dX12_hearsAll_3 : decode cX12_hearsAll 3 = .ok (.aload_n 0, 1) := by decide +kernel
theorem dX12_hearsAll_4 : decode cX12_hearsAll 4 = .ok (.getfield 421, 3) := by decide +kernel
theorem dX12_hearsAll_7 : decode cX12_hearsAll 7 = .ok (.if_icmp .ge 126, 3) := by decide +kernel
theorem dX12_hearsAll_10 : decode cX12_hearsAll 10 = .ok (.aload_n 0, 1) := by decide +kernel
theorem dX12_hearsAll_11 : decode cX12_hearsAll 11 = .ok (.getfield 130, 3) := by decide +kernel
theorem dX12_hearsAll_14 : decode cX12_hearsAll 14 = .ok (.iload_n 1, 1) := by decide +kernel
theorem dX12_hearsAll_15 : decode cX12_hearsAll 15 = .ok (.iconst 0, 1) := by decide +kernel
theorem dX12_hearsAll_16 : decode cX12_hearsAll 16 = .ok (.iastore, 1) := by decide +kernel
theorem dX12_hearsAll_17 : decode cX12_hearsAll 17 = .ok (.iconst 0, 1) := by decide +kernel
theorem dX12_hearsAll_18 : decode cX12_hearsAll 18 = .ok (.istore_n 2, 1) := by decide +kernel
theorem dX12_hearsAll_19 : decode cX12_hearsAll 19 = .ok (.iload_n 2, 1) := by decide +kernel
theorem dX12_hearsAll_20 : decode cX12_hearsAll 20 = .ok (.aload_n 0, 1) := by decide +kernel
theorem dX12_hearsAll_21 : decode cX12_hearsAll 21 = .ok (.getfield 421, 3) := by decide +kernel
theorem dX12_hearsAll_24 : decode cX12_hearsAll 24 = .ok (.if_icmp .ge 69, 3) := by decide +kernel
theorem dX12_hearsAll_27 : decode cX12_hearsAll 27 = .ok (.aload_n 0, 1) := by decide +kernel
theorem dX12_hearsAll_28 : decode cX12_hearsAll 28 = .ok (.getfield 424, 3) := by decide +kernel
theorem dX12_hearsAll_31 : decode cX12_hearsAll 31 = .ok (.iconst 1, 1) := by decide +kernel
theorem dX12_hearsAll_32 : decode cX12_hearsAll 32 = .ok (.isub, 1) := by decide +kernel
theorem dX12_hearsAll_33 : decode cX12_hearsAll 33 = .ok (.aload_n 0, 1) := by decide +kernel
theorem dX12_hearsAll_34 : decode cX12_hearsAll 34 = .ok (.getfield 133, 3) := by decide +kernel
theorem dX12_hearsAll_37 : decode cX12_hearsAll 37 = .ok (.iconst 4, 1) := by decide +kernel
theorem dX12_hearsAll_38 : decode cX12_hearsAll 38 = .ok (.iload_n 2, 1) := by decide +kernel
theorem dX12_hearsAll_39 : decode cX12_hearsAll 39 = .ok (.imul, 1) := by decide +kernel
theorem dX12_hearsAll_40 : decode cX12_hearsAll 40 = .ok (.iload_n 1, 1) := by decide +kernel
theorem dX12_hearsAll_41 : decode cX12_hearsAll 41 = .ok (.iadd, 1) := by decide +kernel
theorem dX12_hearsAll_42 : decode cX12_hearsAll 42 = .ok (.iaload, 1) := by decide +kernel
theorem dX12_hearsAll_43 : decode cX12_hearsAll 43 = .ok (.isub, 1) := by decide +kernel
theorem dX12_hearsAll_44 : decode cX12_hearsAll 44 = .ok (.istore_n 3, 1) := by decide +kernel
theorem dX12_hearsAll_45 : decode cX12_hearsAll 45 = .ok (.iload_n 2, 1) := by decide +kernel
theorem dX12_hearsAll_46 : decode cX12_hearsAll 46 = .ok (.iload_n 1, 1) := by decide +kernel
theorem dX12_hearsAll_47 : decode cX12_hearsAll 47 = .ok (.if_icmp .eq 40, 3) := by decide +kernel
theorem dX12_hearsAll_50 : decode cX12_hearsAll 50 = .ok (.iload_n 3, 1) := by decide +kernel
theorem dX12_hearsAll_51 : decode cX12_hearsAll 51 = .ok (.ifCond .lt 36, 3) := by decide +kernel
theorem dX12_hearsAll_54 : decode cX12_hearsAll 54 = .ok (.aload_n 0, 1) := by decide +kernel
theorem dX12_hearsAll_55 : decode cX12_hearsAll 55 = .ok (.getfield 136, 3) := by decide +kernel
theorem dX12_hearsAll_58 : decode cX12_hearsAll 58 = .ok (.iload_n 3, 1) := by decide +kernel
theorem dX12_hearsAll_59 : decode cX12_hearsAll 59 = .ok (.bipush 63, 2) := by decide +kernel
theorem dX12_hearsAll_61 : decode cX12_hearsAll 61 = .ok (.iand, 1) := by decide +kernel
theorem dX12_hearsAll_62 : decode cX12_hearsAll 62 = .ok (.iaload, 1) := by decide +kernel
theorem dX12_hearsAll_63 : decode cX12_hearsAll 63 = .ok (.iload_n 2, 1) := by decide +kernel
theorem dX12_hearsAll_64 : decode cX12_hearsAll 64 = .ok (.ishr, 1) := by decide +kernel
theorem dX12_hearsAll_65 : decode cX12_hearsAll 65 = .ok (.iconst 1, 1) := by decide +kernel
theorem dX12_hearsAll_66 : decode cX12_hearsAll 66 = .ok (.iand, 1) := by decide +kernel
theorem dX12_hearsAll_67 : decode cX12_hearsAll 67 = .ok (.iconst 1, 1) := by decide +kernel
theorem dX12_hearsAll_68 : decode cX12_hearsAll 68 = .ok (.if_icmp .ne 19, 3) := by decide +kernel
theorem dX12_hearsAll_71 : decode cX12_hearsAll 71 = .ok (.aload_n 0, 1) := by decide +kernel
theorem dX12_hearsAll_72 : decode cX12_hearsAll 72 = .ok (.getfield 130, 3) := by decide +kernel
theorem dX12_hearsAll_75 : decode cX12_hearsAll 75 = .ok (.iload_n 1, 1) := by decide +kernel
theorem dX12_hearsAll_76 : decode cX12_hearsAll 76 = .ok (.aload_n 0, 1) := by decide +kernel
theorem dX12_hearsAll_77 : decode cX12_hearsAll 77 = .ok (.getfield 130, 3) := by decide +kernel
theorem dX12_hearsAll_80 : decode cX12_hearsAll 80 = .ok (.iload_n 1, 1) := by decide +kernel
theorem dX12_hearsAll_81 : decode cX12_hearsAll 81 = .ok (.iaload, 1) := by decide +kernel
theorem dX12_hearsAll_82 : decode cX12_hearsAll 82 = .ok (.iconst 1, 1) := by decide +kernel
theorem dX12_hearsAll_83 : decode cX12_hearsAll 83 = .ok (.iload_n 2, 1) := by decide +kernel
theorem dX12_hearsAll_84 : decode cX12_hearsAll 84 = .ok (.ishl, 1) := by decide +kernel
theorem dX12_hearsAll_85 : decode cX12_hearsAll 85 = .ok (.ior, 1) := by decide +kernel
theorem dX12_hearsAll_86 : decode cX12_hearsAll 86 = .ok (.iastore, 1) := by decide +kernel
theorem dX12_hearsAll_87 : decode cX12_hearsAll 87 = .ok (.iinc 2 1, 3) := by decide +kernel
theorem dX12_hearsAll_90 : decode cX12_hearsAll 90 = .ok (.goto (-71), 3) := by decide +kernel
theorem dX12_hearsAll_93 : decode cX12_hearsAll 93 = .ok (.aload_n 0, 1) := by decide +kernel
theorem dX12_hearsAll_94 : decode cX12_hearsAll 94 = .ok (.getfield 130, 3) := by decide +kernel
theorem dX12_hearsAll_97 : decode cX12_hearsAll 97 = .ok (.iload_n 1, 1) := by decide +kernel
theorem dX12_hearsAll_98 : decode cX12_hearsAll 98 = .ok (.iaload, 1) := by decide +kernel
theorem dX12_hearsAll_99 : decode cX12_hearsAll 99 = .ok (.ifCond .eq 28, 3) := by decide +kernel
theorem dX12_hearsAll_102 : decode cX12_hearsAll 102 = .ok (.aload_n 0, 1) := by decide +kernel
theorem dX12_hearsAll_103 : decode cX12_hearsAll 103 = .ok (.getfield 109, 3) := by decide +kernel
theorem dX12_hearsAll_106 : decode cX12_hearsAll 106 = .ok (.iload_n 1, 1) := by decide +kernel
theorem dX12_hearsAll_107 : decode cX12_hearsAll 107 = .ok (.aload_n 0, 1) := by decide +kernel
theorem dX12_hearsAll_108 : decode cX12_hearsAll 108 = .ok (.getfield 424, 3) := by decide +kernel
theorem dX12_hearsAll_111 : decode cX12_hearsAll 111 = .ok (.iastore, 1) := by decide +kernel
theorem dX12_hearsAll_112 : decode cX12_hearsAll 112 = .ok (.aload_n 0, 1) := by decide +kernel
theorem dX12_hearsAll_113 : decode cX12_hearsAll 113 = .ok (.getfield 106, 3) := by decide +kernel
theorem dX12_hearsAll_116 : decode cX12_hearsAll 116 = .ok (.iload_n 1, 1) := by decide +kernel
theorem dX12_hearsAll_117 : decode cX12_hearsAll 117 = .ok (.aload_n 0, 1) := by decide +kernel
theorem dX12_hearsAll_118 : decode cX12_hearsAll 118 = .ok (.getfield 130, 3) := by decide +kernel
theorem dX12_hearsAll_121 : decode cX12_hearsAll 121 = .ok (.iload_n 1, 1) := by decide +kernel
theorem dX12_hearsAll_122 : decode cX12_hearsAll 122 = .ok (.iaload, 1) := by decide +kernel
theorem dX12_hearsAll_123 : decode cX12_hearsAll 123 = .ok (.invokestatic 499, 3) := by decide +kernel
theorem dX12_hearsAll_126 : decode cX12_hearsAll 126 = .ok (.iastore, 1) := by decide +kernel
theorem dX12_hearsAll_127 : decode cX12_hearsAll 127 = .ok (.iinc 1 1, 3) := by decide +kernel
theorem dX12_hearsAll_130 : decode cX12_hearsAll 130 = .ok (.goto (-128), 3) := by decide +kernel
theorem dX12_hearsAll_133 : decode cX12_hearsAll 133 = .ok (.return_, 1) := by decide +kernel
theorem dX12_talliesAll_0 : decode cX12_talliesAll 0 = .ok (.iconst 0, 1) := by decide +kernel
theorem dX12_talliesAll_1 : decode cX12_talliesAll 1 = .ok (.istore_n 1, 1) := by decide +kernel
theorem dX12_talliesAll_2 : decode cX12_talliesAll 2 = .ok (.iload_n 1, 1) := by decide +kernel
theorem dX12_talliesAll_3 : decode cX12_talliesAll 3 = .ok (.aload_n 0, 1) := by decide +kernel
theorem dX12_talliesAll_4 : decode cX12_talliesAll 4 = .ok (.getfield 421, 3) := by decide +kernel
theorem dX12_talliesAll_7 : decode cX12_talliesAll 7 = .ok (.if_icmp .ge 191, 3) := by decide +kernel
theorem dX12_talliesAll_10 : decode cX12_talliesAll 10 = .ok (.iconst 0, 1) := by decide +kernel
theorem dX12_talliesAll_11 : decode cX12_talliesAll 11 = .ok (.istore_n 2, 1) := by decide +kernel
theorem dX12_talliesAll_12 : decode cX12_talliesAll 12 = .ok (.iload_n 2, 1) := by decide +kernel
theorem dX12_talliesAll_13 : decode cX12_talliesAll 13 = .ok (.aload_n 0, 1) := by decide +kernel
theorem dX12_talliesAll_14 : decode cX12_talliesAll 14 = .ok (.getfield 421, 3) := by decide +kernel
theorem dX12_talliesAll_17 : decode cX12_talliesAll 17 = .ok (.if_icmp .ge 175, 3) := by decide +kernel
theorem dX12_talliesAll_20 : decode cX12_talliesAll 20 = .ok (.aload_n 0, 1) := by decide +kernel
theorem dX12_talliesAll_21 : decode cX12_talliesAll 21 = .ok (.getfield 130, 3) := by decide +kernel
theorem dX12_talliesAll_24 : decode cX12_talliesAll 24 = .ok (.iload_n 1, 1) := by decide +kernel
theorem dX12_talliesAll_25 : decode cX12_talliesAll 25 = .ok (.iaload, 1) := by decide +kernel
theorem dX12_talliesAll_26 : decode cX12_talliesAll 26 = .ok (.iload_n 2, 1) := by decide +kernel
theorem dX12_talliesAll_27 : decode cX12_talliesAll 27 = .ok (.ishr, 1) := by decide +kernel
theorem dX12_talliesAll_28 : decode cX12_talliesAll 28 = .ok (.iconst 1, 1) := by decide +kernel
theorem dX12_talliesAll_29 : decode cX12_talliesAll 29 = .ok (.iand, 1) := by decide +kernel
theorem dX12_talliesAll_30 : decode cX12_talliesAll 30 = .ok (.iconst 1, 1) := by decide +kernel
theorem dX12_talliesAll_31 : decode cX12_talliesAll 31 = .ok (.if_icmp .ne 155, 3) := by decide +kernel
theorem dX12_talliesAll_34 : decode cX12_talliesAll 34 = .ok (.aload_n 0, 1) := by decide +kernel
theorem dX12_talliesAll_35 : decode cX12_talliesAll 35 = .ok (.getfield 130, 3) := by decide +kernel
theorem dX12_talliesAll_38 : decode cX12_talliesAll 38 = .ok (.iload_n 1, 1) := by decide +kernel
theorem dX12_talliesAll_39 : decode cX12_talliesAll 39 = .ok (.iaload, 1) := by decide +kernel
theorem dX12_talliesAll_40 : decode cX12_talliesAll 40 = .ok (.iconst 1, 1) := by decide +kernel
theorem dX12_talliesAll_41 : decode cX12_talliesAll 41 = .ok (.iload_n 2, 1) := by decide +kernel
theorem dX12_talliesAll_42 : decode cX12_talliesAll 42 = .ok (.ishl, 1) := by decide +kernel
theorem dX12_talliesAll_43 : decode cX12_talliesAll 43 = .ok (.if_icmp .ne 26, 3) := by decide +kernel
theorem dX12_talliesAll_46 : decode cX12_talliesAll 46 = .ok (.aload_n 0, 1) := by decide +kernel
theorem dX12_talliesAll_47 : decode cX12_talliesAll 47 = .ok (.getfield 136, 3) := by decide +kernel
theorem dX12_talliesAll_50 : decode cX12_talliesAll 50 = .ok (.aload_n 0, 1) := by decide +kernel
theorem dX12_talliesAll_51 : decode cX12_talliesAll 51 = .ok (.getfield 424, 3) := by decide +kernel
theorem dX12_talliesAll_54 : decode cX12_talliesAll 54 = .ok (.bipush 63, 2) := by decide +kernel
theorem dX12_talliesAll_56 : decode cX12_talliesAll 56 = .ok (.iand, 1) := by decide +kernel
theorem dX12_talliesAll_57 : decode cX12_talliesAll 57 = .ok (.iaload, 1) := by decide +kernel
theorem dX12_talliesAll_58 : decode cX12_talliesAll 58 = .ok (.iload_n 1, 1) := by decide +kernel
theorem dX12_talliesAll_59 : decode cX12_talliesAll 59 = .ok (.ishr, 1) := by decide +kernel
theorem dX12_talliesAll_60 : decode cX12_talliesAll 60 = .ok (.iconst 1, 1) := by decide +kernel
theorem dX12_talliesAll_61 : decode cX12_talliesAll 61 = .ok (.iand, 1) := by decide +kernel
theorem dX12_talliesAll_62 : decode cX12_talliesAll 62 = .ok (.ifCond .ne 7, 3) := by decide +kernel
theorem dX12_talliesAll_65 : decode cX12_talliesAll 65 = .ok (.iconst 1, 1) := by decide +kernel
theorem dX12_talliesAll_66 : decode cX12_talliesAll 66 = .ok (.goto 4, 3) := by decide +kernel
theorem dX12_talliesAll_69 : decode cX12_talliesAll 69 = .ok (.iconst 0, 1) := by decide +kernel
theorem dX12_talliesAll_70 : decode cX12_talliesAll 70 = .ok (.istore_n 3, 1) := by decide +kernel
theorem dX12_talliesAll_71 : decode cX12_talliesAll 71 = .ok (.aload_n 0, 1) := by decide +kernel
theorem dX12_talliesAll_72 : decode cX12_talliesAll 72 = .ok (.dup, 1) := by decide +kernel
theorem dX12_talliesAll_73 : decode cX12_talliesAll 73 = .ok (.getfield 436, 3) := by decide +kernel
theorem dX12_talliesAll_76 : decode cX12_talliesAll 76 = .ok (.iload_n 3, 1) := by decide +kernel
theorem dX12_talliesAll_77 : decode cX12_talliesAll 77 = .ok (.ifCond .eq 7, 3) := by decide +kernel
theorem dX12_talliesAll_80 : decode cX12_talliesAll 80 = .ok (.iconst 1, 1) := by decide +kernel
theorem dX12_talliesAll_81 : decode cX12_talliesAll 81 = .ok (.goto 4, 3) := by decide +kernel
theorem dX12_talliesAll_84 : decode cX12_talliesAll 84 = .ok (.iconst 0, 1) := by decide +kernel
theorem dX12_talliesAll_85 : decode cX12_talliesAll 85 = .ok (.iadd, 1) := by decide +kernel
theorem dX12_talliesAll_86 : decode cX12_talliesAll 86 = .ok (.putfield 436, 3) := by decide +kernel
theorem dX12_talliesAll_89 : decode cX12_talliesAll 89 = .ok (.aload_n 0, 1) := by decide +kernel
theorem dX12_talliesAll_90 : decode cX12_talliesAll 90 = .ok (.dup, 1) := by decide +kernel
theorem dX12_talliesAll_91 : decode cX12_talliesAll 91 = .ok (.getfield 439, 3) := by decide +kernel
theorem dX12_talliesAll_94 : decode cX12_talliesAll 94 = .ok (.iload_n 3, 1) := by decide +kernel
theorem dX12_talliesAll_95 : decode cX12_talliesAll 95 = .ok (.ifCond .eq 7, 3) := by decide +kernel
theorem dX12_talliesAll_98 : decode cX12_talliesAll 98 = .ok (.iconst 0, 1) := by decide +kernel
theorem dX12_talliesAll_99 : decode cX12_talliesAll 99 = .ok (.goto 4, 3) := by decide +kernel
theorem dX12_talliesAll_102 : decode cX12_talliesAll 102 = .ok (.iconst 1, 1) := by decide +kernel
theorem dX12_talliesAll_103 : decode cX12_talliesAll 103 = .ok (.iadd, 1) := by decide +kernel
theorem dX12_talliesAll_104 : decode cX12_talliesAll 104 = .ok (.putfield 439, 3) := by decide +kernel
theorem dX12_talliesAll_107 : decode cX12_talliesAll 107 = .ok (.aload_n 0, 1) := by decide +kernel
theorem dX12_talliesAll_108 : decode cX12_talliesAll 108 = .ok (.getfield 418, 3) := by decide +kernel
theorem dX12_talliesAll_111 : decode cX12_talliesAll 111 = .ok (.ifCond .ne 34, 3) := by decide +kernel
theorem dX12_talliesAll_114 : decode cX12_talliesAll 114 = .ok (.aload_n 0, 1) := by decide +kernel
theorem dX12_talliesAll_115 : decode cX12_talliesAll 115 = .ok (.getfield 7, 3) := by decide +kernel
theorem dX12_talliesAll_118 : decode cX12_talliesAll 118 = .ok (.iload_n 3, 1) := by decide +kernel
theorem dX12_talliesAll_119 : decode cX12_talliesAll 119 = .ok (.ifCond .eq 9, 3) := by decide +kernel
theorem dX12_talliesAll_122 : decode cX12_talliesAll 122 = .ok (.sipush 133, 3) := by decide +kernel
theorem dX12_talliesAll_125 : decode cX12_talliesAll 125 = .ok (.goto 6, 3) := by decide +kernel
theorem dX12_talliesAll_128 : decode cX12_talliesAll 128 = .ok (.sipush 149, 3) := by decide +kernel
theorem dX12_talliesAll_131 : decode cX12_talliesAll 131 = .ok (.iconst 4, 1) := by decide +kernel
theorem dX12_talliesAll_132 : decode cX12_talliesAll 132 = .ok (.iload_n 2, 1) := by decide +kernel
theorem dX12_talliesAll_133 : decode cX12_talliesAll 133 = .ok (.imul, 1) := by decide +kernel
theorem dX12_talliesAll_134 : decode cX12_talliesAll 134 = .ok (.iadd, 1) := by decide +kernel
theorem dX12_talliesAll_135 : decode cX12_talliesAll 135 = .ok (.iload_n 1, 1) := by decide +kernel
theorem dX12_talliesAll_136 : decode cX12_talliesAll 136 = .ok (.iadd, 1) := by decide +kernel
theorem dX12_talliesAll_137 : decode cX12_talliesAll 137 = .ok (.dup2, 1) := by decide +kernel
theorem dX12_talliesAll_138 : decode cX12_talliesAll 138 = .ok (.iaload, 1) := by decide +kernel
theorem dX12_talliesAll_139 : decode cX12_talliesAll 139 = .ok (.iconst 1, 1) := by decide +kernel
theorem dX12_talliesAll_140 : decode cX12_talliesAll 140 = .ok (.iadd, 1) := by decide +kernel
theorem dX12_talliesAll_141 : decode cX12_talliesAll 141 = .ok (.iastore, 1) := by decide +kernel
theorem dX12_talliesAll_142 : decode cX12_talliesAll 142 = .ok (.goto 44, 3) := by decide +kernel
theorem dX12_talliesAll_145 : decode cX12_talliesAll 145 = .ok (.aload_n 0, 1) := by decide +kernel
theorem dX12_talliesAll_146 : decode cX12_talliesAll 146 = .ok (.getfield 418, 3) := by decide +kernel
theorem dX12_talliesAll_149 : decode cX12_talliesAll 149 = .ok (.iconst 2, 1) := by decide +kernel
theorem dX12_talliesAll_150 : decode cX12_talliesAll 150 = .ok (.if_icmp .ne 36, 3) := by decide +kernel
theorem dX12_talliesAll_153 : decode cX12_talliesAll 153 = .ok (.iload_n 3, 1) := by decide +kernel
theorem dX12_talliesAll_154 : decode cX12_talliesAll 154 = .ok (.ifCond .eq 32, 3) := by decide +kernel
theorem dX12_talliesAll_157 : decode cX12_talliesAll 157 = .ok (.aload_n 0, 1) := by decide +kernel
theorem dX12_talliesAll_158 : decode cX12_talliesAll 158 = .ok (.getfield 142, 3) := by decide +kernel
theorem dX12_talliesAll_161 : decode cX12_talliesAll 161 = .ok (.sipush 1100, 3) := by decide +kernel
theorem dX12_talliesAll_164 : decode cX12_talliesAll 164 = .ok (.iload_n 2, 1) := by decide +kernel
theorem dX12_talliesAll_165 : decode cX12_talliesAll 165 = .ok (.imul, 1) := by decide +kernel
theorem dX12_talliesAll_166 : decode cX12_talliesAll 166 = .ok (.aload_n 0, 1) := by decide +kernel
theorem dX12_talliesAll_167 : decode cX12_talliesAll 167 = .ok (.getfield 424, 3) := by decide +kernel
theorem dX12_talliesAll_170 : decode cX12_talliesAll 170 = .ok (.iadd, 1) := by decide +kernel
theorem dX12_talliesAll_171 : decode cX12_talliesAll 171 = .ok (.iconst 1, 1) := by decide +kernel
theorem dX12_talliesAll_172 : decode cX12_talliesAll 172 = .ok (.isub, 1) := by decide +kernel
theorem dX12_talliesAll_173 : decode cX12_talliesAll 173 = .ok (.aload_n 0, 1) := by decide +kernel
theorem dX12_talliesAll_174 : decode cX12_talliesAll 174 = .ok (.getfield 133, 3) := by decide +kernel
theorem dX12_talliesAll_177 : decode cX12_talliesAll 177 = .ok (.iconst 4, 1) := by decide +kernel
theorem dX12_talliesAll_178 : decode cX12_talliesAll 178 = .ok (.iload_n 2, 1) := by decide +kernel
theorem dX12_talliesAll_179 : decode cX12_talliesAll 179 = .ok (.imul, 1) := by decide +kernel
theorem dX12_talliesAll_180 : decode cX12_talliesAll 180 = .ok (.iload_n 1, 1) := by decide +kernel
theorem dX12_talliesAll_181 : decode cX12_talliesAll 181 = .ok (.iadd, 1) := by decide +kernel
theorem dX12_talliesAll_182 : decode cX12_talliesAll 182 = .ok (.iaload, 1) := by decide +kernel
theorem dX12_talliesAll_183 : decode cX12_talliesAll 183 = .ok (.isub, 1) := by decide +kernel
theorem dX12_talliesAll_184 : decode cX12_talliesAll 184 = .ok (.iconst 1, 1) := by decide +kernel
theorem dX12_talliesAll_185 : decode cX12_talliesAll 185 = .ok (.iastore, 1) := by decide +kernel
theorem dX12_talliesAll_186 : decode cX12_talliesAll 186 = .ok (.iinc 2 1, 3) := by decide +kernel
theorem dX12_talliesAll_189 : decode cX12_talliesAll 189 = .ok (.goto (-177), 3) := by decide +kernel
theorem dX12_talliesAll_192 : decode cX12_talliesAll 192 = .ok (.iinc 1 1, 3) := by decide +kernel
theorem dX12_talliesAll_195 : decode cX12_talliesAll 195 = .ok (.goto (-193), 3) := by decide +kernel
theorem dX12_talliesAll_198 : decode cX12_talliesAll 198 = .ok (.return_, 1) := by decide +kernel
theorem dX12_tenthGoes_0 : decode cX12_tenthGoes 0 = .ok (.aload_n 0, 1) := by decide +kernel
theorem dX12_tenthGoes_1 : decode cX12_tenthGoes 1 = .ok (.dup, 1) := by decide +kernel
theorem dX12_tenthGoes_2 : decode cX12_tenthGoes 2 = .ok (.getfield 424, 3) := by decide +kernel
theorem dX12_tenthGoes_5 : decode cX12_tenthGoes 5 = .ok (.iconst 1, 1) := by decide +kernel
theorem dX12_tenthGoes_6 : decode cX12_tenthGoes 6 = .ok (.iadd, 1) := by decide +kernel
theorem dX12_tenthGoes_7 : decode cX12_tenthGoes 7 = .ok (.putfield 424, 3) := by decide +kernel
theorem dX12_tenthGoes_10 : decode cX12_tenthGoes 10 = .ok (.aload_n 0, 1) := by decide +kernel
theorem dX12_tenthGoes_11 : decode cX12_tenthGoes 11 = .ok (.getfield 136, 3) := by decide +kernel
theorem dX12_tenthGoes_14 : decode cX12_tenthGoes 14 = .ok (.aload_n 0, 1) := by decide +kernel
theorem dX12_tenthGoes_15 : decode cX12_tenthGoes 15 = .ok (.getfield 424, 3) := by decide +kernel
theorem dX12_tenthGoes_18 : decode cX12_tenthGoes 18 = .ok (.bipush 63, 2) := by decide +kernel
theorem dX12_tenthGoes_20 : decode cX12_tenthGoes 20 = .ok (.iand, 1) := by decide +kernel
theorem dX12_tenthGoes_21 : decode cX12_tenthGoes 21 = .ok (.iconst 0, 1) := by decide +kernel
theorem dX12_tenthGoes_22 : decode cX12_tenthGoes 22 = .ok (.iastore, 1) := by decide +kernel
theorem dX12_tenthGoes_23 : decode cX12_tenthGoes 23 = .ok (.aload_n 0, 1) := by decide +kernel
theorem dX12_tenthGoes_24 : decode cX12_tenthGoes 24 = .ok (.invokevirtual 502, 3) := by decide +kernel
theorem dX12_tenthGoes_27 : decode cX12_tenthGoes 27 = .ok (.iconst 0, 1) := by decide +kernel
theorem dX12_tenthGoes_28 : decode cX12_tenthGoes 28 = .ok (.istore_n 1, 1) := by decide +kernel
theorem dX12_tenthGoes_29 : decode cX12_tenthGoes 29 = .ok (.iload_n 1, 1) := by decide +kernel
theorem dX12_tenthGoes_30 : decode cX12_tenthGoes 30 = .ok (.aload_n 0, 1) := by decide +kernel
theorem dX12_tenthGoes_31 : decode cX12_tenthGoes 31 = .ok (.getfield 421, 3) := by decide +kernel
theorem dX12_tenthGoes_34 : decode cX12_tenthGoes 34 = .ok (.if_icmp .ge 38, 3) := by decide +kernel
theorem dX12_tenthGoes_37 : decode cX12_tenthGoes 37 = .ok (.aload_n 0, 1) := by decide +kernel
theorem dX12_tenthGoes_38 : decode cX12_tenthGoes 38 = .ok (.getfield 94, 3) := by decide +kernel
theorem dX12_tenthGoes_41 : decode cX12_tenthGoes 41 = .ok (.iload_n 1, 1) := by decide +kernel
theorem dX12_tenthGoes_42 : decode cX12_tenthGoes 42 = .ok (.iaload, 1) := by decide +kernel
theorem dX12_tenthGoes_43 : decode cX12_tenthGoes 43 = .ok (.iconst 1, 1) := by decide +kernel
theorem dX12_tenthGoes_44 : decode cX12_tenthGoes 44 = .ok (.if_icmp .ne 8, 3) := by decide +kernel
theorem dX12_tenthGoes_47 : decode cX12_tenthGoes 47 = .ok (.aload_n 0, 1) := by decide +kernel
theorem dX12_tenthGoes_48 : decode cX12_tenthGoes 48 = .ok (.iload_n 1, 1) := by decide +kernel
theorem dX12_tenthGoes_49 : decode cX12_tenthGoes 49 = .ok (.invokevirtual 505, 3) := by decide +kernel
theorem dX12_tenthGoes_52 : decode cX12_tenthGoes 52 = .ok (.aload_n 0, 1) := by decide +kernel
theorem dX12_tenthGoes_53 : decode cX12_tenthGoes 53 = .ok (.getfield 94, 3) := by decide +kernel
theorem dX12_tenthGoes_56 : decode cX12_tenthGoes 56 = .ok (.iload_n 1, 1) := by decide +kernel
theorem dX12_tenthGoes_57 : decode cX12_tenthGoes 57 = .ok (.iaload, 1) := by decide +kernel
theorem dX12_tenthGoes_58 : decode cX12_tenthGoes 58 = .ok (.ifCond .ne 8, 3) := by decide +kernel
theorem dX12_tenthGoes_61 : decode cX12_tenthGoes 61 = .ok (.aload_n 0, 1) := by decide +kernel
theorem dX12_tenthGoes_62 : decode cX12_tenthGoes 62 = .ok (.iload_n 1, 1) := by decide +kernel
theorem dX12_tenthGoes_63 : decode cX12_tenthGoes 63 = .ok (.invokevirtual 508, 3) := by decide +kernel
theorem dX12_tenthGoes_66 : decode cX12_tenthGoes 66 = .ok (.iinc 1 1, 3) := by decide +kernel
theorem dX12_tenthGoes_69 : decode cX12_tenthGoes 69 = .ok (.goto (-40), 3) := by decide +kernel
theorem dX12_tenthGoes_72 : decode cX12_tenthGoes 72 = .ok (.aload_n 0, 1) := by decide +kernel
theorem dX12_tenthGoes_73 : decode cX12_tenthGoes 73 = .ok (.invokevirtual 511, 3) := by decide +kernel
theorem dX12_tenthGoes_76 : decode cX12_tenthGoes 76 = .ok (.return_, 1) := by decide +kernel
theorem dX12_go_0 : decode cX12_go 0 = .ok (.iload_n 1, 1) := by decide +kernel
theorem dX12_go_1 : decode cX12_go 1 = .ok (.iconst 1, 1) := by decide +kernel
theorem dX12_go_2 : decode cX12_go 2 = .ok (.sipush 300, 3) := by decide +kernel
theorem dX12_go_5 : decode cX12_go 5 = .ok (.invokestatic 173, 3) := by decide +kernel
theorem dX12_go_8 : decode cX12_go 8 = .ok (.ifCond .ne 10, 3) := by decide +kernel
theorem dX12_go_11 : decode cX12_go 11 = .ok (.aload_n 0, 1) := by decide +kernel
theorem dX12_go_12 : decode cX12_go 12 = .ok (.iconst 0, 1) := by decide +kernel
theorem dX12_go_13 : decode cX12_go 13 = .ok (.iconst (-1), 1) := by decide +kernel
theorem dX12_go_14 : decode cX12_go 14 = .ok (.invokevirtual 177, 3) := by decide +kernel
theorem dX12_go_17 : decode cX12_go 17 = .ok (.ireturn, 1) := by decide +kernel
theorem dX12_go_18 : decode cX12_go 18 = .ok (.aload_n 0, 1) := by decide +kernel
theorem dX12_go_19 : decode cX12_go 19 = .ok (.getfield 7, 3) := by decide +kernel
theorem dX12_go_22 : decode cX12_go 22 = .ok (.bipush 91, 2) := by decide +kernel
theorem dX12_go_24 : decode cX12_go 24 = .ok (.iaload, 1) := by decide +kernel
theorem dX12_go_25 : decode cX12_go 25 = .ok (.iload_n 1, 1) := by decide +kernel
theorem dX12_go_26 : decode cX12_go 26 = .ok (.iadd, 1) := by decide +kernel
theorem dX12_go_27 : decode cX12_go 27 = .ok (.sipush 9000, 3) := by decide +kernel
theorem dX12_go_30 : decode cX12_go 30 = .ok (.if_icmp .le 10, 3) := by decide +kernel
theorem dX12_go_33 : decode cX12_go 33 = .ok (.aload_n 0, 1) := by decide +kernel
theorem dX12_go_34 : decode cX12_go 34 = .ok (.iconst 1, 1) := by decide +kernel
theorem dX12_go_35 : decode cX12_go 35 = .ok (.iconst (-1), 1) := by decide +kernel
theorem dX12_go_36 : decode cX12_go 36 = .ok (.invokevirtual 177, 3) := by decide +kernel
theorem dX12_go_39 : decode cX12_go 39 = .ok (.ireturn, 1) := by decide +kernel
theorem dX12_go_40 : decode cX12_go 40 = .ok (.aload_n 0, 1) := by decide +kernel
theorem dX12_go_41 : decode cX12_go 41 = .ok (.invokevirtual 191, 3) := by decide +kernel
theorem dX12_go_44 : decode cX12_go 44 = .ok (.aload_n 0, 1) := by decide +kernel
theorem dX12_go_45 : decode cX12_go 45 = .ok (.iconst 0, 1) := by decide +kernel
theorem dX12_go_46 : decode cX12_go 46 = .ok (.invokevirtual 514, 3) := by decide +kernel
theorem dX12_go_49 : decode cX12_go 49 = .ok (.iconst 0, 1) := by decide +kernel
theorem dX12_go_50 : decode cX12_go 50 = .ok (.istore_n 2, 1) := by decide +kernel
theorem dX12_go_51 : decode cX12_go 51 = .ok (.iload_n 2, 1) := by decide +kernel
theorem dX12_go_52 : decode cX12_go 52 = .ok (.iload_n 1, 1) := by decide +kernel
theorem dX12_go_53 : decode cX12_go 53 = .ok (.if_icmp .ge 13, 3) := by decide +kernel
theorem dX12_go_56 : decode cX12_go 56 = .ok (.aload_n 0, 1) := by decide +kernel
theorem dX12_go_57 : decode cX12_go 57 = .ok (.invokevirtual 517, 3) := by decide +kernel
theorem dX12_go_60 : decode cX12_go 60 = .ok (.iinc 2 1, 3) := by decide +kernel
theorem dX12_go_63 : decode cX12_go 63 = .ok (.goto (-12), 3) := by decide +kernel
theorem dX12_go_66 : decode cX12_go 66 = .ok (.aload_n 0, 1) := by decide +kernel
theorem dX12_go_67 : decode cX12_go 67 = .ok (.invokevirtual 520, 3) := by decide +kernel
theorem dX12_go_70 : decode cX12_go 70 = .ok (.aload_n 0, 1) := by decide +kernel
theorem dX12_go_71 : decode cX12_go 71 = .ok (.getfield 433, 3) := by decide +kernel
theorem dX12_go_74 : decode cX12_go 74 = .ok (.ireturn, 1) := by decide +kernel
theorem dX12_turnGoingOn_0 : decode cX12_turnGoingOn 0 = .ok (.iconst 0, 1) := by decide +kernel
theorem dX12_turnGoingOn_1 : decode cX12_turnGoingOn 1 = .ok (.istore_n 2, 1) := by decide +kernel
theorem dX12_turnGoingOn_2 : decode cX12_turnGoingOn 2 = .ok (.iload_n 2, 1) := by decide +kernel
theorem dX12_turnGoingOn_3 : decode cX12_turnGoingOn 3 = .ok (.aload_n 0, 1) := by decide +kernel
theorem dX12_turnGoingOn_4 : decode cX12_turnGoingOn 4 = .ok (.getfield 7, 3) := by decide +kernel
theorem dX12_turnGoingOn_7 : decode cX12_turnGoingOn 7 = .ok (.sipush 165, 3) := by decide +kernel
theorem dX12_turnGoingOn_10 : decode cX12_turnGoingOn 10 = .ok (.iaload, 1) := by decide +kernel
theorem dX12_turnGoingOn_11 : decode cX12_turnGoingOn 11 = .ok (.if_icmp .ge 31, 3) := by decide +kernel
theorem dX12_turnGoingOn_14 : decode cX12_turnGoingOn 14 = .ok (.aload_n 0, 1) := by decide +kernel
theorem dX12_turnGoingOn_15 : decode cX12_turnGoingOn 15 = .ok (.iload_n 2, 1) := by decide +kernel
theorem dX12_turnGoingOn_16 : decode cX12_turnGoingOn 16 = .ok (.iconst 0, 1) := by decide +kernel
theorem dX12_turnGoingOn_17 : decode cX12_turnGoingOn 17 = .ok (.invokevirtual 415, 3) := by decide +kernel
theorem dX12_turnGoingOn_20 : decode cX12_turnGoingOn 20 = .ok (.iload_n 1, 1) := by decide +kernel
theorem dX12_turnGoingOn_21 : decode cX12_turnGoingOn 21 = .ok (.if_icmp .ne 15, 3) := by decide +kernel
theorem dX12_turnGoingOn_24 : decode cX12_turnGoingOn 24 = .ok (.aload_n 0, 1) := by decide +kernel
theorem dX12_turnGoingOn_25 : decode cX12_turnGoingOn 25 = .ok (.iload_n 2, 1) := by decide +kernel
theorem dX12_turnGoingOn_26 : decode cX12_turnGoingOn 26 = .ok (.iconst 3, 1) := by decide +kernel
theorem dX12_turnGoingOn_27 : decode cX12_turnGoingOn 27 = .ok (.invokevirtual 415, 3) := by decide +kernel
theorem dX12_turnGoingOn_30 : decode cX12_turnGoingOn 30 = .ok (.iconst (-1), 1) := by decide +kernel
theorem dX12_turnGoingOn_31 : decode cX12_turnGoingOn 31 = .ok (.if_icmp .ne 5, 3) := by decide +kernel
theorem dX12_turnGoingOn_34 : decode cX12_turnGoingOn 34 = .ok (.iload_n 2, 1) := by decide +kernel
theorem dX12_turnGoingOn_35 : decode cX12_turnGoingOn 35 = .ok (.ireturn, 1) := by decide +kernel
theorem dX12_turnGoingOn_36 : decode cX12_turnGoingOn 36 = .ok (.iinc 2 1, 3) := by decide +kernel
theorem dX12_turnGoingOn_39 : decode cX12_turnGoingOn 39 = .ok (.goto (-37), 3) := by decide +kernel
theorem dX12_turnGoingOn_42 : decode cX12_turnGoingOn 42 = .ok (.iconst (-1), 1) := by decide +kernel
theorem dX12_turnGoingOn_43 : decode cX12_turnGoingOn 43 = .ok (.ireturn, 1) := by decide +kernel
theorem dX12_speak_0 : decode cX12_speak 0 = .ok (.aload_n 0, 1) := by decide +kernel
theorem dX12_speak_1 : decode cX12_speak 1 = .ok (.iload_n 1, 1) := by decide +kernel
theorem dX12_speak_2 : decode cX12_speak 2 = .ok (.invokevirtual 185, 3) := by decide +kernel
theorem dX12_speak_5 : decode cX12_speak 5 = .ok (.ifCond .eq 13, 3) := by decide +kernel
theorem dX12_speak_8 : decode cX12_speak 8 = .ok (.iload_n 2, 1) := by decide +kernel
theorem dX12_speak_9 : decode cX12_speak 9 = .ok (.iconst 1, 1) := by decide +kernel
theorem dX12_speak_10 : decode cX12_speak 10 = .ok (.bipush 99, 2) := by decide +kernel
theorem dX12_speak_12 : decode cX12_speak 12 = .ok (.invokestatic 173, 3) := by decide +kernel
theorem dX12_speak_15 : decode cX12_speak 15 = .ok (.ifCond .ne 10, 3) := by decide +kernel
theorem dX12_speak_18 : decode cX12_speak 18 = .ok (.aload_n 0, 1) := by decide +kernel
theorem dX12_speak_19 : decode cX12_speak 19 = .ok (.iconst 0, 1) := by decide +kernel
theorem dX12_speak_20 : decode cX12_speak 20 = .ok (.iconst (-1), 1) := by decide +kernel
theorem dX12_speak_21 : decode cX12_speak 21 = .ok (.invokevirtual 177, 3) := by decide +kernel
theorem dX12_speak_24 : decode cX12_speak 24 = .ok (.ireturn, 1) := by decide +kernel
theorem dX12_speak_25 : decode cX12_speak 25 = .ok (.aload_n 0, 1) := by decide +kernel
theorem dX12_speak_26 : decode cX12_speak 26 = .ok (.getfield 7, 3) := by decide +kernel
theorem dX12_speak_29 : decode cX12_speak 29 = .ok (.sipush 165, 3) := by decide +kernel
theorem dX12_speak_32 : decode cX12_speak 32 = .ok (.iaload, 1) := by decide +kernel
theorem dX12_speak_33 : decode cX12_speak 33 = .ok (.bipush 90, 2) := by decide +kernel
theorem dX12_speak_35 : decode cX12_speak 35 = .ok (.if_icmp .ne 10, 3) := by decide +kernel
theorem dX12_speak_38 : decode cX12_speak 38 = .ok (.aload_n 0, 1) := by decide +kernel
theorem dX12_speak_39 : decode cX12_speak 39 = .ok (.iconst 1, 1) := by decide +kernel
theorem dX12_speak_40 : decode cX12_speak 40 = .ok (.iconst (-1), 1) := by decide +kernel
theorem dX12_speak_41 : decode cX12_speak 41 = .ok (.invokevirtual 177, 3) := by decide +kernel
theorem dX12_speak_44 : decode cX12_speak 44 = .ok (.ireturn, 1) := by decide +kernel
theorem dX12_speak_45 : decode cX12_speak 45 = .ok (.aload_n 0, 1) := by decide +kernel
theorem dX12_speak_46 : decode cX12_speak 46 = .ok (.getfield 7, 3) := by decide +kernel
theorem dX12_speak_49 : decode cX12_speak 49 = .ok (.bipush 93, 2) := by decide +kernel
theorem dX12_speak_51 : decode cX12_speak 51 = .ok (.iload_n 1, 1) := by decide +kernel
theorem dX12_speak_52 : decode cX12_speak 52 = .ok (.iadd, 1) := by decide +kernel
theorem dX12_speak_53 : decode cX12_speak 53 = .ok (.iaload, 1) := by decide +kernel
theorem dX12_speak_54 : decode cX12_speak 54 = .ok (.iconst 1, 1) := by decide +kernel
theorem dX12_speak_55 : decode cX12_speak 55 = .ok (.if_icmp .ne 10, 3) := by decide +kernel
theorem dX12_speak_58 : decode cX12_speak 58 = .ok (.aload_n 0, 1) := by decide +kernel
theorem dX12_speak_59 : decode cX12_speak 59 = .ok (.iconst 2, 1) := by decide +kernel
theorem dX12_speak_60 : decode cX12_speak 60 = .ok (.iconst (-1), 1) := by decide +kernel
theorem dX12_speak_61 : decode cX12_speak 61 = .ok (.invokevirtual 177, 3) := by decide +kernel
theorem dX12_speak_64 : decode cX12_speak 64 = .ok (.ireturn, 1) := by decide +kernel
theorem dX12_speak_65 : decode cX12_speak 65 = .ok (.aload_n 0, 1) := by decide +kernel
theorem dX12_speak_66 : decode cX12_speak 66 = .ok (.invokevirtual 191, 3) := by decide +kernel
theorem dX12_speak_69 : decode cX12_speak 69 = .ok (.aload_n 0, 1) := by decide +kernel
theorem dX12_speak_70 : decode cX12_speak 70 = .ok (.getfield 7, 3) := by decide +kernel
theorem dX12_speak_73 : decode cX12_speak 73 = .ok (.sipush 165, 3) := by decide +kernel
theorem dX12_speak_76 : decode cX12_speak 76 = .ok (.iaload, 1) := by decide +kernel
theorem dX12_speak_77 : decode cX12_speak 77 = .ok (.istore_n 3, 1) := by decide +kernel
theorem dX12_speak_78 : decode cX12_speak 78 = .ok (.aload_n 0, 1) := by decide +kernel
theorem dX12_speak_79 : decode cX12_speak 79 = .ok (.getfield 7, 3) := by decide +kernel
theorem dX12_speak_82 : decode cX12_speak 82 = .ok (.sipush 166, 3) := by decide +kernel
theorem dX12_speak_85 : decode cX12_speak 85 = .ok (.iconst 5, 1) := by decide +kernel
theorem dX12_speak_86 : decode cX12_speak 86 = .ok (.iload_n 3, 1) := by decide +kernel
theorem dX12_speak_87 : decode cX12_speak 87 = .ok (.imul, 1) := by decide +kernel
theorem dX12_speak_88 : decode cX12_speak 88 = .ok (.iadd, 1) := by decide +kernel
theorem dX12_speak_89 : decode cX12_speak 89 = .ok (.iconst 0, 1) := by decide +kernel
theorem dX12_speak_90 : decode cX12_speak 90 = .ok (.iadd, 1) := by decide +kernel
theorem dX12_speak_91 : decode cX12_speak 91 = .ok (.iload_n 1, 1) := by decide +kernel
theorem dX12_speak_92 : decode cX12_speak 92 = .ok (.iastore, 1) := by decide +kernel
theorem dX12_speak_93 : decode cX12_speak 93 = .ok (.aload_n 0, 1) := by decide +kernel
theorem dX12_speak_94 : decode cX12_speak 94 = .ok (.getfield 7, 3) := by decide +kernel
theorem dX12_speak_97 : decode cX12_speak 97 = .ok (.sipush 166, 3) := by decide +kernel
theorem dX12_speak_100 : decode cX12_speak 100 = .ok (.iconst 5, 1) := by decide +kernel
theorem dX12_speak_101 : decode cX12_speak 101 = .ok (.iload_n 3, 1) := by decide +kernel
theorem dX12_speak_102 : decode cX12_speak 102 = .ok (.imul, 1) := by decide +kernel
theorem dX12_speak_103 : decode cX12_speak 103 = .ok (.iadd, 1) := by decide +kernel
theorem dX12_speak_104 : decode cX12_speak 104 = .ok (.iconst 1, 1) := by decide +kernel
theorem dX12_speak_105 : decode cX12_speak 105 = .ok (.iadd, 1) := by decide +kernel
theorem dX12_speak_106 : decode cX12_speak 106 = .ok (.aload_n 0, 1) := by decide +kernel
theorem dX12_speak_107 : decode cX12_speak 107 = .ok (.getfield 7, 3) := by decide +kernel
theorem dX12_speak_110 : decode cX12_speak 110 = .ok (.bipush 91, 2) := by decide +kernel
theorem dX12_speak_112 : decode cX12_speak 112 = .ok (.iaload, 1) := by decide +kernel
theorem dX12_speak_113 : decode cX12_speak 113 = .ok (.iconst 1, 1) := by decide +kernel
theorem dX12_speak_114 : decode cX12_speak 114 = .ok (.iadd, 1) := by decide +kernel
theorem dX12_speak_115 : decode cX12_speak 115 = .ok (.iastore, 1) := by decide +kernel
theorem dX12_speak_116 : decode cX12_speak 116 = .ok (.aload_n 0, 1) := by decide +kernel
theorem dX12_speak_117 : decode cX12_speak 117 = .ok (.getfield 7, 3) := by decide +kernel
theorem dX12_speak_120 : decode cX12_speak 120 = .ok (.sipush 166, 3) := by decide +kernel
theorem dX12_speak_123 : decode cX12_speak 123 = .ok (.iconst 5, 1) := by decide +kernel
theorem dX12_speak_124 : decode cX12_speak 124 = .ok (.iload_n 3, 1) := by decide +kernel
theorem dX12_speak_125 : decode cX12_speak 125 = .ok (.imul, 1) := by decide +kernel
theorem dX12_speak_126 : decode cX12_speak 126 = .ok (.iadd, 1) := by decide +kernel
theorem dX12_speak_127 : decode cX12_speak 127 = .ok (.iconst 2, 1) := by decide +kernel
theorem dX12_speak_128 : decode cX12_speak 128 = .ok (.iadd, 1) := by decide +kernel
theorem dX12_speak_129 : decode cX12_speak 129 = .ok (.iload_n 2, 1) := by decide +kernel
theorem dX12_speak_130 : decode cX12_speak 130 = .ok (.iastore, 1) := by decide +kernel
theorem dX12_speak_131 : decode cX12_speak 131 = .ok (.aload_n 0, 1) := by decide +kernel
theorem dX12_speak_132 : decode cX12_speak 132 = .ok (.getfield 7, 3) := by decide +kernel
theorem dX12_speak_135 : decode cX12_speak 135 = .ok (.sipush 166, 3) := by decide +kernel
theorem dX12_speak_138 : decode cX12_speak 138 = .ok (.iconst 5, 1) := by decide +kernel
theorem dX12_speak_139 : decode cX12_speak 139 = .ok (.iload_n 3, 1) := by decide +kernel
theorem dX12_speak_140 : decode cX12_speak 140 = .ok (.imul, 1) := by decide +kernel
theorem dX12_speak_141 : decode cX12_speak 141 = .ok (.iadd, 1) := by decide +kernel
theorem dX12_speak_142 : decode cX12_speak 142 = .ok (.iconst 3, 1) := by decide +kernel
theorem dX12_speak_143 : decode cX12_speak 143 = .ok (.iadd, 1) := by decide +kernel
theorem dX12_speak_144 : decode cX12_speak 144 = .ok (.iconst (-1), 1) := by decide +kernel
theorem dX12_speak_145 : decode cX12_speak 145 = .ok (.iastore, 1) := by decide +kernel
theorem dX12_speak_146 : decode cX12_speak 146 = .ok (.aload_n 0, 1) := by decide +kernel
theorem dX12_speak_147 : decode cX12_speak 147 = .ok (.getfield 7, 3) := by decide +kernel
theorem dX12_speak_150 : decode cX12_speak 150 = .ok (.sipush 166, 3) := by decide +kernel
theorem dX12_speak_153 : decode cX12_speak 153 = .ok (.iconst 5, 1) := by decide +kernel
theorem dX12_speak_154 : decode cX12_speak 154 = .ok (.iload_n 3, 1) := by decide +kernel
theorem dX12_speak_155 : decode cX12_speak 155 = .ok (.imul, 1) := by decide +kernel
theorem dX12_speak_156 : decode cX12_speak 156 = .ok (.iadd, 1) := by decide +kernel
theorem dX12_speak_157 : decode cX12_speak 157 = .ok (.iconst 4, 1) := by decide +kernel
theorem dX12_speak_158 : decode cX12_speak 158 = .ok (.iadd, 1) := by decide +kernel
theorem dX12_speak_159 : decode cX12_speak 159 = .ok (.iconst 0, 1) := by decide +kernel
theorem dX12_speak_160 : decode cX12_speak 160 = .ok (.iastore, 1) := by decide +kernel
theorem dX12_speak_161 : decode cX12_speak 161 = .ok (.aload_n 0, 1) := by decide +kernel
theorem dX12_speak_162 : decode cX12_speak 162 = .ok (.getfield 7, 3) := by decide +kernel
theorem dX12_speak_165 : decode cX12_speak 165 = .ok (.sipush 165, 3) := by decide +kernel
theorem dX12_speak_168 : decode cX12_speak 168 = .ok (.dup2, 1) := by decide +kernel
theorem dX12_speak_169 : decode cX12_speak 169 = .ok (.iaload, 1) := by decide +kernel
theorem dX12_speak_170 : decode cX12_speak 170 = .ok (.iconst 1, 1) := by decide +kernel
theorem dX12_speak_171 : decode cX12_speak 171 = .ok (.iadd, 1) := by decide +kernel
theorem dX12_speak_172 : decode cX12_speak 172 = .ok (.iastore, 1) := by decide +kernel
theorem dX12_speak_173 : decode cX12_speak 173 = .ok (.aload_n 0, 1) := by decide +kernel
theorem dX12_speak_174 : decode cX12_speak 174 = .ok (.getfield 7, 3) := by decide +kernel
theorem dX12_speak_177 : decode cX12_speak 177 = .ok (.bipush 93, 2) := by decide +kernel
theorem dX12_speak_179 : decode cX12_speak 179 = .ok (.iload_n 1, 1) := by decide +kernel
theorem dX12_speak_180 : decode cX12_speak 180 = .ok (.iadd, 1) := by decide +kernel
theorem dX12_speak_181 : decode cX12_speak 181 = .ok (.iconst 1, 1) := by decide +kernel
theorem dX12_speak_182 : decode cX12_speak 182 = .ok (.iastore, 1) := by decide +kernel
theorem dX12_speak_183 : decode cX12_speak 183 = .ok (.aload_n 0, 1) := by decide +kernel
theorem dX12_speak_184 : decode cX12_speak 184 = .ok (.getfield 7, 3) := by decide +kernel
theorem dX12_speak_187 : decode cX12_speak 187 = .ok (.bipush 105, 2) := by decide +kernel
theorem dX12_speak_189 : decode cX12_speak 189 = .ok (.iload_n 1, 1) := by decide +kernel
theorem dX12_speak_190 : decode cX12_speak 190 = .ok (.iadd, 1) := by decide +kernel
theorem dX12_speak_191 : decode cX12_speak 191 = .ok (.iconst 0, 1) := by decide +kernel
theorem dX12_speak_192 : decode cX12_speak 192 = .ok (.iastore, 1) := by decide +kernel
theorem dX12_speak_193 : decode cX12_speak 193 = .ok (.iload_n 3, 1) := by decide +kernel
theorem dX12_speak_194 : decode cX12_speak 194 = .ok (.ireturn, 1) := by decide +kernel
theorem dX12_hush_0 : decode cX12_hush 0 = .ok (.aload_n 0, 1) := by decide +kernel
theorem dX12_hush_1 : decode cX12_hush 1 = .ok (.iload_n 1, 1) := by decide +kernel
theorem dX12_hush_2 : decode cX12_hush 2 = .ok (.invokevirtual 185, 3) := by decide +kernel
theorem dX12_hush_5 : decode cX12_hush 5 = .ok (.ifCond .ne 10, 3) := by decide +kernel
theorem dX12_hush_8 : decode cX12_hush 8 = .ok (.aload_n 0, 1) := by decide +kernel
theorem dX12_hush_9 : decode cX12_hush 9 = .ok (.iconst 0, 1) := by decide +kernel
theorem dX12_hush_10 : decode cX12_hush 10 = .ok (.iconst (-1), 1) := by decide +kernel
theorem dX12_hush_11 : decode cX12_hush 11 = .ok (.invokevirtual 177, 3) := by decide +kernel
theorem dX12_hush_14 : decode cX12_hush 14 = .ok (.ireturn, 1) := by decide +kernel
theorem dX12_hush_15 : decode cX12_hush 15 = .ok (.aload_n 0, 1) := by decide +kernel
theorem dX12_hush_16 : decode cX12_hush 16 = .ok (.getfield 7, 3) := by decide +kernel
theorem dX12_hush_19 : decode cX12_hush 19 = .ok (.bipush 93, 2) := by decide +kernel
theorem dX12_hush_21 : decode cX12_hush 21 = .ok (.iload_n 1, 1) := by decide +kernel
theorem dX12_hush_22 : decode cX12_hush 22 = .ok (.iadd, 1) := by decide +kernel
theorem dX12_hush_23 : decode cX12_hush 23 = .ok (.iaload, 1) := by decide +kernel
theorem dX12_hush_24 : decode cX12_hush 24 = .ok (.ifCond .ne 10, 3) := by decide +kernel
theorem dX12_hush_27 : decode cX12_hush 27 = .ok (.aload_n 0, 1) := by decide +kernel
theorem dX12_hush_28 : decode cX12_hush 28 = .ok (.iconst 2, 1) := by decide +kernel
theorem dX12_hush_29 : decode cX12_hush 29 = .ok (.iconst (-1), 1) := by decide +kernel
theorem dX12_hush_30 : decode cX12_hush 30 = .ok (.invokevirtual 177, 3) := by decide +kernel
theorem dX12_hush_33 : decode cX12_hush 33 = .ok (.ireturn, 1) := by decide +kernel
theorem dX12_hush_34 : decode cX12_hush 34 = .ok (.aload_n 0, 1) := by decide +kernel
theorem dX12_hush_35 : decode cX12_hush 35 = .ok (.invokevirtual 191, 3) := by decide +kernel
theorem dX12_hush_38 : decode cX12_hush 38 = .ok (.aload_n 0, 1) := by decide +kernel
theorem dX12_hush_39 : decode cX12_hush 39 = .ok (.iload_n 1, 1) := by decide +kernel
theorem dX12_hush_40 : decode cX12_hush 40 = .ok (.invokevirtual 523, 3) := by decide +kernel
theorem dX12_hush_43 : decode cX12_hush 43 = .ok (.istore_n 2, 1) := by decide +kernel
theorem dX12_hush_44 : decode cX12_hush 44 = .ok (.aload_n 0, 1) := by decide +kernel
theorem dX12_hush_45 : decode cX12_hush 45 = .ok (.getfield 7, 3) := by decide +kernel
theorem dX12_hush_48 : decode cX12_hush 48 = .ok (.sipush 166, 3) := by decide +kernel
theorem dX12_hush_51 : decode cX12_hush 51 = .ok (.iconst 5, 1) := by decide +kernel
theorem dX12_hush_52 : decode cX12_hush 52 = .ok (.iload_n 2, 1) := by decide +kernel
theorem dX12_hush_53 : decode cX12_hush 53 = .ok (.imul, 1) := by decide +kernel
theorem dX12_hush_54 : decode cX12_hush 54 = .ok (.iadd, 1) := by decide +kernel
theorem dX12_hush_55 : decode cX12_hush 55 = .ok (.iconst 3, 1) := by decide +kernel
theorem dX12_hush_56 : decode cX12_hush 56 = .ok (.iadd, 1) := by decide +kernel
theorem dX12_hush_57 : decode cX12_hush 57 = .ok (.aload_n 0, 1) := by decide +kernel
theorem dX12_hush_58 : decode cX12_hush 58 = .ok (.getfield 7, 3) := by decide +kernel
theorem dX12_hush_61 : decode cX12_hush 61 = .ok (.bipush 91, 2) := by decide +kernel
theorem dX12_hush_63 : decode cX12_hush 63 = .ok (.iaload, 1) := by decide +kernel
theorem dX12_hush_64 : decode cX12_hush 64 = .ok (.iconst 1, 1) := by decide +kernel
theorem dX12_hush_65 : decode cX12_hush 65 = .ok (.iadd, 1) := by decide +kernel
theorem dX12_hush_66 : decode cX12_hush 66 = .ok (.iastore, 1) := by decide +kernel
theorem dX12_hush_67 : decode cX12_hush 67 = .ok (.aload_n 0, 1) := by decide +kernel
theorem dX12_hush_68 : decode cX12_hush 68 = .ok (.getfield 7, 3) := by decide +kernel
theorem dX12_hush_71 : decode cX12_hush 71 = .ok (.sipush 166, 3) := by decide +kernel
theorem dX12_hush_74 : decode cX12_hush 74 = .ok (.iconst 5, 1) := by decide +kernel
theorem dX12_hush_75 : decode cX12_hush 75 = .ok (.iload_n 2, 1) := by decide +kernel
theorem dX12_hush_76 : decode cX12_hush 76 = .ok (.imul, 1) := by decide +kernel
theorem dX12_hush_77 : decode cX12_hush 77 = .ok (.iadd, 1) := by decide +kernel
theorem dX12_hush_78 : decode cX12_hush 78 = .ok (.iconst 4, 1) := by decide +kernel
theorem dX12_hush_79 : decode cX12_hush 79 = .ok (.iadd, 1) := by decide +kernel
theorem dX12_hush_80 : decode cX12_hush 80 = .ok (.iconst 3, 1) := by decide +kernel
theorem dX12_hush_81 : decode cX12_hush 81 = .ok (.iastore, 1) := by decide +kernel
theorem dX12_hush_82 : decode cX12_hush 82 = .ok (.aload_n 0, 1) := by decide +kernel
theorem dX12_hush_83 : decode cX12_hush 83 = .ok (.getfield 7, 3) := by decide +kernel
theorem dX12_hush_86 : decode cX12_hush 86 = .ok (.bipush 93, 2) := by decide +kernel
theorem dX12_hush_88 : decode cX12_hush 88 = .ok (.iload_n 1, 1) := by decide +kernel
theorem dX12_hush_89 : decode cX12_hush 89 = .ok (.iadd, 1) := by decide +kernel
theorem dX12_hush_90 : decode cX12_hush 90 = .ok (.iconst 0, 1) := by decide +kernel
theorem dX12_hush_91 : decode cX12_hush 91 = .ok (.iastore, 1) := by decide +kernel
theorem dX12_hush_92 : decode cX12_hush 92 = .ok (.aload_n 0, 1) := by decide +kernel
theorem dX12_hush_93 : decode cX12_hush 93 = .ok (.getfield 7, 3) := by decide +kernel
theorem dX12_hush_96 : decode cX12_hush 96 = .ok (.bipush 97, 2) := by decide +kernel
theorem dX12_hush_98 : decode cX12_hush 98 = .ok (.iload_n 1, 1) := by decide +kernel
theorem dX12_hush_99 : decode cX12_hush 99 = .ok (.iadd, 1) := by decide +kernel
theorem dX12_hush_100 : decode cX12_hush 100 = .ok (.iconst 0, 1) := by decide +kernel
theorem dX12_hush_101 : decode cX12_hush 101 = .ok (.iastore, 1) := by decide +kernel
theorem dX12_hush_102 : decode cX12_hush 102 = .ok (.iload_n 2, 1) := by decide +kernel
theorem dX12_hush_103 : decode cX12_hush 103 = .ok (.ireturn, 1) := by decide +kernel
theorem dX12_heardOut_0 : decode cX12_heardOut 0 = .ok (.iconst (-1), 1) := by decide +kernel
theorem dX12_heardOut_1 : decode cX12_heardOut 1 = .ok (.istore_n 2, 1) := by decide +kernel
theorem dX12_heardOut_2 : decode cX12_heardOut 2 = .ok (.iconst (-1), 1) := by decide +kernel
theorem dX12_heardOut_3 : decode cX12_heardOut 3 = .ok (.istore_n 3, 1) := by decide +kernel
theorem dX12_heardOut_4 : decode cX12_heardOut 4 = .ok (.iconst 0, 1) := by decide +kernel
theorem dX12_heardOut_5 : decode cX12_heardOut 5 = .ok (.istore 4, 2) := by decide +kernel
theorem dX12_heardOut_7 : decode cX12_heardOut 7 = .ok (.iload 4, 2) := by decide +kernel
theorem dX12_heardOut_9 : decode cX12_heardOut 9 = .ok (.aload_n 0, 1) := by decide +kernel
theorem dX12_heardOut_10 : decode cX12_heardOut 10 = .ok (.getfield 7, 3) := by decide +kernel
theorem dX12_heardOut_13 : decode cX12_heardOut 13 = .ok (.sipush 165, 3) := by decide +kernel
theorem dX12_heardOut_16 : decode cX12_heardOut 16 = .ok (.iaload, 1) := by decide +kernel
theorem dX12_heardOut_17 : decode cX12_heardOut 17 = .ok (.if_icmp .ge 87, 3) := by decide +kernel
theorem dX12_heardOut_20 : decode cX12_heardOut 20 = .ok (.aload_n 0, 1) := by decide +kernel
theorem dX12_heardOut_21 : decode cX12_heardOut 21 = .ok (.iload 4, 2) := by decide +kernel
theorem dX12_heardOut_23 : decode cX12_heardOut 23 = .ok (.iconst 0, 1) := by decide +kernel
theorem dX12_heardOut_24 : decode cX12_heardOut 24 = .ok (.invokevirtual 415, 3) := by decide +kernel
theorem dX12_heardOut_27 : decode cX12_heardOut 27 = .ok (.istore 5, 2) := by decide +kernel
theorem dX12_heardOut_29 : decode cX12_heardOut 29 = .ok (.iload 5, 2) := by decide +kernel
theorem dX12_heardOut_31 : decode cX12_heardOut 31 = .ok (.iload_n 1, 1) := by decide +kernel
theorem dX12_heardOut_32 : decode cX12_heardOut 32 = .ok (.if_icmp .eq 66, 3) := by decide +kernel
theorem dX12_heardOut_35 : decode cX12_heardOut 35 = .ok (.aload_n 0, 1) := by decide +kernel
theorem dX12_heardOut_36 : decode cX12_heardOut 36 = .ok (.iload 4, 2) := by decide +kernel
theorem dX12_heardOut_38 : decode cX12_heardOut 38 = .ok (.iconst 3, 1) := by decide +kernel
theorem dX12_heardOut_39 : decode cX12_heardOut 39 = .ok (.invokevirtual 415, 3) := by decide +kernel
theorem dX12_heardOut_42 : decode cX12_heardOut 42 = .ok (.iconst (-1), 1) := by decide +kernel
theorem dX12_heardOut_43 : decode cX12_heardOut 43 = .ok (.if_icmp .eq 55, 3) := by decide +kernel
theorem dX12_heardOut_46 : decode cX12_heardOut 46 = .ok (.aload_n 0, 1) := by decide +kernel
theorem dX12_heardOut_47 : decode cX12_heardOut 47 = .ok (.iload 4, 2) := by decide +kernel
theorem dX12_heardOut_49 : decode cX12_heardOut 49 = .ok (.invokevirtual 445, 3) := by decide +kernel
theorem dX12_heardOut_52 : decode cX12_heardOut 52 = .ok (.ifCond .eq 46, 3) := by decide +kernel
theorem dX12_heardOut_55 : decode cX12_heardOut 55 = .ok (.aload_n 0, 1) := by decide +kernel
theorem dX12_heardOut_56 : decode cX12_heardOut 56 = .ok (.iload 4, 2) := by decide +kernel
theorem dX12_heardOut_58 : decode cX12_heardOut 58 = .ok (.iconst 3, 1) := by decide +kernel
theorem dX12_heardOut_59 : decode cX12_heardOut 59 = .ok (.invokevirtual 415, 3) := by decide +kernel
theorem dX12_heardOut_62 : decode cX12_heardOut 62 = .ok (.iconst 1, 1) := by decide +kernel
theorem dX12_heardOut_63 : decode cX12_heardOut 63 = .ok (.iadd, 1) := by decide +kernel
theorem dX12_heardOut_64 : decode cX12_heardOut 64 = .ok (.aload_n 0, 1) := by decide +kernel
theorem dX12_heardOut_65 : decode cX12_heardOut 65 = .ok (.iload 5, 2) := by decide +kernel
theorem dX12_heardOut_67 : decode cX12_heardOut 67 = .ok (.iload_n 1, 1) := by decide +kernel
theorem dX12_heardOut_68 : decode cX12_heardOut 68 = .ok (.invokevirtual 188, 3) := by decide +kernel
theorem dX12_heardOut_71 : decode cX12_heardOut 71 = .ok (.iadd, 1) := by decide +kernel
theorem dX12_heardOut_72 : decode cX12_heardOut 72 = .ok (.istore 6, 2) := by decide +kernel
theorem dX12_heardOut_74 : decode cX12_heardOut 74 = .ok (.iload 6, 2) := by decide +kernel
theorem dX12_heardOut_76 : decode cX12_heardOut 76 = .ok (.aload_n 0, 1) := by decide +kernel
theorem dX12_heardOut_77 : decode cX12_heardOut 77 = .ok (.getfield 7, 3) := by decide +kernel
theorem dX12_heardOut_80 : decode cX12_heardOut 80 = .ok (.bipush 91, 2) := by decide +kernel
theorem dX12_heardOut_82 : decode cX12_heardOut 82 = .ok (.iaload, 1) := by decide +kernel
theorem dX12_heardOut_83 : decode cX12_heardOut 83 = .ok (.if_icmp .gt 15, 3) := by decide +kernel
theorem dX12_heardOut_86 : decode cX12_heardOut 86 = .ok (.iload 6, 2) := by decide +kernel
theorem dX12_heardOut_88 : decode cX12_heardOut 88 = .ok (.iload_n 3, 1) := by decide +kernel
theorem dX12_heardOut_89 : decode cX12_heardOut 89 = .ok (.if_icmp .le 9, 3) := by decide +kernel
theorem dX12_heardOut_92 : decode cX12_heardOut 92 = .ok (.iload 6, 2) := by decide +kernel
theorem dX12_heardOut_94 : decode cX12_heardOut 94 = .ok (.istore_n 3, 1) := by decide +kernel
theorem dX12_heardOut_95 : decode cX12_heardOut 95 = .ok (.iload 4, 2) := by decide +kernel
theorem dX12_heardOut_97 : decode cX12_heardOut 97 = .ok (.istore_n 2, 1) := by decide +kernel
theorem dX12_heardOut_98 : decode cX12_heardOut 98 = .ok (.iinc 4 1, 3) := by decide +kernel
theorem dX12_heardOut_101 : decode cX12_heardOut 101 = .ok (.goto (-94), 3) := by decide +kernel
theorem dX12_heardOut_104 : decode cX12_heardOut 104 = .ok (.iload_n 2, 1) := by decide +kernel
theorem dX12_heardOut_105 : decode cX12_heardOut 105 = .ok (.ireturn, 1) := by decide +kernel
theorem dX12_yes_0 : decode cX12_yes 0 = .ok (.aload_n 0, 1) := by decide +kernel
theorem dX12_yes_1 : decode cX12_yes 1 = .ok (.iload_n 1, 1) := by decide +kernel
theorem dX12_yes_2 : decode cX12_yes 2 = .ok (.invokevirtual 185, 3) := by decide +kernel
theorem dX12_yes_5 : decode cX12_yes 5 = .ok (.ifCond .ne 11, 3) := by decide +kernel
theorem dX12_yes_8 : decode cX12_yes 8 = .ok (.aload_n 0, 1) := by decide +kernel
theorem dX12_yes_9 : decode cX12_yes 9 = .ok (.iconst 0, 1) := by decide +kernel
theorem dX12_yes_10 : decode cX12_yes 10 = .ok (.bipush (-2), 2) := by decide +kernel
theorem dX12_yes_12 : decode cX12_yes 12 = .ok (.invokevirtual 177, 3) := by decide +kernel
theorem dX12_yes_15 : decode cX12_yes 15 = .ok (.ireturn, 1) := by decide +kernel
theorem dX12_yes_16 : decode cX12_yes 16 = .ok (.aload_n 0, 1) := by decide +kernel
theorem dX12_yes_17 : decode cX12_yes 17 = .ok (.getfield 7, 3) := by decide +kernel
theorem dX12_yes_20 : decode cX12_yes 20 = .ok (.sipush 616, 3) := by decide +kernel
theorem dX12_yes_23 : decode cX12_yes 23 = .ok (.iaload, 1) := by decide +kernel
theorem dX12_yes_24 : decode cX12_yes 24 = .ok (.bipush 40, 2) := by decide +kernel
theorem dX12_yes_26 : decode cX12_yes 26 = .ok (.if_icmp .ne 11, 3) := by decide +kernel
theorem dX12_yes_29 : decode cX12_yes 29 = .ok (.aload_n 0, 1) := by decide +kernel
theorem dX12_yes_30 : decode cX12_yes 30 = .ok (.iconst 1, 1) := by decide +kernel
theorem dX12_yes_31 : decode cX12_yes 31 = .ok (.bipush (-2), 2) := by decide +kernel
theorem dX12_yes_33 : decode cX12_yes 33 = .ok (.invokevirtual 177, 3) := by decide +kernel
theorem dX12_yes_36 : decode cX12_yes 36 = .ok (.ireturn, 1) := by decide +kernel
theorem dX12_yes_37 : decode cX12_yes 37 = .ok (.aload_n 0, 1) := by decide +kernel
theorem dX12_yes_38 : decode cX12_yes 38 = .ok (.invokevirtual 191, 3) := by decide +kernel
theorem dX12_yes_41 : decode cX12_yes 41 = .ok (.sipush 617, 3) := by decide +kernel
theorem dX12_yes_44 : decode cX12_yes 44 = .ok (.iconst 3, 1) := by decide +kernel
theorem dX12_yes_45 : decode cX12_yes 45 = .ok (.aload_n 0, 1) := by decide +kernel
theorem dX12_yes_46 : decode cX12_yes 46 = .ok (.getfield 7, 3) := by decide +kernel
theorem dX12_yes_49 : decode cX12_yes 49 = .ok (.sipush 616, 3) := by decide +kernel
theorem dX12_yes_52 : decode cX12_yes 52 = .ok (.iaload, 1) := by decide +kernel
theorem dX12_yes_53 : decode cX12_yes 53 = .ok (.imul, 1) := by decide +kernel
theorem dX12_yes_54 : decode cX12_yes 54 = .ok (.iadd, 1) := by decide +kernel
theorem dX12_yes_55 : decode cX12_yes 55 = .ok (.istore_n 2, 1) := by decide +kernel
theorem dX12_yes_56 : decode cX12_yes 56 = .ok (.aload_n 0, 1) := by decide +kernel
theorem dX12_yes_57 : decode cX12_yes 57 = .ok (.getfield 7, 3) := by decide +kernel
theorem dX12_yes_60 : decode cX12_yes 60 = .ok (.iload_n 2, 1) := by decide +kernel
theorem dX12_yes_61 : decode cX12_yes 61 = .ok (.iload_n 1, 1) := by decide +kernel
theorem dX12_yes_62 : decode cX12_yes 62 = .ok (.iastore, 1) := by decide +kernel
theorem dX12_yes_63 : decode cX12_yes 63 = .ok (.aload_n 0, 1) := by decide +kernel
theorem dX12_yes_64 : decode cX12_yes 64 = .ok (.getfield 7, 3) := by decide +kernel
theorem dX12_yes_67 : decode cX12_yes 67 = .ok (.iload_n 2, 1) := by decide +kernel
theorem dX12_yes_68 : decode cX12_yes 68 = .ok (.iconst 1, 1) := by decide +kernel
theorem dX12_yes_69 : decode cX12_yes 69 = .ok (.iadd, 1) := by decide +kernel
theorem dX12_yes_70 : decode cX12_yes 70 = .ok (.aload_n 0, 1) := by decide +kernel
theorem dX12_yes_71 : decode cX12_yes 71 = .ok (.getfield 7, 3) := by decide +kernel
theorem dX12_yes_74 : decode cX12_yes 74 = .ok (.bipush 91, 2) := by decide +kernel
theorem dX12_yes_76 : decode cX12_yes 76 = .ok (.iaload, 1) := by decide +kernel
theorem dX12_yes_77 : decode cX12_yes 77 = .ok (.iastore, 1) := by decide +kernel
theorem dX12_yes_78 : decode cX12_yes 78 = .ok (.aload_n 0, 1) := by decide +kernel
theorem dX12_yes_79 : decode cX12_yes 79 = .ok (.getfield 7, 3) := by decide +kernel
theorem dX12_yes_82 : decode cX12_yes 82 = .ok (.iload_n 2, 1) := by decide +kernel
theorem dX12_yes_83 : decode cX12_yes 83 = .ok (.iconst 2, 1) := by decide +kernel
theorem dX12_yes_84 : decode cX12_yes 84 = .ok (.iadd, 1) := by decide +kernel
theorem dX12_yes_85 : decode cX12_yes 85 = .ok (.aload_n 0, 1) := by decide +kernel
theorem dX12_yes_86 : decode cX12_yes 86 = .ok (.iload_n 1, 1) := by decide +kernel
theorem dX12_yes_87 : decode cX12_yes 87 = .ok (.invokevirtual 526, 3) := by decide +kernel
theorem dX12_yes_90 : decode cX12_yes 90 = .ok (.iastore, 1) := by decide +kernel
theorem dX12_yes_91 : decode cX12_yes 91 = .ok (.aload_n 0, 1) := by decide +kernel
theorem dX12_yes_92 : decode cX12_yes 92 = .ok (.getfield 7, 3) := by decide +kernel
theorem dX12_yes_95 : decode cX12_yes 95 = .ok (.sipush 616, 3) := by decide +kernel
theorem dX12_yes_98 : decode cX12_yes 98 = .ok (.dup2, 1) := by decide +kernel
theorem dX12_yes_99 : decode cX12_yes 99 = .ok (.iaload, 1) := by decide +kernel
theorem dX12_yes_100 : decode cX12_yes 100 = .ok (.iconst 1, 1) := by decide +kernel
theorem dX12_yes_101 : decode cX12_yes 101 = .ok (.iadd, 1) := by decide +kernel
theorem dX12_yes_102 : decode cX12_yes 102 = .ok (.iastore, 1) := by decide +kernel
theorem dX12_yes_103 : decode cX12_yes 103 = .ok (.aload_n 0, 1) := by decide +kernel
theorem dX12_yes_104 : decode cX12_yes 104 = .ok (.getfield 7, 3) := by decide +kernel
theorem dX12_yes_107 : decode cX12_yes 107 = .ok (.iload_n 2, 1) := by decide +kernel
theorem dX12_yes_108 : decode cX12_yes 108 = .ok (.iconst 2, 1) := by decide +kernel
theorem dX12_yes_109 : decode cX12_yes 109 = .ok (.iadd, 1) := by decide +kernel
theorem dX12_yes_110 : decode cX12_yes 110 = .ok (.iaload, 1) := by decide +kernel
theorem dX12_yes_111 : decode cX12_yes 111 = .ok (.ireturn, 1) := by decide +kernel
theorem dX12_played_0 : decode cX12_played 0 = .ok (.iload_n 1, 1) := by decide +kernel
theorem dX12_played_1 : decode cX12_played 1 = .ok (.iconst 0, 1) := by decide +kernel
theorem dX12_played_2 : decode cX12_played 2 = .ok (.aload_n 0, 1) := by decide +kernel
theorem dX12_played_3 : decode cX12_played 3 = .ok (.getfield 7, 3) := by decide +kernel
theorem dX12_played_6 : decode cX12_played 6 = .ok (.iconst 1, 1) := by decide +kernel
theorem dX12_played_7 : decode cX12_played 7 = .ok (.iaload, 1) := by decide +kernel
theorem dX12_played_8 : decode cX12_played 8 = .ok (.iconst 1, 1) := by decide +kernel
theorem dX12_played_9 : decode cX12_played 9 = .ok (.isub, 1) := by decide +kernel
theorem dX12_played_10 : decode cX12_played 10 = .ok (.invokestatic 173, 3) := by decide +kernel
theorem dX12_played_13 : decode cX12_played 13 = .ok (.ifCond .ne 11, 3) := by decide +kernel
theorem dX12_played_16 : decode cX12_played 16 = .ok (.aload_n 0, 1) := by decide +kernel
theorem dX12_played_17 : decode cX12_played 17 = .ok (.iconst 0, 1) := by decide +kernel
theorem dX12_played_18 : decode cX12_played 18 = .ok (.bipush (-2), 2) := by decide +kernel
theorem dX12_played_20 : decode cX12_played 20 = .ok (.invokevirtual 177, 3) := by decide +kernel
theorem dX12_played_23 : decode cX12_played 23 = .ok (.ireturn, 1) := by decide +kernel
theorem dX12_played_24 : decode cX12_played 24 = .ok (.iconst 0, 1) := by decide +kernel
theorem dX12_played_25 : decode cX12_played 25 = .ok (.istore_n 2, 1) := by decide +kernel
theorem dX12_played_26 : decode cX12_played 26 = .ok (.iload_n 2, 1) := by decide +kernel
theorem dX12_played_27 : decode cX12_played 27 = .ok (.aload_n 0, 1) := by decide +kernel
theorem dX12_played_28 : decode cX12_played 28 = .ok (.getfield 27, 3) := by decide +kernel
theorem dX12_played_31 : decode cX12_played 31 = .ok (.iload_n 1, 1) := by decide +kernel
theorem dX12_played_32 : decode cX12_played 32 = .ok (.iaload, 1) := by decide +kernel
theorem dX12_played_33 : decode cX12_played 33 = .ok (.if_icmp .ge 217, 3) := by decide +kernel
theorem dX12_played_36 : decode cX12_played 36 = .ok (.bipush 24, 2) := by decide +kernel
theorem dX12_played_38 : decode cX12_played 38 = .ok (.iload_n 1, 1) := by decide +kernel
theorem dX12_played_39 : decode cX12_played 39 = .ok (.imul, 1) := by decide +kernel
theorem dX12_played_40 : decode cX12_played 40 = .ok (.iload_n 2, 1) := by decide +kernel
theorem dX12_played_41 : decode cX12_played 41 = .ok (.iadd, 1) := by decide +kernel
theorem dX12_played_42 : decode cX12_played 42 = .ok (.istore_n 3, 1) := by decide +kernel
theorem dX12_played_43 : decode cX12_played 43 = .ok (.iconst 1, 1) := by decide +kernel
theorem dX12_played_44 : decode cX12_played 44 = .ok (.istore 4, 2) := by decide +kernel
theorem dX12_played_46 : decode cX12_played 46 = .ok (.aload_n 0, 1) := by decide +kernel
theorem dX12_played_47 : decode cX12_played 47 = .ok (.getfield 30, 3) := by decide +kernel
theorem dX12_played_50 : decode cX12_played 50 = .ok (.iload_n 3, 1) := by decide +kernel
theorem dX12_played_51 : decode cX12_played 51 = .ok (.iaload, 1) := by decide +kernel
theorem dX12_played_52 : decode cX12_played 52 = .ok (.tableswitch 185 5 10 #[40, 70, 94, 119, 143, 170], 40) := by decide +kernel
theorem dX12_played_92 : decode cX12_played 92 = .ok (.aload_n 0, 1) := by decide +kernel
theorem dX12_played_93 : decode cX12_played 93 = .ok (.aload_n 0, 1) := by decide +kernel
theorem dX12_played_94 : decode cX12_played 94 = .ok (.getfield 36, 3) := by decide +kernel
theorem dX12_played_97 : decode cX12_played 97 = .ok (.iload_n 3, 1) := by decide +kernel
theorem dX12_played_98 : decode cX12_played 98 = .ok (.iaload, 1) := by decide +kernel
theorem dX12_played_99 : decode cX12_played 99 = .ok (.aload_n 0, 1) := by decide +kernel
theorem dX12_played_100 : decode cX12_played 100 = .ok (.getfield 39, 3) := by decide +kernel
theorem dX12_played_103 : decode cX12_played 103 = .ok (.iload_n 3, 1) := by decide +kernel
theorem dX12_played_104 : decode cX12_played 104 = .ok (.iaload, 1) := by decide +kernel
theorem dX12_played_105 : decode cX12_played 105 = .ok (.invokevirtual 529, 3) := by decide +kernel
theorem dX12_played_108 : decode cX12_played 108 = .ok (.iconst (-1), 1) := by decide +kernel
theorem dX12_played_109 : decode cX12_played 109 = .ok (.if_icmp .eq 7, 3) := by decide +kernel
theorem dX12_played_112 : decode cX12_played 112 = .ok (.iconst 1, 1) := by decide +kernel
theorem dX12_played_113 : decode cX12_played 113 = .ok (.goto 4, 3) := by decide +kernel
theorem dX12_played_116 : decode cX12_played 116 = .ok (.iconst 0, 1) := by decide +kernel
theorem dX12_played_117 : decode cX12_played 117 = .ok (.istore 4, 2) := by decide +kernel
theorem dX12_played_119 : decode cX12_played 119 = .ok (.goto 118, 3) := by decide +kernel
theorem dX12_played_122 : decode cX12_played 122 = .ok (.aload_n 0, 1) := by decide +kernel
theorem dX12_played_123 : decode cX12_played 123 = .ok (.aload_n 0, 1) := by decide +kernel
theorem dX12_played_124 : decode cX12_played 124 = .ok (.getfield 36, 3) := by decide +kernel
theorem dX12_played_127 : decode cX12_played 127 = .ok (.iload_n 3, 1) := by decide +kernel
theorem dX12_played_128 : decode cX12_played 128 = .ok (.iaload, 1) := by decide +kernel
theorem dX12_played_129 : decode cX12_played 129 = .ok (.invokevirtual 532, 3) := by decide +kernel
theorem dX12_played_132 : decode cX12_played 132 = .ok (.iconst (-1), 1) := by decide +kernel
theorem dX12_played_133 : decode cX12_played 133 = .ok (.if_icmp .eq 7, 3) := by decide +kernel
theorem dX12_played_136 : decode cX12_played 136 = .ok (.iconst 1, 1) := by decide +kernel
theorem dX12_played_137 : decode cX12_played 137 = .ok (.goto 4, 3) := by decide +kernel
theorem dX12_played_140 : decode cX12_played 140 = .ok (.iconst 0, 1) := by decide +kernel
theorem dX12_played_141 : decode cX12_played 141 = .ok (.istore 4, 2) := by decide +kernel
theorem dX12_played_143 : decode cX12_played 143 = .ok (.goto 94, 3) := by decide +kernel
theorem dX12_played_146 : decode cX12_played 146 = .ok (.aload_n 0, 1) := by decide +kernel
theorem dX12_played_147 : decode cX12_played 147 = .ok (.aload_n 0, 1) := by decide +kernel
theorem dX12_played_148 : decode cX12_played 148 = .ok (.getfield 36, 3) := by decide +kernel
theorem dX12_played_151 : decode cX12_played 151 = .ok (.iload_n 3, 1) := by decide +kernel
theorem dX12_played_152 : decode cX12_played 152 = .ok (.iaload, 1) := by decide +kernel
theorem dX12_played_153 : decode cX12_played 153 = .ok (.invokevirtual 535, 3) := by decide +kernel
theorem dX12_played_156 : decode cX12_played 156 = .ok (.bipush (-2), 2) := by decide +kernel
theorem dX12_played_158 : decode cX12_played 158 = .ok (.if_icmp .eq 7, 3) := by decide +kernel
theorem dX12_played_161 : decode cX12_played 161 = .ok (.iconst 1, 1) := by decide +kernel
theorem dX12_played_162 : decode cX12_played 162 = .ok (.goto 4, 3) := by decide +kernel
theorem dX12_played_165 : decode cX12_played 165 = .ok (.iconst 0, 1) := by decide +kernel
theorem dX12_played_166 : decode cX12_played 166 = .ok (.istore 4, 2) := by decide +kernel
theorem dX12_played_168 : decode cX12_played 168 = .ok (.goto 69, 3) := by decide +kernel
theorem dX12_played_171 : decode cX12_played 171 = .ok (.aload_n 0, 1) := by decide +kernel
theorem dX12_played_172 : decode cX12_played 172 = .ok (.aload_n 0, 1) := by decide +kernel
theorem dX12_played_173 : decode cX12_played 173 = .ok (.getfield 36, 3) := by decide +kernel
theorem dX12_played_176 : decode cX12_played 176 = .ok (.iload_n 3, 1) := by decide +kernel
theorem dX12_played_177 : decode cX12_played 177 = .ok (.iaload, 1) := by decide +kernel
theorem dX12_played_178 : decode cX12_played 178 = .ok (.invokevirtual 538, 3) := by decide +kernel
theorem dX12_played_181 : decode cX12_played 181 = .ok (.iconst (-1), 1) := by decide +kernel
theorem dX12_played_182 : decode cX12_played 182 = .ok (.if_icmp .eq 7, 3) := by decide +kernel
theorem dX12_played_185 : decode cX12_played 185 = .ok (.iconst 1, 1) := by decide +kernel
theorem dX12_played_186 : decode cX12_played 186 = .ok (.goto 4, 3) := by decide +kernel
theorem dX12_played_189 : decode cX12_played 189 = .ok (.iconst 0, 1) := by decide +kernel
theorem dX12_played_190 : decode cX12_played 190 = .ok (.istore 4, 2) := by decide +kernel
theorem dX12_played_192 : decode cX12_played 192 = .ok (.goto 45, 3) := by decide +kernel
theorem dX12_played_195 : decode cX12_played 195 = .ok (.aload_n 0, 1) := by decide +kernel
theorem dX12_played_196 : decode cX12_played 196 = .ok (.aload_n 0, 1) := by decide +kernel
theorem dX12_played_197 : decode cX12_played 197 = .ok (.getfield 36, 3) := by decide +kernel
theorem dX12_played_200 : decode cX12_played 200 = .ok (.iload_n 3, 1) := by decide +kernel
theorem dX12_played_201 : decode cX12_played 201 = .ok (.iaload, 1) := by decide +kernel
theorem dX12_played_202 : decode cX12_played 202 = .ok (.aload_n 0, 1) := by decide +kernel
theorem dX12_played_203 : decode cX12_played 203 = .ok (.getfield 39, 3) := by decide +kernel
theorem dX12_played_206 : decode cX12_played 206 = .ok (.iload_n 3, 1) := by decide +kernel
theorem dX12_played_207 : decode cX12_played 207 = .ok (.iaload, 1) := by decide +kernel
theorem dX12_played_208 : decode cX12_played 208 = .ok (.aload_n 0, 1) := by decide +kernel
theorem dX12_played_209 : decode cX12_played 209 = .ok (.getfield 42, 3) := by decide +kernel
theorem dX12_played_212 : decode cX12_played 212 = .ok (.iload_n 3, 1) := by decide +kernel
theorem dX12_played_213 : decode cX12_played 213 = .ok (.iaload, 1) := by decide +kernel
theorem dX12_played_214 : decode cX12_played 214 = .ok (.invokevirtual 541, 3) := by decide +kernel
theorem dX12_played_217 : decode cX12_played 217 = .ok (.istore 4, 2) := by decide +kernel
theorem dX12_played_219 : decode cX12_played 219 = .ok (.goto 18, 3) := by decide +kernel
theorem dX12_played_222 : decode cX12_played 222 = .ok (.aload_n 0, 1) := by decide +kernel
theorem dX12_played_223 : decode cX12_played 223 = .ok (.aload_n 0, 1) := by decide +kernel
theorem dX12_played_224 : decode cX12_played 224 = .ok (.getfield 36, 3) := by decide +kernel
theorem dX12_played_227 : decode cX12_played 227 = .ok (.iload_n 3, 1) := by decide +kernel
theorem dX12_played_228 : decode cX12_played 228 = .ok (.iaload, 1) := by decide +kernel
theorem dX12_played_229 : decode cX12_played 229 = .ok (.invokevirtual 544, 3) := by decide +kernel
theorem dX12_played_232 : decode cX12_played 232 = .ok (.istore 4, 2) := by decide +kernel
theorem dX12_played_234 : decode cX12_played 234 = .ok (.goto 3, 3) := by decide +kernel
theorem dX12_played_237 : decode cX12_played 237 = .ok (.iload 4, 2) := by decide +kernel
theorem dX12_played_239 : decode cX12_played 239 = .ok (.ifCond .ne 5, 3) := by decide +kernel
theorem dX12_played_242 : decode cX12_played 242 = .ok (.iload_n 2, 1) := by decide +kernel
theorem dX12_played_243 : decode cX12_played 243 = .ok (.ireturn, 1) := by decide +kernel
theorem dX12_played_244 : decode cX12_played 244 = .ok (.iinc 2 1, 3) := by decide +kernel
theorem dX12_played_247 : decode cX12_played 247 = .ok (.goto (-221), 3) := by decide +kernel
theorem dX12_played_250 : decode cX12_played 250 = .ok (.iconst (-1), 1) := by decide +kernel
theorem dX12_played_251 : decode cX12_played 251 = .ok (.ireturn, 1) := by decide +kernel
theorem dX12_countOf_0 : decode cX12_countOf 0 = .ok (.iconst 0, 1) := by decide +kernel
theorem dX12_countOf_1 : decode cX12_countOf 1 = .ok (.istore_n 3, 1) := by decide +kernel
theorem dX12_countOf_2 : decode cX12_countOf 2 = .ok (.iconst 0, 1) := by decide +kernel
theorem dX12_countOf_3 : decode cX12_countOf 3 = .ok (.istore 4, 2) := by decide +kernel
theorem dX12_countOf_5 : decode cX12_countOf 5 = .ok (.iload 4, 2) := by decide +kernel
theorem dX12_countOf_7 : decode cX12_countOf 7 = .ok (.aload_n 0, 1) := by decide +kernel
theorem dX12_countOf_8 : decode cX12_countOf 8 = .ok (.getfield 7, 3) := by decide +kernel
theorem dX12_countOf_11 : decode cX12_countOf 11 = .ok (.sipush 165, 3) := by decide +kernel
theorem dX12_countOf_14 : decode cX12_countOf 14 = .ok (.iaload, 1) := by decide +kernel
theorem dX12_countOf_15 : decode cX12_countOf 15 = .ok (.if_icmp .ge 44, 3) := by decide +kernel
theorem dX12_countOf_18 : decode cX12_countOf 18 = .ok (.iload_n 3, 1) := by decide +kernel
theorem dX12_countOf_19 : decode cX12_countOf 19 = .ok (.aload_n 0, 1) := by decide +kernel
theorem dX12_countOf_20 : decode cX12_countOf 20 = .ok (.iload 4, 2) := by decide +kernel
theorem dX12_countOf_22 : decode cX12_countOf 22 = .ok (.iconst 0, 1) := by decide +kernel
theorem dX12_countOf_23 : decode cX12_countOf 23 = .ok (.invokevirtual 415, 3) := by decide +kernel
theorem dX12_countOf_26 : decode cX12_countOf 26 = .ok (.iload_n 1, 1) := by decide +kernel
theorem dX12_countOf_27 : decode cX12_countOf 27 = .ok (.if_icmp .ne 23, 3) := by decide +kernel
theorem dX12_countOf_30 : decode cX12_countOf 30 = .ok (.iload_n 2, 1) := by decide +kernel
theorem dX12_countOf_31 : decode cX12_countOf 31 = .ok (.iconst (-1), 1) := by decide +kernel
theorem dX12_countOf_32 : decode cX12_countOf 32 = .ok (.if_icmp .eq 14, 3) := by decide +kernel
theorem dX12_countOf_35 : decode cX12_countOf 35 = .ok (.aload_n 0, 1) := by decide +kernel
theorem dX12_countOf_36 : decode cX12_countOf 36 = .ok (.iload 4, 2) := by decide +kernel
theorem dX12_countOf_38 : decode cX12_countOf 38 = .ok (.iconst 4, 1) := by decide +kernel
theorem dX12_countOf_39 : decode cX12_countOf 39 = .ok (.invokevirtual 415, 3) := by decide +kernel
theorem dX12_countOf_42 : decode cX12_countOf 42 = .ok (.iload_n 2, 1) := by decide +kernel
theorem dX12_countOf_43 : decode cX12_countOf 43 = .ok (.if_icmp .ne 7, 3) := by decide +kernel
theorem dX12_countOf_46 : decode cX12_countOf 46 = .ok (.iconst 1, 1) := by decide +kernel
theorem dX12_countOf_47 : decode cX12_countOf 47 = .ok (.goto 4, 3) := by decide +kernel
theorem dX12_countOf_50 : decode cX12_countOf 50 = .ok (.iconst 0, 1) := by decide +kernel
theorem dX12_countOf_51 : decode cX12_countOf 51 = .ok (.iadd, 1) := by decide +kernel
theorem dX12_countOf_52 : decode cX12_countOf 52 = .ok (.istore_n 3, 1) := by decide +kernel
theorem dX12_countOf_53 : decode cX12_countOf 53 = .ok (.iinc 4 1, 3) := by decide +kernel
theorem dX12_countOf_56 : decode cX12_countOf 56 = .ok (.goto (-51), 3) := by decide +kernel
theorem dX12_countOf_59 : decode cX12_countOf 59 = .ok (.iload_n 3, 1) := by decide +kernel
theorem dX12_countOf_60 : decode cX12_countOf 60 = .ok (.ireturn, 1) := by decide +kernel
theorem dX12_of_0 : decode cX12_of 0 = .ok (.aload_n 0, 1) := by decide +kernel
theorem dX12_of_1 : decode cX12_of 1 = .ok (.iload_n 1, 1) := by decide +kernel
theorem dX12_of_2 : decode cX12_of 2 = .ok (.invokevirtual 185, 3) := by decide +kernel
theorem dX12_of_5 : decode cX12_of 5 = .ok (.ifCond .ne 6, 3) := by decide +kernel
theorem dX12_of_8 : decode cX12_of 8 = .ok (.bipush (-2), 2) := by decide +kernel
theorem dX12_of_10 : decode cX12_of 10 = .ok (.ireturn, 1) := by decide +kernel
theorem dX12_of_11 : decode cX12_of 11 = .ok (.iload_n 2, 1) := by decide +kernel
theorem dX12_of_12 : decode cX12_of 12 = .ok (.tableswitch 108 4 10 #[44, 54, 64, 74, 84, 94, 101], 44) := by decide +kernel
theorem dX12_of_56 : decode cX12_of 56 = .ok (.aload_n 0, 1) := by decide +kernel
theorem dX12_of_57 : decode cX12_of 57 = .ok (.getfield 7, 3) := by decide +kernel
theorem dX12_of_60 : decode cX12_of 60 = .ok (.bipush 93, 2) := by decide +kernel
theorem dX12_of_62 : decode cX12_of 62 = .ok (.iload_n 1, 1) := by decide +kernel
theorem dX12_of_63 : decode cX12_of 63 = .ok (.iadd, 1) := by decide +kernel
theorem dX12_of_64 : decode cX12_of 64 = .ok (.iaload, 1) := by decide +kernel
theorem dX12_of_65 : decode cX12_of 65 = .ok (.ireturn, 1) := by decide +kernel
theorem dX12_of_66 : decode cX12_of 66 = .ok (.aload_n 0, 1) := by decide +kernel
theorem dX12_of_67 : decode cX12_of 67 = .ok (.getfield 7, 3) := by decide +kernel
theorem dX12_of_70 : decode cX12_of 70 = .ok (.bipush 97, 2) := by decide +kernel
theorem dX12_of_72 : decode cX12_of 72 = .ok (.iload_n 1, 1) := by decide +kernel
theorem dX12_of_73 : decode cX12_of 73 = .ok (.iadd, 1) := by decide +kernel
theorem dX12_of_74 : decode cX12_of 74 = .ok (.iaload, 1) := by decide +kernel
theorem dX12_of_75 : decode cX12_of 75 = .ok (.ireturn, 1) := by decide +kernel
theorem dX12_of_76 : decode cX12_of 76 = .ok (.aload_n 0, 1) := by decide +kernel
theorem dX12_of_77 : decode cX12_of 77 = .ok (.getfield 7, 3) := by decide +kernel
theorem dX12_of_80 : decode cX12_of 80 = .ok (.bipush 101, 2) := by decide +kernel
theorem dX12_of_82 : decode cX12_of 82 = .ok (.iload_n 1, 1) := by decide +kernel
theorem dX12_of_83 : decode cX12_of 83 = .ok (.iadd, 1) := by decide +kernel
theorem dX12_of_84 : decode cX12_of 84 = .ok (.iaload, 1) := by decide +kernel
theorem dX12_of_85 : decode cX12_of 85 = .ok (.ireturn, 1) := by decide +kernel
theorem dX12_of_86 : decode cX12_of 86 = .ok (.aload_n 0, 1) := by decide +kernel
theorem dX12_of_87 : decode cX12_of 87 = .ok (.getfield 7, 3) := by decide +kernel
theorem dX12_of_90 : decode cX12_of 90 = .ok (.bipush 105, 2) := by decide +kernel
theorem dX12_of_92 : decode cX12_of 92 = .ok (.iload_n 1, 1) := by decide +kernel
theorem dX12_of_93 : decode cX12_of 93 = .ok (.iadd, 1) := by decide +kernel
theorem dX12_of_94 : decode cX12_of 94 = .ok (.iaload, 1) := by decide +kernel
theorem dX12_of_95 : decode cX12_of 95 = .ok (.ireturn, 1) := by decide +kernel
theorem dX12_of_96 : decode cX12_of 96 = .ok (.aload_n 0, 1) := by decide +kernel
theorem dX12_of_97 : decode cX12_of 97 = .ok (.getfield 7, 3) := by decide +kernel
theorem dX12_of_100 : decode cX12_of 100 = .ok (.bipush 109, 2) := by decide +kernel
theorem dX12_of_102 : decode cX12_of 102 = .ok (.iload_n 1, 1) := by decide +kernel
theorem dX12_of_103 : decode cX12_of 103 = .ok (.iadd, 1) := by decide +kernel
theorem dX12_of_104 : decode cX12_of 104 = .ok (.iaload, 1) := by decide +kernel
theorem dX12_of_105 : decode cX12_of 105 = .ok (.ireturn, 1) := by decide +kernel
theorem dX12_of_106 : decode cX12_of 106 = .ok (.aload_n 0, 1) := by decide +kernel
theorem dX12_of_107 : decode cX12_of 107 = .ok (.iload_n 1, 1) := by decide +kernel
theorem dX12_of_108 : decode cX12_of 108 = .ok (.iconst (-1), 1) := by decide +kernel
theorem dX12_of_109 : decode cX12_of 109 = .ok (.invokevirtual 547, 3) := by decide +kernel
theorem dX12_of_112 : decode cX12_of 112 = .ok (.ireturn, 1) := by decide +kernel
theorem dX12_of_113 : decode cX12_of 113 = .ok (.aload_n 0, 1) := by decide +kernel
theorem dX12_of_114 : decode cX12_of 114 = .ok (.iload_n 1, 1) := by decide +kernel
theorem dX12_of_115 : decode cX12_of 115 = .ok (.iconst 2, 1) := by decide +kernel
theorem dX12_of_116 : decode cX12_of 116 = .ok (.invokevirtual 547, 3) := by decide +kernel
theorem dX12_of_119 : decode cX12_of 119 = .ok (.ireturn, 1) := by decide +kernel
theorem dX12_of_120 : decode cX12_of 120 = .ok (.iload_n 2, 1) := by decide +kernel
theorem dX12_of_121 : decode cX12_of 121 = .ok (.iconst 0, 1) := by decide +kernel
theorem dX12_of_122 : decode cX12_of 122 = .ok (.iconst 3, 1) := by decide +kernel
theorem dX12_of_123 : decode cX12_of 123 = .ok (.invokestatic 173, 3) := by decide +kernel
theorem dX12_of_126 : decode cX12_of 126 = .ok (.ifCond .eq 10, 3) := by decide +kernel
theorem dX12_of_129 : decode cX12_of 129 = .ok (.aload_n 0, 1) := by decide +kernel
theorem dX12_of_130 : decode cX12_of 130 = .ok (.iload_n 1, 1) := by decide +kernel
theorem dX12_of_131 : decode cX12_of 131 = .ok (.iload_n 2, 1) := by decide +kernel
theorem dX12_of_132 : decode cX12_of 132 = .ok (.invokevirtual 448, 3) := by decide +kernel
theorem dX12_of_135 : decode cX12_of 135 = .ok (.ireturn, 1) := by decide +kernel
theorem dX12_of_136 : decode cX12_of 136 = .ok (.iload_n 2, 1) := by decide +kernel
theorem dX12_of_137 : decode cX12_of 137 = .ok (.bipush 20, 2) := by decide +kernel
theorem dX12_of_139 : decode cX12_of 139 = .ok (.bipush 19, 2) := by decide +kernel
theorem dX12_of_141 : decode cX12_of 141 = .ok (.aload_n 0, 1) := by decide +kernel
theorem dX12_of_142 : decode cX12_of 142 = .ok (.getfield 7, 3) := by decide +kernel
theorem dX12_of_145 : decode cX12_of 145 = .ok (.iconst 0, 1) := by decide +kernel
theorem dX12_of_146 : decode cX12_of 146 = .ok (.iaload, 1) := by decide +kernel
theorem dX12_of_147 : decode cX12_of 147 = .ok (.iadd, 1) := by decide +kernel
theorem dX12_of_148 : decode cX12_of 148 = .ok (.invokestatic 173, 3) := by decide +kernel
theorem dX12_of_151 : decode cX12_of 151 = .ok (.ifCond .eq 15, 3) := by decide +kernel
theorem dX12_of_154 : decode cX12_of 154 = .ok (.aload_n 0, 1) := by decide +kernel
theorem dX12_of_155 : decode cX12_of 155 = .ok (.iload_n 2, 1) := by decide +kernel
theorem dX12_of_156 : decode cX12_of 156 = .ok (.bipush 20, 2) := by decide +kernel
theorem dX12_of_158 : decode cX12_of 158 = .ok (.isub, 1) := by decide +kernel
theorem dX12_of_159 : decode cX12_of 159 = .ok (.iload_n 1, 1) := by decide +kernel
theorem dX12_of_160 : decode cX12_of 160 = .ok (.invokevirtual 188, 3) := by decide +kernel
theorem dX12_of_163 : decode cX12_of 163 = .ok (.goto 5, 3) := by decide +kernel
theorem dX12_of_166 : decode cX12_of 166 = .ok (.bipush (-2), 2) := by decide +kernel
theorem dX12_of_168 : decode cX12_of 168 = .ok (.ireturn, 1) := by decide +kernel
theorem dX12_through_0 : decode cX12_through 0 = .ok (.aload_n 0, 1) := by decide +kernel
theorem dX12_through_1 : decode cX12_through 1 = .ok (.iload_n 1, 1) := by decide +kernel
theorem dX12_through_2 : decode cX12_through 2 = .ok (.invokevirtual 185, 3) := by decide +kernel
theorem dX12_through_5 : decode cX12_through 5 = .ok (.ifCond .eq 16, 3) := by decide +kernel
theorem dX12_through_8 : decode cX12_through 8 = .ok (.aload_n 0, 1) := by decide +kernel
theorem dX12_through_9 : decode cX12_through 9 = .ok (.iload_n 2, 1) := by decide +kernel
theorem dX12_through_10 : decode cX12_through 10 = .ok (.invokevirtual 185, 3) := by decide +kernel
theorem dX12_through_13 : decode cX12_through 13 = .ok (.ifCond .eq 8, 3) := by decide +kernel
theorem dX12_through_16 : decode cX12_through 16 = .ok (.iload_n 1, 1) := by decide +kernel
theorem dX12_through_17 : decode cX12_through 17 = .ok (.iload_n 2, 1) := by decide +kernel
theorem dX12_through_18 : decode cX12_through 18 = .ok (.if_icmp .ne 5, 3) := by decide +kernel
theorem dX12_through_21 : decode cX12_through 21 = .ok (.iconst (-1), 1) := by decide +kernel
theorem dX12_through_22 : decode cX12_through 22 = .ok (.ireturn, 1) := by decide +kernel
theorem dX12_through_23 : decode cX12_through 23 = .ok (.aload_n 0, 1) := by decide +kernel
theorem dX12_through_24 : decode cX12_through 24 = .ok (.getfield 7, 3) := by decide +kernel
theorem dX12_through_27 : decode cX12_through 27 = .ok (.iload_n 3, 1) := by decide +kernel
theorem dX12_through_28 : decode cX12_through 28 = .ok (.ifCond .eq 9, 3) := by decide +kernel
theorem dX12_through_31 : decode cX12_through 31 = .ok (.sipush 149, 3) := by decide +kernel
theorem dX12_through_34 : decode cX12_through 34 = .ok (.goto 6, 3) := by decide +kernel
theorem dX12_through_37 : decode cX12_through 37 = .ok (.sipush 133, 3) := by decide +kernel
theorem dX12_through_40 : decode cX12_through 40 = .ok (.iconst 4, 1) := by decide +kernel
theorem dX12_through_41 : decode cX12_through 41 = .ok (.iload_n 1, 1) := by decide +kernel
theorem dX12_through_42 : decode cX12_through 42 = .ok (.imul, 1) := by decide +kernel
theorem dX12_through_43 : decode cX12_through 43 = .ok (.iadd, 1) := by decide +kernel
theorem dX12_through_44 : decode cX12_through 44 = .ok (.iload_n 2, 1) := by decide +kernel
theorem dX12_through_45 : decode cX12_through 45 = .ok (.iadd, 1) := by decide +kernel
theorem dX12_through_46 : decode cX12_through 46 = .ok (.iaload, 1) := by decide +kernel
theorem dX12_through_47 : decode cX12_through 47 = .ok (.ireturn, 1) := by decide +kernel
theorem dX12_turn_0 : decode cX12_turn 0 = .ok (.iload_n 1, 1) := by decide +kernel
theorem dX12_turn_1 : decode cX12_turn 1 = .ok (.iconst (-1), 1) := by decide +kernel
theorem dX12_turn_2 : decode cX12_turn 2 = .ok (.if_icmp .ne 12, 3) := by decide +kernel
theorem dX12_turn_5 : decode cX12_turn 5 = .ok (.aload_n 0, 1) := by decide +kernel
theorem dX12_turn_6 : decode cX12_turn 6 = .ok (.getfield 7, 3) := by decide +kernel
theorem dX12_turn_9 : decode cX12_turn 9 = .ok (.sipush 165, 3) := by decide +kernel
theorem dX12_turn_12 : decode cX12_turn 12 = .ok (.iaload, 1) := by decide +kernel
theorem dX12_turn_13 : decode cX12_turn 13 = .ok (.ireturn, 1) := by decide +kernel
theorem dX12_turn_14 : decode cX12_turn 14 = .ok (.iload_n 1, 1) := by decide +kernel
theorem dX12_turn_15 : decode cX12_turn 15 = .ok (.iconst 0, 1) := by decide +kernel
theorem dX12_turn_16 : decode cX12_turn 16 = .ok (.aload_n 0, 1) := by decide +kernel
theorem dX12_turn_17 : decode cX12_turn 17 = .ok (.getfield 7, 3) := by decide +kernel
theorem dX12_turn_20 : decode cX12_turn 20 = .ok (.sipush 165, 3) := by decide +kernel
theorem dX12_turn_23 : decode cX12_turn 23 = .ok (.iaload, 1) := by decide +kernel
theorem dX12_turn_24 : decode cX12_turn 24 = .ok (.iconst 1, 1) := by decide +kernel
theorem dX12_turn_25 : decode cX12_turn 25 = .ok (.isub, 1) := by decide +kernel
theorem dX12_turn_26 : decode cX12_turn 26 = .ok (.invokestatic 173, 3) := by decide +kernel
theorem dX12_turn_29 : decode cX12_turn 29 = .ok (.ifCond .eq 21, 3) := by decide +kernel
theorem dX12_turn_32 : decode cX12_turn 32 = .ok (.iload_n 2, 1) := by decide +kernel
theorem dX12_turn_33 : decode cX12_turn 33 = .ok (.iconst 0, 1) := by decide +kernel
theorem dX12_turn_34 : decode cX12_turn 34 = .ok (.iconst 4, 1) := by decide +kernel
theorem dX12_turn_35 : decode cX12_turn 35 = .ok (.invokestatic 173, 3) := by decide +kernel
theorem dX12_turn_38 : decode cX12_turn 38 = .ok (.ifCond .eq 12, 3) := by decide +kernel
theorem dX12_turn_41 : decode cX12_turn 41 = .ok (.aload_n 0, 1) := by decide +kernel
theorem dX12_turn_42 : decode cX12_turn 42 = .ok (.iload_n 1, 1) := by decide +kernel
theorem dX12_turn_43 : decode cX12_turn 43 = .ok (.iload_n 2, 1) := by decide +kernel
theorem dX12_turn_44 : decode cX12_turn 44 = .ok (.invokevirtual 415, 3) := by decide +kernel
theorem dX12_turn_47 : decode cX12_turn 47 = .ok (.goto 5, 3) := by decide +kernel
theorem dX12_turn_50 : decode cX12_turn 50 = .ok (.bipush (-2), 2) := by decide +kernel
theorem dX12_turn_52 : decode cX12_turn 52 = .ok (.ireturn, 1) := by decide +kernel
theorem dX12_heardThen_0 : decode cX12_heardThen 0 = .ok (.aload_n 0, 1) := by decide +kernel
theorem dX12_heardThen_1 : decode cX12_heardThen 1 = .ok (.getfield 7, 3) := by decide +kernel
theorem dX12_heardThen_4 : decode cX12_heardThen 4 = .ok (.sipush 617, 3) := by decide +kernel
theorem dX12_heardThen_7 : decode cX12_heardThen 7 = .ok (.iconst 3, 1) := by decide +kernel
theorem dX12_heardThen_8 : decode cX12_heardThen 8 = .ok (.iload_n 1, 1) := by decide +kernel
theorem dX12_heardThen_9 : decode cX12_heardThen 9 = .ok (.imul, 1) := by decide +kernel
theorem dX12_heardThen_10 : decode cX12_heardThen 10 = .ok (.iadd, 1) := by decide +kernel
theorem dX12_heardThen_11 : decode cX12_heardThen 11 = .ok (.iconst 1, 1) := by decide +kernel
theorem dX12_heardThen_12 : decode cX12_heardThen 12 = .ok (.iadd, 1) := by decide +kernel
theorem dX12_heardThen_13 : decode cX12_heardThen 13 = .ok (.iaload, 1) := by decide +kernel
theorem dX12_heardThen_14 : decode cX12_heardThen 14 = .ok (.iconst 1, 1) := by decide +kernel
theorem dX12_heardThen_15 : decode cX12_heardThen 15 = .ok (.iadd, 1) := by decide +kernel
theorem dX12_heardThen_16 : decode cX12_heardThen 16 = .ok (.aload_n 0, 1) := by decide +kernel
theorem dX12_heardThen_17 : decode cX12_heardThen 17 = .ok (.aload_n 0, 1) := by decide +kernel
theorem dX12_heardThen_18 : decode cX12_heardThen 18 = .ok (.getfield 7, 3) := by decide +kernel
theorem dX12_heardThen_21 : decode cX12_heardThen 21 = .ok (.sipush 617, 3) := by decide +kernel
theorem dX12_heardThen_24 : decode cX12_heardThen 24 = .ok (.iconst 3, 1) := by decide +kernel
theorem dX12_heardThen_25 : decode cX12_heardThen 25 = .ok (.iload_n 1, 1) := by decide +kernel
theorem dX12_heardThen_26 : decode cX12_heardThen 26 = .ok (.imul, 1) := by decide +kernel
theorem dX12_heardThen_27 : decode cX12_heardThen 27 = .ok (.iadd, 1) := by decide +kernel
theorem dX12_heardThen_28 : decode cX12_heardThen 28 = .ok (.iaload, 1) := by decide +kernel
theorem dX12_heardThen_29 : decode cX12_heardThen 29 = .ok (.iload_n 2, 1) := by decide +kernel
theorem dX12_heardThen_30 : decode cX12_heardThen 30 = .ok (.invokevirtual 188, 3) := by decide +kernel
theorem dX12_heardThen_33 : decode cX12_heardThen 33 = .ok (.iadd, 1) := by decide +kernel
theorem dX12_heardThen_34 : decode cX12_heardThen 34 = .ok (.ireturn, 1) := by decide +kernel
theorem dX12_takenAt_0 : decode cX12_takenAt 0 = .ok (.aload_n 0, 1) := by decide +kernel
theorem dX12_takenAt_1 : decode cX12_takenAt 1 = .ok (.iload_n 1, 1) := by decide +kernel
theorem dX12_takenAt_2 : decode cX12_takenAt 2 = .ok (.iload_n 2, 1) := by decide +kernel
theorem dX12_takenAt_3 : decode cX12_takenAt 3 = .ok (.invokevirtual 550, 3) := by decide +kernel
theorem dX12_takenAt_6 : decode cX12_takenAt 6 = .ok (.istore_n 3, 1) := by decide +kernel
theorem dX12_takenAt_7 : decode cX12_takenAt 7 = .ok (.iconst (-1), 1) := by decide +kernel
theorem dX12_takenAt_8 : decode cX12_takenAt 8 = .ok (.istore 4, 2) := by decide +kernel
theorem dX12_takenAt_10 : decode cX12_takenAt 10 = .ok (.iconst 0, 1) := by decide +kernel
theorem dX12_takenAt_11 : decode cX12_takenAt 11 = .ok (.istore 5, 2) := by decide +kernel
theorem dX12_takenAt_13 : decode cX12_takenAt 13 = .ok (.iload 5, 2) := by decide +kernel
theorem dX12_takenAt_15 : decode cX12_takenAt 15 = .ok (.aload_n 0, 1) := by decide +kernel
theorem dX12_takenAt_16 : decode cX12_takenAt 16 = .ok (.getfield 7, 3) := by decide +kernel
theorem dX12_takenAt_19 : decode cX12_takenAt 19 = .ok (.sipush 165, 3) := by decide +kernel
theorem dX12_takenAt_22 : decode cX12_takenAt 22 = .ok (.iaload, 1) := by decide +kernel
theorem dX12_takenAt_23 : decode cX12_takenAt 23 = .ok (.if_icmp .ge 96, 3) := by decide +kernel
theorem dX12_takenAt_26 : decode cX12_takenAt 26 = .ok (.aload_n 0, 1) := by decide +kernel
theorem dX12_takenAt_27 : decode cX12_takenAt 27 = .ok (.iload 5, 2) := by decide +kernel
theorem dX12_takenAt_29 : decode cX12_takenAt 29 = .ok (.iconst 0, 1) := by decide +kernel
theorem dX12_takenAt_30 : decode cX12_takenAt 30 = .ok (.invokevirtual 415, 3) := by decide +kernel
theorem dX12_takenAt_33 : decode cX12_takenAt 33 = .ok (.iload_n 2, 1) := by decide +kernel
theorem dX12_takenAt_34 : decode cX12_takenAt 34 = .ok (.if_icmp .ne 44, 3) := by decide +kernel
theorem dX12_takenAt_37 : decode cX12_takenAt 37 = .ok (.aload_n 0, 1) := by decide +kernel
theorem dX12_takenAt_38 : decode cX12_takenAt 38 = .ok (.iload 5, 2) := by decide +kernel
theorem dX12_takenAt_40 : decode cX12_takenAt 40 = .ok (.invokevirtual 445, 3) := by decide +kernel
theorem dX12_takenAt_43 : decode cX12_takenAt 43 = .ok (.ifCond .eq 35, 3) := by decide +kernel
theorem dX12_takenAt_46 : decode cX12_takenAt 46 = .ok (.aload_n 0, 1) := by decide +kernel
theorem dX12_takenAt_47 : decode cX12_takenAt 47 = .ok (.iload 5, 2) := by decide +kernel
theorem dX12_takenAt_49 : decode cX12_takenAt 49 = .ok (.iconst 1, 1) := by decide +kernel
theorem dX12_takenAt_50 : decode cX12_takenAt 50 = .ok (.invokevirtual 415, 3) := by decide +kernel
theorem dX12_takenAt_53 : decode cX12_takenAt 53 = .ok (.iload_n 3, 1) := by decide +kernel
theorem dX12_takenAt_54 : decode cX12_takenAt 54 = .ok (.if_icmp .ge 24, 3) := by decide +kernel
theorem dX12_takenAt_57 : decode cX12_takenAt 57 = .ok (.aload_n 0, 1) := by decide +kernel
theorem dX12_takenAt_58 : decode cX12_takenAt 58 = .ok (.iload 5, 2) := by decide +kernel
theorem dX12_takenAt_60 : decode cX12_takenAt 60 = .ok (.iconst 1, 1) := by decide +kernel
theorem dX12_takenAt_61 : decode cX12_takenAt 61 = .ok (.invokevirtual 415, 3) := by decide +kernel
theorem dX12_takenAt_64 : decode cX12_takenAt 64 = .ok (.aload_n 0, 1) := by decide +kernel
theorem dX12_takenAt_65 : decode cX12_takenAt 65 = .ok (.getfield 7, 3) := by decide +kernel
theorem dX12_takenAt_68 : decode cX12_takenAt 68 = .ok (.bipush 91, 2) := by decide +kernel
theorem dX12_takenAt_70 : decode cX12_takenAt 70 = .ok (.iaload, 1) := by decide +kernel
theorem dX12_takenAt_71 : decode cX12_takenAt 71 = .ok (.if_icmp .gt 7, 3) := by decide +kernel
theorem dX12_takenAt_74 : decode cX12_takenAt 74 = .ok (.iconst 1, 1) := by decide +kernel
theorem dX12_takenAt_75 : decode cX12_takenAt 75 = .ok (.goto 4, 3) := by decide +kernel
theorem dX12_takenAt_78 : decode cX12_takenAt 78 = .ok (.iconst 0, 1) := by decide +kernel
theorem dX12_takenAt_79 : decode cX12_takenAt 79 = .ok (.istore 6, 2) := by decide +kernel
theorem dX12_takenAt_81 : decode cX12_takenAt 81 = .ok (.iload 6, 2) := by decide +kernel
theorem dX12_takenAt_83 : decode cX12_takenAt 83 = .ok (.ifCond .eq 30, 3) := by decide +kernel
theorem dX12_takenAt_86 : decode cX12_takenAt 86 = .ok (.iload 4, 2) := by decide +kernel
theorem dX12_takenAt_88 : decode cX12_takenAt 88 = .ok (.iconst (-1), 1) := by decide +kernel
theorem dX12_takenAt_89 : decode cX12_takenAt 89 = .ok (.if_icmp .eq 20, 3) := by decide +kernel
theorem dX12_takenAt_92 : decode cX12_takenAt 92 = .ok (.aload_n 0, 1) := by decide +kernel
theorem dX12_takenAt_93 : decode cX12_takenAt 93 = .ok (.iload 5, 2) := by decide +kernel
theorem dX12_takenAt_95 : decode cX12_takenAt 95 = .ok (.iconst 1, 1) := by decide +kernel
theorem dX12_takenAt_96 : decode cX12_takenAt 96 = .ok (.invokevirtual 415, 3) := by decide +kernel
theorem dX12_takenAt_99 : decode cX12_takenAt 99 = .ok (.aload_n 0, 1) := by decide +kernel
theorem dX12_takenAt_100 : decode cX12_takenAt 100 = .ok (.iload 4, 2) := by decide +kernel
theorem dX12_takenAt_102 : decode cX12_takenAt 102 = .ok (.iconst 1, 1) := by decide +kernel
theorem dX12_takenAt_103 : decode cX12_takenAt 103 = .ok (.invokevirtual 415, 3) := by decide +kernel
theorem dX12_takenAt_106 : decode cX12_takenAt 106 = .ok (.if_icmp .le 7, 3) := by decide +kernel
theorem dX12_takenAt_109 : decode cX12_takenAt 109 = .ok (.iload 5, 2) := by decide +kernel
theorem dX12_takenAt_111 : decode cX12_takenAt 111 = .ok (.istore 4, 2) := by decide +kernel
theorem dX12_takenAt_113 : decode cX12_takenAt 113 = .ok (.iinc 5 1, 3) := by decide +kernel
theorem dX12_takenAt_116 : decode cX12_takenAt 116 = .ok (.goto (-103), 3) := by decide +kernel
theorem dX12_takenAt_119 : decode cX12_takenAt 119 = .ok (.iload 4, 2) := by decide +kernel
theorem dX12_takenAt_121 : decode cX12_takenAt 121 = .ok (.ireturn, 1) := by decide +kernel
theorem dX12_said_0 : decode cX12_said 0 = .ok (.iload_n 1, 1) := by decide +kernel
theorem dX12_said_1 : decode cX12_said 1 = .ok (.iconst (-1), 1) := by decide +kernel
theorem dX12_said_2 : decode cX12_said 2 = .ok (.if_icmp .ne 12, 3) := by decide +kernel
theorem dX12_said_5 : decode cX12_said 5 = .ok (.aload_n 0, 1) := by decide +kernel
theorem dX12_said_6 : decode cX12_said 6 = .ok (.getfield 7, 3) := by decide +kernel
theorem dX12_said_9 : decode cX12_said 9 = .ok (.sipush 616, 3) := by decide +kernel
theorem dX12_said_12 : decode cX12_said 12 = .ok (.iaload, 1) := by decide +kernel
theorem dX12_said_13 : decode cX12_said 13 = .ok (.ireturn, 1) := by decide +kernel
theorem dX12_said_14 : decode cX12_said 14 = .ok (.iload_n 1, 1) := by decide +kernel
theorem dX12_said_15 : decode cX12_said 15 = .ok (.iconst 0, 1) := by decide +kernel
theorem dX12_said_16 : decode cX12_said 16 = .ok (.aload_n 0, 1) := by decide +kernel
theorem dX12_said_17 : decode cX12_said 17 = .ok (.getfield 7, 3) := by decide +kernel
theorem dX12_said_20 : decode cX12_said 20 = .ok (.sipush 616, 3) := by decide +kernel
theorem dX12_said_23 : decode cX12_said 23 = .ok (.iaload, 1) := by decide +kernel
theorem dX12_said_24 : decode cX12_said 24 = .ok (.iconst 1, 1) := by decide +kernel
theorem dX12_said_25 : decode cX12_said 25 = .ok (.isub, 1) := by decide +kernel
theorem dX12_said_26 : decode cX12_said 26 = .ok (.invokestatic 173, 3) := by decide +kernel
theorem dX12_said_29 : decode cX12_said 29 = .ok (.ifCond .ne 6, 3) := by decide +kernel
theorem dX12_said_32 : decode cX12_said 32 = .ok (.bipush (-2), 2) := by decide +kernel
theorem dX12_said_34 : decode cX12_said 34 = .ok (.ireturn, 1) := by decide +kernel
theorem dX12_said_35 : decode cX12_said 35 = .ok (.iload_n 2, 1) := by decide +kernel
theorem dX12_said_36 : decode cX12_said 36 = .ok (.iconst 0, 1) := by decide +kernel
theorem dX12_said_37 : decode cX12_said 37 = .ok (.iconst 2, 1) := by decide +kernel
theorem dX12_said_38 : decode cX12_said 38 = .ok (.invokestatic 173, 3) := by decide +kernel
theorem dX12_said_41 : decode cX12_said 41 = .ok (.ifCond .eq 18, 3) := by decide +kernel
theorem dX12_said_44 : decode cX12_said 44 = .ok (.aload_n 0, 1) := by decide +kernel
theorem dX12_said_45 : decode cX12_said 45 = .ok (.getfield 7, 3) := by decide +kernel
theorem dX12_said_48 : decode cX12_said 48 = .ok (.sipush 617, 3) := by decide +kernel
theorem dX12_said_51 : decode cX12_said 51 = .ok (.iconst 3, 1) := by decide +kernel
theorem dX12_said_52 : decode cX12_said 52 = .ok (.iload_n 1, 1) := by decide +kernel
theorem dX12_said_53 : decode cX12_said 53 = .ok (.imul, 1) := by decide +kernel
theorem dX12_said_54 : decode cX12_said 54 = .ok (.iadd, 1) := by decide +kernel
theorem dX12_said_55 : decode cX12_said 55 = .ok (.iload_n 2, 1) := by decide +kernel
theorem dX12_said_56 : decode cX12_said 56 = .ok (.iadd, 1) := by decide +kernel
theorem dX12_said_57 : decode cX12_said 57 = .ok (.iaload, 1) := by decide +kernel
theorem dX12_said_58 : decode cX12_said 58 = .ok (.ireturn, 1) := by decide +kernel
theorem dX12_said_59 : decode cX12_said 59 = .ok (.iload_n 2, 1) := by decide +kernel
theorem dX12_said_60 : decode cX12_said 60 = .ok (.bipush 10, 2) := by decide +kernel
theorem dX12_said_62 : decode cX12_said 62 = .ok (.isub, 1) := by decide +kernel
theorem dX12_said_63 : decode cX12_said 63 = .ok (.istore_n 3, 1) := by decide +kernel
theorem dX12_said_64 : decode cX12_said 64 = .ok (.aload_n 0, 1) := by decide +kernel
theorem dX12_said_65 : decode cX12_said 65 = .ok (.iload_n 3, 1) := by decide +kernel
theorem dX12_said_66 : decode cX12_said 66 = .ok (.invokevirtual 185, 3) := by decide +kernel
theorem dX12_said_69 : decode cX12_said 69 = .ok (.ifCond .ne 8, 3) := by decide +kernel
theorem dX12_said_72 : decode cX12_said 72 = .ok (.bipush (-2), 2) := by decide +kernel
theorem dX12_said_74 : decode cX12_said 74 = .ok (.goto 29, 3) := by decide +kernel
theorem dX12_said_77 : decode cX12_said 77 = .ok (.iload_n 3, 1) := by decide +kernel
theorem dX12_said_78 : decode cX12_said 78 = .ok (.aload_n 0, 1) := by decide +kernel
theorem dX12_said_79 : decode cX12_said 79 = .ok (.getfield 7, 3) := by decide +kernel
theorem dX12_said_82 : decode cX12_said 82 = .ok (.sipush 617, 3) := by decide +kernel
theorem dX12_said_85 : decode cX12_said 85 = .ok (.iconst 3, 1) := by decide +kernel
theorem dX12_said_86 : decode cX12_said 86 = .ok (.iload_n 1, 1) := by decide +kernel
theorem dX12_said_87 : decode cX12_said 87 = .ok (.imul, 1) := by decide +kernel
theorem dX12_said_88 : decode cX12_said 88 = .ok (.iadd, 1) := by decide +kernel
theorem dX12_said_89 : decode cX12_said 89 = .ok (.iaload, 1) := by decide +kernel
theorem dX12_said_90 : decode cX12_said 90 = .ok (.if_icmp .ne 7, 3) := by decide +kernel
theorem dX12_said_93 : decode cX12_said 93 = .ok (.iconst (-1), 1) := by decide +kernel
theorem dX12_said_94 : decode cX12_said 94 = .ok (.goto 9, 3) := by decide +kernel
theorem dX12_said_97 : decode cX12_said 97 = .ok (.aload_n 0, 1) := by decide +kernel
theorem dX12_said_98 : decode cX12_said 98 = .ok (.iload_n 1, 1) := by decide +kernel
theorem dX12_said_99 : decode cX12_said 99 = .ok (.iload_n 3, 1) := by decide +kernel
theorem dX12_said_100 : decode cX12_said 100 = .ok (.invokevirtual 553, 3) := by decide +kernel
theorem dX12_said_103 : decode cX12_said 103 = .ok (.ireturn, 1) := by decide +kernel
theorem dX12_misjoined_0 : decode cX12_misjoined 0 = .ok (.iconst 0, 1) := by decide +kernel
theorem dX12_misjoined_1 : decode cX12_misjoined 1 = .ok (.istore_n 1, 1) := by decide +kernel
theorem dX12_misjoined_2 : decode cX12_misjoined 2 = .ok (.iconst 0, 1) := by decide +kernel
theorem dX12_misjoined_3 : decode cX12_misjoined 3 = .ok (.istore_n 2, 1) := by decide +kernel
theorem dX12_misjoined_4 : decode cX12_misjoined 4 = .ok (.iload_n 2, 1) := by decide +kernel
theorem dX12_misjoined_5 : decode cX12_misjoined 5 = .ok (.aload_n 0, 1) := by decide +kernel
theorem dX12_misjoined_6 : decode cX12_misjoined 6 = .ok (.getfield 7, 3) := by decide +kernel
theorem dX12_misjoined_9 : decode cX12_misjoined 9 = .ok (.sipush 616, 3) := by decide +kernel
theorem dX12_misjoined_12 : decode cX12_misjoined 12 = .ok (.iaload, 1) := by decide +kernel
theorem dX12_misjoined_13 : decode cX12_misjoined 13 = .ok (.if_icmp .ge 73, 3) := by decide +kernel
theorem dX12_misjoined_16 : decode cX12_misjoined 16 = .ok (.aload_n 0, 1) := by decide +kernel
theorem dX12_misjoined_17 : decode cX12_misjoined 17 = .ok (.getfield 7, 3) := by decide +kernel
theorem dX12_misjoined_20 : decode cX12_misjoined 20 = .ok (.sipush 617, 3) := by decide +kernel
theorem dX12_misjoined_23 : decode cX12_misjoined 23 = .ok (.iconst 3, 1) := by decide +kernel
theorem dX12_misjoined_24 : decode cX12_misjoined 24 = .ok (.iload_n 2, 1) := by decide +kernel
theorem dX12_misjoined_25 : decode cX12_misjoined 25 = .ok (.imul, 1) := by decide +kernel
theorem dX12_misjoined_26 : decode cX12_misjoined 26 = .ok (.iadd, 1) := by decide +kernel
theorem dX12_misjoined_27 : decode cX12_misjoined 27 = .ok (.iconst 2, 1) := by decide +kernel
theorem dX12_misjoined_28 : decode cX12_misjoined 28 = .ok (.iadd, 1) := by decide +kernel
theorem dX12_misjoined_29 : decode cX12_misjoined 29 = .ok (.iaload, 1) := by decide +kernel
theorem dX12_misjoined_30 : decode cX12_misjoined 30 = .ok (.istore_n 3, 1) := by decide +kernel
theorem dX12_misjoined_31 : decode cX12_misjoined 31 = .ok (.iload_n 3, 1) := by decide +kernel
theorem dX12_misjoined_32 : decode cX12_misjoined 32 = .ok (.iconst (-1), 1) := by decide +kernel
theorem dX12_misjoined_33 : decode cX12_misjoined 33 = .ok (.if_icmp .eq 47, 3) := by decide +kernel
theorem dX12_misjoined_36 : decode cX12_misjoined 36 = .ok (.aload_n 0, 1) := by decide +kernel
theorem dX12_misjoined_37 : decode cX12_misjoined 37 = .ok (.iload_n 3, 1) := by decide +kernel
theorem dX12_misjoined_38 : decode cX12_misjoined 38 = .ok (.iconst 0, 1) := by decide +kernel
theorem dX12_misjoined_39 : decode cX12_misjoined 39 = .ok (.invokevirtual 415, 3) := by decide +kernel
theorem dX12_misjoined_42 : decode cX12_misjoined 42 = .ok (.istore 4, 2) := by decide +kernel
theorem dX12_misjoined_44 : decode cX12_misjoined 44 = .ok (.iload_n 1, 1) := by decide +kernel
theorem dX12_misjoined_45 : decode cX12_misjoined 45 = .ok (.aload_n 0, 1) := by decide +kernel
theorem dX12_misjoined_46 : decode cX12_misjoined 46 = .ok (.iload_n 2, 1) := by decide +kernel
theorem dX12_misjoined_47 : decode cX12_misjoined 47 = .ok (.iload 4, 2) := by decide +kernel
theorem dX12_misjoined_49 : decode cX12_misjoined 49 = .ok (.invokevirtual 550, 3) := by decide +kernel
theorem dX12_misjoined_52 : decode cX12_misjoined 52 = .ok (.aload_n 0, 1) := by decide +kernel
theorem dX12_misjoined_53 : decode cX12_misjoined 53 = .ok (.getfield 7, 3) := by decide +kernel
theorem dX12_misjoined_56 : decode cX12_misjoined 56 = .ok (.bipush 91, 2) := by decide +kernel
theorem dX12_misjoined_58 : decode cX12_misjoined 58 = .ok (.iaload, 1) := by decide +kernel
theorem dX12_misjoined_59 : decode cX12_misjoined 59 = .ok (.if_icmp .gt 18, 3) := by decide +kernel
theorem dX12_misjoined_62 : decode cX12_misjoined 62 = .ok (.aload_n 0, 1) := by decide +kernel
theorem dX12_misjoined_63 : decode cX12_misjoined 63 = .ok (.iload_n 2, 1) := by decide +kernel
theorem dX12_misjoined_64 : decode cX12_misjoined 64 = .ok (.iload 4, 2) := by decide +kernel
theorem dX12_misjoined_66 : decode cX12_misjoined 66 = .ok (.invokevirtual 553, 3) := by decide +kernel
theorem dX12_misjoined_69 : decode cX12_misjoined 69 = .ok (.iload_n 3, 1) := by decide +kernel
theorem dX12_misjoined_70 : decode cX12_misjoined 70 = .ok (.if_icmp .eq 7, 3) := by decide +kernel
theorem dX12_misjoined_73 : decode cX12_misjoined 73 = .ok (.iconst 1, 1) := by decide +kernel
theorem dX12_misjoined_74 : decode cX12_misjoined 74 = .ok (.goto 4, 3) := by decide +kernel
theorem dX12_misjoined_77 : decode cX12_misjoined 77 = .ok (.iconst 0, 1) := by decide +kernel
theorem dX12_misjoined_78 : decode cX12_misjoined 78 = .ok (.iadd, 1) := by decide +kernel
theorem dX12_misjoined_79 : decode cX12_misjoined 79 = .ok (.istore_n 1, 1) := by decide +kernel
theorem dX12_misjoined_80 : decode cX12_misjoined 80 = .ok (.iinc 2 1, 3) := by decide +kernel
theorem dX12_misjoined_83 : decode cX12_misjoined 83 = .ok (.goto (-79), 3) := by decide +kernel
theorem dX12_misjoined_86 : decode cX12_misjoined 86 = .ok (.iload_n 1, 1) := by decide +kernel
theorem dX12_misjoined_87 : decode cX12_misjoined 87 = .ok (.ireturn, 1) := by decide +kernel
theorem dX12_common_0 : decode cX12_common 0 = .ok (.iload_n 0, 1) := by decide +kernel
theorem dX12_common_1 : decode cX12_common 1 = .ok (.istore_n 2, 1) := by decide +kernel
theorem dX12_common_2 : decode cX12_common 2 = .ok (.iload_n 1, 1) := by decide +kernel
theorem dX12_common_3 : decode cX12_common 3 = .ok (.istore_n 3, 1) := by decide +kernel
theorem dX12_common_4 : decode cX12_common 4 = .ok (.iload_n 3, 1) := by decide +kernel
theorem dX12_common_5 : decode cX12_common 5 = .ok (.ifCond .eq 16, 3) := by decide +kernel
theorem dX12_common_8 : decode cX12_common 8 = .ok (.iload_n 2, 1) := by decide +kernel
theorem dX12_common_9 : decode cX12_common 9 = .ok (.iload_n 3, 1) := by decide +kernel
theorem dX12_common_10 : decode cX12_common 10 = .ok (.irem, 1) := by decide +kernel
theorem dX12_common_11 : decode cX12_common 11 = .ok (.istore 4, 2) := by decide +kernel
theorem dX12_common_13 : decode cX12_common 13 = .ok (.iload_n 3, 1) := by decide +kernel
theorem dX12_common_14 : decode cX12_common 14 = .ok (.istore_n 2, 1) := by decide +kernel
theorem dX12_common_15 : decode cX12_common 15 = .ok (.iload 4, 2) := by decide +kernel
theorem dX12_common_17 : decode cX12_common 17 = .ok (.istore_n 3, 1) := by decide +kernel
theorem dX12_common_18 : decode cX12_common 18 = .ok (.goto (-14), 3) := by decide +kernel
theorem dX12_common_21 : decode cX12_common 21 = .ok (.iload_n 2, 1) := by decide +kernel
theorem dX12_common_22 : decode cX12_common 22 = .ok (.ireturn, 1) := by decide +kernel
theorem dX12_inLowest_0 : decode cX12_inLowest 0 = .ok (.iload_n 1, 1) := by decide +kernel
theorem dX12_inLowest_1 : decode cX12_inLowest 1 = .ok (.iload_n 0, 1) := by decide +kernel
theorem dX12_inLowest_2 : decode cX12_inLowest 2 = .ok (.invokestatic 556, 3) := by decide +kernel
theorem dX12_inLowest_5 : decode cX12_inLowest 5 = .ok (.istore_n 3, 1) := by decide +kernel
theorem dX12_inLowest_6 : decode cX12_inLowest 6 = .ok (.iload_n 2, 1) := by decide +kernel
theorem dX12_inLowest_7 : decode cX12_inLowest 7 = .ok (.ifCond .eq 9, 3) := by decide +kernel
theorem dX12_inLowest_10 : decode cX12_inLowest 10 = .ok (.iload_n 1, 1) := by decide +kernel
theorem dX12_inLowest_11 : decode cX12_inLowest 11 = .ok (.iload_n 3, 1) := by decide +kernel
theorem dX12_inLowest_12 : decode cX12_inLowest 12 = .ok (.idiv, 1) := by decide +kernel
theorem dX12_inLowest_13 : decode cX12_inLowest 13 = .ok (.goto 6, 3) := by decide +kernel
theorem dX12_inLowest_16 : decode cX12_inLowest 16 = .ok (.iload_n 0, 1) := by decide +kernel
theorem dX12_inLowest_17 : decode cX12_inLowest 17 = .ok (.iload_n 3, 1) := by decide +kernel
theorem dX12_inLowest_18 : decode cX12_inLowest 18 = .ok (.idiv, 1) := by decide +kernel
theorem dX12_inLowest_19 : decode cX12_inLowest 19 = .ok (.ireturn, 1) := by decide +kernel
theorem dX12_endedBy_0 : decode cX12_endedBy 0 = .ok (.iconst (-1), 1) := by decide +kernel
theorem dX12_endedBy_1 : decode cX12_endedBy 1 = .ok (.istore_n 3, 1) := by decide +kernel
theorem dX12_endedBy_2 : decode cX12_endedBy 2 = .ok (.iconst 0, 1) := by decide +kernel
theorem dX12_endedBy_3 : decode cX12_endedBy 3 = .ok (.istore 4, 2) := by decide +kernel
theorem dX12_endedBy_5 : decode cX12_endedBy 5 = .ok (.iload 4, 2) := by decide +kernel
theorem dX12_endedBy_7 : decode cX12_endedBy 7 = .ok (.aload_n 0, 1) := by decide +kernel
theorem dX12_endedBy_8 : decode cX12_endedBy 8 = .ok (.getfield 7, 3) := by decide +kernel
theorem dX12_endedBy_11 : decode cX12_endedBy 11 = .ok (.sipush 165, 3) := by decide +kernel
theorem dX12_endedBy_14 : decode cX12_endedBy 14 = .ok (.iaload, 1) := by decide +kernel
theorem dX12_endedBy_15 : decode cX12_endedBy 15 = .ok (.if_icmp .ge 87, 3) := by decide +kernel
theorem dX12_endedBy_18 : decode cX12_endedBy 18 = .ok (.aload_n 0, 1) := by decide +kernel
theorem dX12_endedBy_19 : decode cX12_endedBy 19 = .ok (.iload 4, 2) := by decide +kernel
theorem dX12_endedBy_21 : decode cX12_endedBy 21 = .ok (.iconst 0, 1) := by decide +kernel
theorem dX12_endedBy_22 : decode cX12_endedBy 22 = .ok (.invokevirtual 415, 3) := by decide +kernel
theorem dX12_endedBy_25 : decode cX12_endedBy 25 = .ok (.iload_n 1, 1) := by decide +kernel
theorem dX12_endedBy_26 : decode cX12_endedBy 26 = .ok (.if_icmp .ne 38, 3) := by decide +kernel
theorem dX12_endedBy_29 : decode cX12_endedBy 29 = .ok (.aload_n 0, 1) := by decide +kernel
theorem dX12_endedBy_30 : decode cX12_endedBy 30 = .ok (.iload 4, 2) := by decide +kernel
theorem dX12_endedBy_32 : decode cX12_endedBy 32 = .ok (.iconst 3, 1) := by decide +kernel
theorem dX12_endedBy_33 : decode cX12_endedBy 33 = .ok (.invokevirtual 415, 3) := by decide +kernel
theorem dX12_endedBy_36 : decode cX12_endedBy 36 = .ok (.iconst (-1), 1) := by decide +kernel
theorem dX12_endedBy_37 : decode cX12_endedBy 37 = .ok (.if_icmp .eq 27, 3) := by decide +kernel
theorem dX12_endedBy_40 : decode cX12_endedBy 40 = .ok (.aload_n 0, 1) := by decide +kernel
theorem dX12_endedBy_41 : decode cX12_endedBy 41 = .ok (.iload 4, 2) := by decide +kernel
theorem dX12_endedBy_43 : decode cX12_endedBy 43 = .ok (.invokevirtual 445, 3) := by decide +kernel
theorem dX12_endedBy_46 : decode cX12_endedBy 46 = .ok (.ifCond .eq 18, 3) := by decide +kernel
theorem dX12_endedBy_49 : decode cX12_endedBy 49 = .ok (.aload_n 0, 1) := by decide +kernel
theorem dX12_endedBy_50 : decode cX12_endedBy 50 = .ok (.iload 4, 2) := by decide +kernel
theorem dX12_endedBy_52 : decode cX12_endedBy 52 = .ok (.iconst 3, 1) := by decide +kernel
theorem dX12_endedBy_53 : decode cX12_endedBy 53 = .ok (.invokevirtual 415, 3) := by decide +kernel
theorem dX12_endedBy_56 : decode cX12_endedBy 56 = .ok (.iload_n 2, 1) := by decide +kernel
theorem dX12_endedBy_57 : decode cX12_endedBy 57 = .ok (.if_icmp .gt 7, 3) := by decide +kernel
theorem dX12_endedBy_60 : decode cX12_endedBy 60 = .ok (.iconst 1, 1) := by decide +kernel
theorem dX12_endedBy_61 : decode cX12_endedBy 61 = .ok (.goto 4, 3) := by decide +kernel
theorem dX12_endedBy_64 : decode cX12_endedBy 64 = .ok (.iconst 0, 1) := by decide +kernel
theorem dX12_endedBy_65 : decode cX12_endedBy 65 = .ok (.istore 5, 2) := by decide +kernel
theorem dX12_endedBy_67 : decode cX12_endedBy 67 = .ok (.iload 5, 2) := by decide +kernel
theorem dX12_endedBy_69 : decode cX12_endedBy 69 = .ok (.ifCond .eq 27, 3) := by decide +kernel
theorem dX12_endedBy_72 : decode cX12_endedBy 72 = .ok (.iload_n 3, 1) := by decide +kernel
theorem dX12_endedBy_73 : decode cX12_endedBy 73 = .ok (.iconst (-1), 1) := by decide +kernel
theorem dX12_endedBy_74 : decode cX12_endedBy 74 = .ok (.if_icmp .eq 19, 3) := by decide +kernel
theorem dX12_endedBy_77 : decode cX12_endedBy 77 = .ok (.aload_n 0, 1) := by decide +kernel
theorem dX12_endedBy_78 : decode cX12_endedBy 78 = .ok (.iload 4, 2) := by decide +kernel
theorem dX12_endedBy_80 : decode cX12_endedBy 80 = .ok (.iconst 3, 1) := by decide +kernel
theorem dX12_endedBy_81 : decode cX12_endedBy 81 = .ok (.invokevirtual 415, 3) := by decide +kernel
theorem dX12_endedBy_84 : decode cX12_endedBy 84 = .ok (.aload_n 0, 1) := by decide +kernel
theorem dX12_endedBy_85 : decode cX12_endedBy 85 = .ok (.iload_n 3, 1) := by decide +kernel
theorem dX12_endedBy_86 : decode cX12_endedBy 86 = .ok (.iconst 3, 1) := by decide +kernel
theorem dX12_endedBy_87 : decode cX12_endedBy 87 = .ok (.invokevirtual 415, 3) := by decide +kernel
theorem dX12_endedBy_90 : decode cX12_endedBy 90 = .ok (.if_icmp .le 6, 3) := by decide +kernel
theorem dX12_endedBy_93 : decode cX12_endedBy 93 = .ok (.iload 4, 2) := by decide +kernel
theorem dX12_endedBy_95 : decode cX12_endedBy 95 = .ok (.istore_n 3, 1) := by decide +kernel
theorem dX12_endedBy_96 : decode cX12_endedBy 96 = .ok (.iinc 4 1, 3) := by decide +kernel
theorem dX12_endedBy_99 : decode cX12_endedBy 99 = .ok (.goto (-94), 3) := by decide +kernel
theorem dX12_endedBy_102 : decode cX12_endedBy 102 = .ok (.iload_n 3, 1) := by decide +kernel
theorem dX12_endedBy_103 : decode cX12_endedBy 103 = .ok (.ireturn, 1) := by decide +kernel
theorem dX12_whose_0 : decode cX12_whose 0 = .ok (.aload_n 0, 1) := by decide +kernel
theorem dX12_whose_1 : decode cX12_whose 1 = .ok (.iload_n 1, 1) := by decide +kernel
theorem dX12_whose_2 : decode cX12_whose 2 = .ok (.invokevirtual 185, 3) := by decide +kernel
theorem dX12_whose_5 : decode cX12_whose 5 = .ok (.ifCond .eq 50, 3) := by decide +kernel
theorem dX12_whose_8 : decode cX12_whose 8 = .ok (.iload_n 2, 1) := by decide +kernel
theorem dX12_whose_9 : decode cX12_whose 9 = .ok (.iconst 0, 1) := by decide +kernel
theorem dX12_whose_10 : decode cX12_whose 10 = .ok (.sipush 9000, 3) := by decide +kernel
theorem dX12_whose_13 : decode cX12_whose 13 = .ok (.invokestatic 173, 3) := by decide +kernel
theorem dX12_whose_16 : decode cX12_whose 16 = .ok (.ifCond .eq 39, 3) := by decide +kernel
theorem dX12_whose_19 : decode cX12_whose 19 = .ok (.iload_n 3, 1) := by decide +kernel
theorem dX12_whose_20 : decode cX12_whose 20 = .ok (.ifCond .lt 35, 3) := by decide +kernel
theorem dX12_whose_23 : decode cX12_whose 23 = .ok (.iload 4, 2) := by decide +kernel
theorem dX12_whose_25 : decode cX12_whose 25 = .ok (.bipush 122, 2) := by decide +kernel
theorem dX12_whose_27 : decode cX12_whose 27 = .ok (.if_icmp .gt 28, 3) := by decide +kernel
theorem dX12_whose_30 : decode cX12_whose 30 = .ok (.iload_n 3, 1) := by decide +kernel
theorem dX12_whose_31 : decode cX12_whose 31 = .ok (.iload 4, 2) := by decide +kernel
theorem dX12_whose_33 : decode cX12_whose 33 = .ok (.if_icmp .gt 22, 3) := by decide +kernel
theorem dX12_whose_36 : decode cX12_whose 36 = .ok (.iload 5, 2) := by decide +kernel
theorem dX12_whose_38 : decode cX12_whose 38 = .ok (.iconst 0, 1) := by decide +kernel
theorem dX12_whose_39 : decode cX12_whose 39 = .ok (.aload_n 0, 1) := by decide +kernel
theorem dX12_whose_40 : decode cX12_whose 40 = .ok (.getfield 7, 3) := by decide +kernel
theorem dX12_whose_43 : decode cX12_whose 43 = .ok (.sipush 165, 3) := by decide +kernel
theorem dX12_whose_46 : decode cX12_whose 46 = .ok (.iaload, 1) := by decide +kernel
theorem dX12_whose_47 : decode cX12_whose 47 = .ok (.iconst 1, 1) := by decide +kernel
theorem dX12_whose_48 : decode cX12_whose 48 = .ok (.isub, 1) := by decide +kernel
theorem dX12_whose_49 : decode cX12_whose 49 = .ok (.invokestatic 173, 3) := by decide +kernel
theorem dX12_whose_52 : decode cX12_whose 52 = .ok (.ifCond .ne 5, 3) := by decide +kernel
theorem dX12_whose_55 : decode cX12_whose 55 = .ok (.iconst (-1), 1) := by decide +kernel
theorem dX12_whose_56 : decode cX12_whose 56 = .ok (.ireturn, 1) := by decide +kernel
theorem dX12_whose_57 : decode cX12_whose 57 = .ok (.iconst 0, 1) := by decide +kernel
theorem dX12_whose_58 : decode cX12_whose 58 = .ok (.istore 7, 2) := by decide +kernel
theorem dX12_whose_60 : decode cX12_whose 60 = .ok (.iload_n 3, 1) := by decide +kernel
theorem dX12_whose_61 : decode cX12_whose 61 = .ok (.istore 8, 2) := by decide +kernel
theorem dX12_whose_63 : decode cX12_whose 63 = .ok (.iload 8, 2) := by decide +kernel
theorem dX12_whose_65 : decode cX12_whose 65 = .ok (.iload 4, 2) := by decide +kernel
theorem dX12_whose_67 : decode cX12_whose 67 = .ok (.if_icmp .gt 33, 3) := by decide +kernel
theorem dX12_whose_70 : decode cX12_whose 70 = .ok (.iload 7, 2) := by decide +kernel
theorem dX12_whose_72 : decode cX12_whose 72 = .ok (.aload_n 0, 1) := by decide +kernel
theorem dX12_whose_73 : decode cX12_whose 73 = .ok (.iload_n 1, 1) := by decide +kernel
theorem dX12_whose_74 : decode cX12_whose 74 = .ok (.iload_n 2, 1) := by decide +kernel
theorem dX12_whose_75 : decode cX12_whose 75 = .ok (.iload 8, 2) := by decide +kernel
theorem dX12_whose_77 : decode cX12_whose 77 = .ok (.isub, 1) := by decide +kernel
theorem dX12_whose_78 : decode cX12_whose 78 = .ok (.invokevirtual 559, 3) := by decide +kernel
theorem dX12_whose_81 : decode cX12_whose 81 = .ok (.iload 5, 2) := by decide +kernel
theorem dX12_whose_83 : decode cX12_whose 83 = .ok (.if_icmp .ne 7, 3) := by decide +kernel
theorem dX12_whose_86 : decode cX12_whose 86 = .ok (.iconst 1, 1) := by decide +kernel
theorem dX12_whose_87 : decode cX12_whose 87 = .ok (.goto 4, 3) := by decide +kernel
theorem dX12_whose_90 : decode cX12_whose 90 = .ok (.iconst 0, 1) := by decide +kernel
theorem dX12_whose_91 : decode cX12_whose 91 = .ok (.iadd, 1) := by decide +kernel
theorem dX12_whose_92 : decode cX12_whose 92 = .ok (.istore 7, 2) := by decide +kernel
theorem dX12_whose_94 : decode cX12_whose 94 = .ok (.iinc 8 1, 3) := by decide +kernel
theorem dX12_whose_97 : decode cX12_whose 97 = .ok (.goto (-34), 3) := by decide +kernel
theorem dX12_whose_100 : decode cX12_whose 100 = .ok (.iload 7, 2) := by decide +kernel
theorem dX12_whose_102 : decode cX12_whose 102 = .ok (.iload 4, 2) := by decide +kernel
theorem dX12_whose_104 : decode cX12_whose 104 = .ok (.iload_n 3, 1) := by decide +kernel
theorem dX12_whose_105 : decode cX12_whose 105 = .ok (.isub, 1) := by decide +kernel
theorem dX12_whose_106 : decode cX12_whose 106 = .ok (.iconst 1, 1) := by decide +kernel
theorem dX12_whose_107 : decode cX12_whose 107 = .ok (.iadd, 1) := by decide +kernel
theorem dX12_whose_108 : decode cX12_whose 108 = .ok (.iload 6, 2) := by decide +kernel
theorem dX12_whose_110 : decode cX12_whose 110 = .ok (.invokestatic 562, 3) := by decide +kernel
theorem dX12_whose_113 : decode cX12_whose 113 = .ok (.ireturn, 1) := by decide +kernel
theorem dX12_beganAt_0 : decode cX12_beganAt 0 = .ok (.aload_n 0, 1) := by decide +kernel
theorem dX12_beganAt_1 : decode cX12_beganAt 1 = .ok (.iload_n 1, 1) := by decide +kernel
theorem dX12_beganAt_2 : decode cX12_beganAt 2 = .ok (.iconst 0, 1) := by decide +kernel
theorem dX12_beganAt_3 : decode cX12_beganAt 3 = .ok (.invokevirtual 415, 3) := by decide +kernel
theorem dX12_beganAt_6 : decode cX12_beganAt 6 = .ok (.istore_n 3, 1) := by decide +kernel
theorem dX12_beganAt_7 : decode cX12_beganAt 7 = .ok (.aload_n 0, 1) := by decide +kernel
theorem dX12_beganAt_8 : decode cX12_beganAt 8 = .ok (.iload_n 1, 1) := by decide +kernel
theorem dX12_beganAt_9 : decode cX12_beganAt 9 = .ok (.iconst 1, 1) := by decide +kernel
theorem dX12_beganAt_10 : decode cX12_beganAt 10 = .ok (.invokevirtual 415, 3) := by decide +kernel
theorem dX12_beganAt_13 : decode cX12_beganAt 13 = .ok (.iload_n 2, 1) := by decide +kernel
theorem dX12_beganAt_14 : decode cX12_beganAt 14 = .ok (.iconst (-1), 1) := by decide +kernel
theorem dX12_beganAt_15 : decode cX12_beganAt 15 = .ok (.if_icmp .eq 8, 3) := by decide +kernel
theorem dX12_beganAt_18 : decode cX12_beganAt 18 = .ok (.iload_n 2, 1) := by decide +kernel
theorem dX12_beganAt_19 : decode cX12_beganAt 19 = .ok (.iload_n 3, 1) := by decide +kernel
theorem dX12_beganAt_20 : decode cX12_beganAt 20 = .ok (.if_icmp .ne 7, 3) := by decide +kernel
theorem dX12_beganAt_23 : decode cX12_beganAt 23 = .ok (.iconst 0, 1) := by decide +kernel
theorem dX12_beganAt_24 : decode cX12_beganAt 24 = .ok (.goto 11, 3) := by decide +kernel
theorem dX12_beganAt_27 : decode cX12_beganAt 27 = .ok (.iconst 1, 1) := by decide +kernel
theorem dX12_beganAt_28 : decode cX12_beganAt 28 = .ok (.aload_n 0, 1) := by decide +kernel
theorem dX12_beganAt_29 : decode cX12_beganAt 29 = .ok (.iload_n 3, 1) := by decide +kernel
theorem dX12_beganAt_30 : decode cX12_beganAt 30 = .ok (.iload_n 2, 1) := by decide +kernel
theorem dX12_beganAt_31 : decode cX12_beganAt 31 = .ok (.invokevirtual 188, 3) := by decide +kernel
theorem dX12_beganAt_34 : decode cX12_beganAt 34 = .ok (.iadd, 1) := by decide +kernel
theorem dX12_beganAt_35 : decode cX12_beganAt 35 = .ok (.iadd, 1) := by decide +kernel
theorem dX12_beganAt_36 : decode cX12_beganAt 36 = .ok (.ireturn, 1) := by decide +kernel
theorem dX12_first_0 : decode cX12_first 0 = .ok (.iload_n 1, 1) := by decide +kernel
theorem dX12_first_1 : decode cX12_first 1 = .ok (.iconst 0, 1) := by decide +kernel
theorem dX12_first_2 : decode cX12_first 2 = .ok (.aload_n 0, 1) := by decide +kernel
theorem dX12_first_3 : decode cX12_first 3 = .ok (.getfield 7, 3) := by decide +kernel
theorem dX12_first_6 : decode cX12_first 6 = .ok (.sipush 165, 3) := by decide +kernel
theorem dX12_first_9 : decode cX12_first 9 = .ok (.iaload, 1) := by decide +kernel
theorem dX12_first_10 : decode cX12_first 10 = .ok (.iconst 1, 1) := by decide +kernel
theorem dX12_first_11 : decode cX12_first 11 = .ok (.isub, 1) := by decide +kernel
theorem dX12_first_12 : decode cX12_first 12 = .ok (.invokestatic 173, 3) := by decide +kernel
theorem dX12_first_15 : decode cX12_first 15 = .ok (.ifCond .eq 39, 3) := by decide +kernel
theorem dX12_first_18 : decode cX12_first 18 = .ok (.iload_n 2, 1) := by decide +kernel
theorem dX12_first_19 : decode cX12_first 19 = .ok (.iconst 0, 1) := by decide +kernel
theorem dX12_first_20 : decode cX12_first 20 = .ok (.aload_n 0, 1) := by decide +kernel
theorem dX12_first_21 : decode cX12_first 21 = .ok (.getfield 7, 3) := by decide +kernel
theorem dX12_first_24 : decode cX12_first 24 = .ok (.sipush 165, 3) := by decide +kernel
theorem dX12_first_27 : decode cX12_first 27 = .ok (.iaload, 1) := by decide +kernel
theorem dX12_first_28 : decode cX12_first 28 = .ok (.iconst 1, 1) := by decide +kernel
theorem dX12_first_29 : decode cX12_first 29 = .ok (.isub, 1) := by decide +kernel
theorem dX12_first_30 : decode cX12_first 30 = .ok (.invokestatic 173, 3) := by decide +kernel
theorem dX12_first_33 : decode cX12_first 33 = .ok (.ifCond .eq 21, 3) := by decide +kernel
theorem dX12_first_36 : decode cX12_first 36 = .ok (.iload_n 1, 1) := by decide +kernel
theorem dX12_first_37 : decode cX12_first 37 = .ok (.iload_n 2, 1) := by decide +kernel
theorem dX12_first_38 : decode cX12_first 38 = .ok (.if_icmp .eq 16, 3) := by decide +kernel
theorem dX12_first_41 : decode cX12_first 41 = .ok (.iload_n 3, 1) := by decide +kernel
theorem dX12_first_42 : decode cX12_first 42 = .ok (.iconst (-1), 1) := by decide +kernel
theorem dX12_first_43 : decode cX12_first 43 = .ok (.if_icmp .eq 13, 3) := by decide +kernel
theorem dX12_first_46 : decode cX12_first 46 = .ok (.aload_n 0, 1) := by decide +kernel
theorem dX12_first_47 : decode cX12_first 47 = .ok (.iload_n 3, 1) := by decide +kernel
theorem dX12_first_48 : decode cX12_first 48 = .ok (.invokevirtual 185, 3) := by decide +kernel
theorem dX12_first_51 : decode cX12_first 51 = .ok (.ifCond .ne 5, 3) := by decide +kernel
theorem dX12_first_54 : decode cX12_first 54 = .ok (.iconst (-1), 1) := by decide +kernel
theorem dX12_first_55 : decode cX12_first 55 = .ok (.ireturn, 1) := by decide +kernel
theorem dX12_first_56 : decode cX12_first 56 = .ok (.aload_n 0, 1) := by decide +kernel
theorem dX12_first_57 : decode cX12_first 57 = .ok (.iload_n 1, 1) := by decide +kernel
theorem dX12_first_58 : decode cX12_first 58 = .ok (.iload_n 3, 1) := by decide +kernel
theorem dX12_first_59 : decode cX12_first 59 = .ok (.invokevirtual 566, 3) := by decide +kernel
theorem dX12_first_62 : decode cX12_first 62 = .ok (.istore 4, 2) := by decide +kernel
theorem dX12_first_64 : decode cX12_first 64 = .ok (.aload_n 0, 1) := by decide +kernel
theorem dX12_first_65 : decode cX12_first 65 = .ok (.iload_n 2, 1) := by decide +kernel
theorem dX12_first_66 : decode cX12_first 66 = .ok (.iload_n 3, 1) := by decide +kernel
theorem dX12_first_67 : decode cX12_first 67 = .ok (.invokevirtual 566, 3) := by decide +kernel
theorem dX12_first_70 : decode cX12_first 70 = .ok (.istore 5, 2) := by decide +kernel
theorem dX12_first_72 : decode cX12_first 72 = .ok (.iload 4, 2) := by decide +kernel
theorem dX12_first_74 : decode cX12_first 74 = .ok (.iload 5, 2) := by decide +kernel
theorem dX12_first_76 : decode cX12_first 76 = .ok (.if_icmp .ne 8, 3) := by decide +kernel
theorem dX12_first_79 : decode cX12_first 79 = .ok (.bipush (-2), 2) := by decide +kernel
theorem dX12_first_81 : decode cX12_first 81 = .ok (.goto 15, 3) := by decide +kernel
theorem dX12_first_84 : decode cX12_first 84 = .ok (.iload 4, 2) := by decide +kernel
theorem dX12_first_86 : decode cX12_first 86 = .ok (.iload 5, 2) := by decide +kernel
theorem dX12_first_88 : decode cX12_first 88 = .ok (.if_icmp .ge 7, 3) := by decide +kernel
theorem dX12_first_91 : decode cX12_first 91 = .ok (.iload_n 1, 1) := by decide +kernel
