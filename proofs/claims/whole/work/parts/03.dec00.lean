theorem dX0_init_0 : decode cX0_init 0 = .ok (.aload_n 0, 1) := by decide +kernel
theorem dX0_init_1 : decode cX0_init 1 = .ok (.invokespecial 3, 3) := by decide +kernel
theorem dX0_init_4 : decode cX0_init 4 = .ok (.aload_n 0, 1) := by decide +kernel
theorem dX0_init_5 : decode cX0_init 5 = .ok (.bipush 8, 2) := by decide +kernel
theorem dX0_init_7 : decode cX0_init 7 = .ok (.newarray .int, 2) := by decide +kernel
theorem dX0_init_9 : decode cX0_init 9 = .ok (.putfield 9, 3) := by decide +kernel
theorem dX0_init_12 : decode cX0_init 12 = .ok (.aload_n 0, 1) := by decide +kernel
theorem dX0_init_13 : decode cX0_init 13 = .ok (.bipush 8, 2) := by decide +kernel
theorem dX0_init_15 : decode cX0_init 15 = .ok (.newarray .int, 2) := by decide +kernel
theorem dX0_init_17 : decode cX0_init 17 = .ok (.putfield 15, 3) := by decide +kernel
theorem dX0_init_20 : decode cX0_init 20 = .ok (.aload_n 0, 1) := by decide +kernel
theorem dX0_init_21 : decode cX0_init 21 = .ok (.bipush 8, 2) := by decide +kernel
theorem dX0_init_23 : decode cX0_init 23 = .ok (.newarray .int, 2) := by decide +kernel
theorem dX0_init_25 : decode cX0_init 25 = .ok (.putfield 18, 3) := by decide +kernel
theorem dX0_init_28 : decode cX0_init 28 = .ok (.return_, 1) := by decide +kernel
theorem dX0_copyFrom_0 : decode cX0_copyFrom 0 = .ok (.aload_n 0, 1) := by decide +kernel
theorem dX0_copyFrom_1 : decode cX0_copyFrom 1 = .ok (.aload_n 1, 1) := by decide +kernel
theorem dX0_copyFrom_2 : decode cX0_copyFrom 2 = .ok (.getfield 21, 3) := by decide +kernel
theorem dX0_copyFrom_5 : decode cX0_copyFrom 5 = .ok (.putfield 21, 3) := by decide +kernel
theorem dX0_copyFrom_8 : decode cX0_copyFrom 8 = .ok (.iconst 0, 1) := by decide +kernel
theorem dX0_copyFrom_9 : decode cX0_copyFrom 9 = .ok (.istore_n 2, 1) := by decide +kernel
theorem dX0_copyFrom_10 : decode cX0_copyFrom 10 = .ok (.iload_n 2, 1) := by decide +kernel
theorem dX0_copyFrom_11 : decode cX0_copyFrom 11 = .ok (.aload_n 0, 1) := by decide +kernel
theorem dX0_copyFrom_12 : decode cX0_copyFrom 12 = .ok (.getfield 21, 3) := by decide +kernel
theorem dX0_copyFrom_15 : decode cX0_copyFrom 15 = .ok (.if_icmp .ge 45, 3) := by decide +kernel
theorem dX0_copyFrom_18 : decode cX0_copyFrom 18 = .ok (.aload_n 0, 1) := by decide +kernel
theorem dX0_copyFrom_19 : decode cX0_copyFrom 19 = .ok (.getfield 9, 3) := by decide +kernel
theorem dX0_copyFrom_22 : decode cX0_copyFrom 22 = .ok (.iload_n 2, 1) := by decide +kernel
theorem dX0_copyFrom_23 : decode cX0_copyFrom 23 = .ok (.aload_n 1, 1) := by decide +kernel
theorem dX0_copyFrom_24 : decode cX0_copyFrom 24 = .ok (.getfield 9, 3) := by decide +kernel
theorem dX0_copyFrom_27 : decode cX0_copyFrom 27 = .ok (.iload_n 2, 1) := by decide +kernel
theorem dX0_copyFrom_28 : decode cX0_copyFrom 28 = .ok (.iaload, 1) := by decide +kernel
theorem dX0_copyFrom_29 : decode cX0_copyFrom 29 = .ok (.iastore, 1) := by decide +kernel
theorem dX0_copyFrom_30 : decode cX0_copyFrom 30 = .ok (.aload_n 0, 1) := by decide +kernel
theorem dX0_copyFrom_31 : decode cX0_copyFrom 31 = .ok (.getfield 15, 3) := by decide +kernel
theorem dX0_copyFrom_34 : decode cX0_copyFrom 34 = .ok (.iload_n 2, 1) := by decide +kernel
theorem dX0_copyFrom_35 : decode cX0_copyFrom 35 = .ok (.aload_n 1, 1) := by decide +kernel
theorem dX0_copyFrom_36 : decode cX0_copyFrom 36 = .ok (.getfield 15, 3) := by decide +kernel
theorem dX0_copyFrom_39 : decode cX0_copyFrom 39 = .ok (.iload_n 2, 1) := by decide +kernel
theorem dX0_copyFrom_40 : decode cX0_copyFrom 40 = .ok (.iaload, 1) := by decide +kernel
theorem dX0_copyFrom_41 : decode cX0_copyFrom 41 = .ok (.iastore, 1) := by decide +kernel
theorem dX0_copyFrom_42 : decode cX0_copyFrom 42 = .ok (.aload_n 0, 1) := by decide +kernel
theorem dX0_copyFrom_43 : decode cX0_copyFrom 43 = .ok (.getfield 18, 3) := by decide +kernel
theorem dX0_copyFrom_46 : decode cX0_copyFrom 46 = .ok (.iload_n 2, 1) := by decide +kernel
theorem dX0_copyFrom_47 : decode cX0_copyFrom 47 = .ok (.aload_n 1, 1) := by decide +kernel
theorem dX0_copyFrom_48 : decode cX0_copyFrom 48 = .ok (.getfield 18, 3) := by decide +kernel
theorem dX0_copyFrom_51 : decode cX0_copyFrom 51 = .ok (.iload_n 2, 1) := by decide +kernel
theorem dX0_copyFrom_52 : decode cX0_copyFrom 52 = .ok (.iaload, 1) := by decide +kernel
theorem dX0_copyFrom_53 : decode cX0_copyFrom 53 = .ok (.iastore, 1) := by decide +kernel
theorem dX0_copyFrom_54 : decode cX0_copyFrom 54 = .ok (.iinc 2 1, 3) := by decide +kernel
theorem dX0_copyFrom_57 : decode cX0_copyFrom 57 = .ok (.goto (-47), 3) := by decide +kernel
theorem dX0_copyFrom_60 : decode cX0_copyFrom 60 = .ok (.return_, 1) := by decide +kernel
theorem dX0_areTold_0 : decode cX0_areTold 0 = .ok (.iload_n 1, 1) := by decide +kernel
theorem dX0_areTold_1 : decode cX0_areTold 1 = .ok (.ifCond .lt 16, 3) := by decide +kernel
theorem dX0_areTold_4 : decode cX0_areTold 4 = .ok (.iload_n 1, 1) := by decide +kernel
theorem dX0_areTold_5 : decode cX0_areTold 5 = .ok (.aload_n 0, 1) := by decide +kernel
theorem dX0_areTold_6 : decode cX0_areTold 6 = .ok (.getfield 21, 3) := by decide +kernel
theorem dX0_areTold_9 : decode cX0_areTold 9 = .ok (.ishr, 1) := by decide +kernel
theorem dX0_areTold_10 : decode cX0_areTold 10 = .ok (.ifCond .ne 7, 3) := by decide +kernel
theorem dX0_areTold_13 : decode cX0_areTold 13 = .ok (.iconst 1, 1) := by decide +kernel
theorem dX0_areTold_14 : decode cX0_areTold 14 = .ok (.goto 4, 3) := by decide +kernel
theorem dX0_areTold_17 : decode cX0_areTold 17 = .ok (.iconst 0, 1) := by decide +kernel
theorem dX0_areTold_18 : decode cX0_areTold 18 = .ok (.ireturn, 1) := by decide +kernel
theorem dX0_add_0 : decode cX0_add 0 = .ok (.aload_n 0, 1) := by decide +kernel
theorem dX0_add_1 : decode cX0_add 1 = .ok (.getfield 21, 3) := by decide +kernel
theorem dX0_add_4 : decode cX0_add 4 = .ok (.bipush 8, 2) := by decide +kernel
theorem dX0_add_6 : decode cX0_add 6 = .ok (.if_icmp .ge 43, 3) := by decide +kernel
theorem dX0_add_9 : decode cX0_add 9 = .ok (.aload_n 0, 1) := by decide +kernel
theorem dX0_add_10 : decode cX0_add 10 = .ok (.getfield 9, 3) := by decide +kernel
theorem dX0_add_13 : decode cX0_add 13 = .ok (.aload_n 0, 1) := by decide +kernel
theorem dX0_add_14 : decode cX0_add 14 = .ok (.getfield 21, 3) := by decide +kernel
theorem dX0_add_17 : decode cX0_add 17 = .ok (.iload_n 1, 1) := by decide +kernel
theorem dX0_add_18 : decode cX0_add 18 = .ok (.iastore, 1) := by decide +kernel
theorem dX0_add_19 : decode cX0_add 19 = .ok (.aload_n 0, 1) := by decide +kernel
theorem dX0_add_20 : decode cX0_add 20 = .ok (.getfield 15, 3) := by decide +kernel
theorem dX0_add_23 : decode cX0_add 23 = .ok (.aload_n 0, 1) := by decide +kernel
theorem dX0_add_24 : decode cX0_add 24 = .ok (.getfield 21, 3) := by decide +kernel
theorem dX0_add_27 : decode cX0_add 27 = .ok (.iload_n 2, 1) := by decide +kernel
theorem dX0_add_28 : decode cX0_add 28 = .ok (.iastore, 1) := by decide +kernel
theorem dX0_add_29 : decode cX0_add 29 = .ok (.aload_n 0, 1) := by decide +kernel
theorem dX0_add_30 : decode cX0_add 30 = .ok (.getfield 18, 3) := by decide +kernel
theorem dX0_add_33 : decode cX0_add 33 = .ok (.aload_n 0, 1) := by decide +kernel
theorem dX0_add_34 : decode cX0_add 34 = .ok (.getfield 21, 3) := by decide +kernel
theorem dX0_add_37 : decode cX0_add 37 = .ok (.iload_n 3, 1) := by decide +kernel
theorem dX0_add_38 : decode cX0_add 38 = .ok (.iastore, 1) := by decide +kernel
theorem dX0_add_39 : decode cX0_add 39 = .ok (.aload_n 0, 1) := by decide +kernel
theorem dX0_add_40 : decode cX0_add 40 = .ok (.dup, 1) := by decide +kernel
theorem dX0_add_41 : decode cX0_add 41 = .ok (.getfield 21, 3) := by decide +kernel
theorem dX0_add_44 : decode cX0_add 44 = .ok (.iconst 1, 1) := by decide +kernel
theorem dX0_add_45 : decode cX0_add 45 = .ok (.iadd, 1) := by decide +kernel
theorem dX0_add_46 : decode cX0_add 46 = .ok (.putfield 21, 3) := by decide +kernel
theorem dX0_add_49 : decode cX0_add 49 = .ok (.return_, 1) := by decide +kernel
theorem dX0_leastSet_0 : decode cX0_leastSet 0 = .ok (.iconst (-1), 1) := by decide +kernel
theorem dX0_leastSet_1 : decode cX0_leastSet 1 = .ok (.istore_n 2, 1) := by decide +kernel
theorem dX0_leastSet_2 : decode cX0_leastSet 2 = .ok (.iconst 0, 1) := by decide +kernel
theorem dX0_leastSet_3 : decode cX0_leastSet 3 = .ok (.istore_n 3, 1) := by decide +kernel
theorem dX0_leastSet_4 : decode cX0_leastSet 4 = .ok (.iconst 0, 1) := by decide +kernel
theorem dX0_leastSet_5 : decode cX0_leastSet 5 = .ok (.istore 4, 2) := by decide +kernel
theorem dX0_leastSet_7 : decode cX0_leastSet 7 = .ok (.iload 4, 2) := by decide +kernel
theorem dX0_leastSet_9 : decode cX0_leastSet 9 = .ok (.iconst 1, 1) := by decide +kernel
theorem dX0_leastSet_10 : decode cX0_leastSet 10 = .ok (.aload_n 0, 1) := by decide +kernel
theorem dX0_leastSet_11 : decode cX0_leastSet 11 = .ok (.getfield 21, 3) := by decide +kernel
theorem dX0_leastSet_14 : decode cX0_leastSet 14 = .ok (.ishl, 1) := by decide +kernel
theorem dX0_leastSet_15 : decode cX0_leastSet 15 = .ok (.if_icmp .ge 91, 3) := by decide +kernel
theorem dX0_leastSet_18 : decode cX0_leastSet 18 = .ok (.aload_n 0, 1) := by decide +kernel
theorem dX0_leastSet_19 : decode cX0_leastSet 19 = .ok (.iload 4, 2) := by decide +kernel
theorem dX0_leastSet_21 : decode cX0_leastSet 21 = .ok (.invokevirtual 25, 3) := by decide +kernel
theorem dX0_leastSet_24 : decode cX0_leastSet 24 = .ok (.ifCond .eq 76, 3) := by decide +kernel
theorem dX0_leastSet_27 : decode cX0_leastSet 27 = .ok (.aload_n 0, 1) := by decide +kernel
theorem dX0_leastSet_28 : decode cX0_leastSet 28 = .ok (.aload_n 0, 1) := by decide +kernel
theorem dX0_leastSet_29 : decode cX0_leastSet 29 = .ok (.getfield 15, 3) := by decide +kernel
theorem dX0_leastSet_32 : decode cX0_leastSet 32 = .ok (.iload 4, 2) := by decide +kernel
theorem dX0_leastSet_34 : decode cX0_leastSet 34 = .ok (.invokevirtual 29, 3) := by decide +kernel
theorem dX0_leastSet_37 : decode cX0_leastSet 37 = .ok (.iload_n 1, 1) := by decide +kernel
theorem dX0_leastSet_38 : decode cX0_leastSet 38 = .ok (.if_icmp .lt 62, 3) := by decide +kernel
theorem dX0_leastSet_41 : decode cX0_leastSet 41 = .ok (.aload_n 0, 1) := by decide +kernel
theorem dX0_leastSet_42 : decode cX0_leastSet 42 = .ok (.aload_n 0, 1) := by decide +kernel
theorem dX0_leastSet_43 : decode cX0_leastSet 43 = .ok (.getfield 9, 3) := by decide +kernel
theorem dX0_leastSet_46 : decode cX0_leastSet 46 = .ok (.iload 4, 2) := by decide +kernel
theorem dX0_leastSet_48 : decode cX0_leastSet 48 = .ok (.invokevirtual 29, 3) := by decide +kernel
theorem dX0_leastSet_51 : decode cX0_leastSet 51 = .ok (.istore 5, 2) := by decide +kernel
theorem dX0_leastSet_53 : decode cX0_leastSet 53 = .ok (.iload 5, 2) := by decide +kernel
theorem dX0_leastSet_55 : decode cX0_leastSet 55 = .ok (.iload_n 3, 1) := by decide +kernel
theorem dX0_leastSet_56 : decode cX0_leastSet 56 = .ok (.if_icmp .ne 19, 3) := by decide +kernel
theorem dX0_leastSet_59 : decode cX0_leastSet 59 = .ok (.iload 4, 2) := by decide +kernel
theorem dX0_leastSet_61 : decode cX0_leastSet 61 = .ok (.invokestatic 33, 3) := by decide +kernel
theorem dX0_leastSet_64 : decode cX0_leastSet 64 = .ok (.iload_n 2, 1) := by decide +kernel
theorem dX0_leastSet_65 : decode cX0_leastSet 65 = .ok (.invokestatic 33, 3) := by decide +kernel
theorem dX0_leastSet_68 : decode cX0_leastSet 68 = .ok (.if_icmp .ge 7, 3) := by decide +kernel
theorem dX0_leastSet_71 : decode cX0_leastSet 71 = .ok (.iconst 1, 1) := by decide +kernel
theorem dX0_leastSet_72 : decode cX0_leastSet 72 = .ok (.goto 4, 3) := by decide +kernel
theorem dX0_leastSet_75 : decode cX0_leastSet 75 = .ok (.iconst 0, 1) := by decide +kernel
theorem dX0_leastSet_76 : decode cX0_leastSet 76 = .ok (.istore 6, 2) := by decide +kernel
theorem dX0_leastSet_78 : decode cX0_leastSet 78 = .ok (.iload_n 2, 1) := by decide +kernel
theorem dX0_leastSet_79 : decode cX0_leastSet 79 = .ok (.iconst (-1), 1) := by decide +kernel
theorem dX0_leastSet_80 : decode cX0_leastSet 80 = .ok (.if_icmp .eq 14, 3) := by decide +kernel
theorem dX0_leastSet_83 : decode cX0_leastSet 83 = .ok (.iload 5, 2) := by decide +kernel
theorem dX0_leastSet_85 : decode cX0_leastSet 85 = .ok (.iload_n 3, 1) := by decide +kernel
theorem dX0_leastSet_86 : decode cX0_leastSet 86 = .ok (.if_icmp .lt 8, 3) := by decide +kernel
theorem dX0_leastSet_89 : decode cX0_leastSet 89 = .ok (.iload 6, 2) := by decide +kernel
theorem dX0_leastSet_91 : decode cX0_leastSet 91 = .ok (.ifCond .eq 9, 3) := by decide +kernel
theorem dX0_leastSet_94 : decode cX0_leastSet 94 = .ok (.iload 4, 2) := by decide +kernel
theorem dX0_leastSet_96 : decode cX0_leastSet 96 = .ok (.istore_n 2, 1) := by decide +kernel
theorem dX0_leastSet_97 : decode cX0_leastSet 97 = .ok (.iload 5, 2) := by decide +kernel
theorem dX0_leastSet_99 : decode cX0_leastSet 99 = .ok (.istore_n 3, 1) := by decide +kernel
theorem dX0_leastSet_100 : decode cX0_leastSet 100 = .ok (.iinc 4 1, 3) := by decide +kernel
theorem dX0_leastSet_103 : decode cX0_leastSet 103 = .ok (.goto (-96), 3) := by decide +kernel
theorem dX0_leastSet_106 : decode cX0_leastSet 106 = .ok (.iload_n 2, 1) := by decide +kernel
theorem dX0_leastSet_107 : decode cX0_leastSet 107 = .ok (.ireturn, 1) := by decide +kernel
theorem dX0_hasAllItNeeds_0 : decode cX0_hasAllItNeeds 0 = .ok (.iconst 0, 1) := by decide +kernel
theorem dX0_hasAllItNeeds_1 : decode cX0_hasAllItNeeds 1 = .ok (.istore_n 2, 1) := by decide +kernel
theorem dX0_hasAllItNeeds_2 : decode cX0_hasAllItNeeds 2 = .ok (.iload_n 2, 1) := by decide +kernel
theorem dX0_hasAllItNeeds_3 : decode cX0_hasAllItNeeds 3 = .ok (.aload_n 0, 1) := by decide +kernel
theorem dX0_hasAllItNeeds_4 : decode cX0_hasAllItNeeds 4 = .ok (.getfield 21, 3) := by decide +kernel
theorem dX0_hasAllItNeeds_7 : decode cX0_hasAllItNeeds 7 = .ok (.if_icmp .ge 32, 3) := by decide +kernel
theorem dX0_hasAllItNeeds_10 : decode cX0_hasAllItNeeds 10 = .ok (.iload_n 1, 1) := by decide +kernel
theorem dX0_hasAllItNeeds_11 : decode cX0_hasAllItNeeds 11 = .ok (.iload_n 2, 1) := by decide +kernel
theorem dX0_hasAllItNeeds_12 : decode cX0_hasAllItNeeds 12 = .ok (.ishr, 1) := by decide +kernel
theorem dX0_hasAllItNeeds_13 : decode cX0_hasAllItNeeds 13 = .ok (.iconst 1, 1) := by decide +kernel
theorem dX0_hasAllItNeeds_14 : decode cX0_hasAllItNeeds 14 = .ok (.iand, 1) := by decide +kernel
theorem dX0_hasAllItNeeds_15 : decode cX0_hasAllItNeeds 15 = .ok (.ifCond .eq 18, 3) := by decide +kernel
theorem dX0_hasAllItNeeds_18 : decode cX0_hasAllItNeeds 18 = .ok (.aload_n 0, 1) := by decide +kernel
theorem dX0_hasAllItNeeds_19 : decode cX0_hasAllItNeeds 19 = .ok (.getfield 18, 3) := by decide +kernel
theorem dX0_hasAllItNeeds_22 : decode cX0_hasAllItNeeds 22 = .ok (.iload_n 2, 1) := by decide +kernel
theorem dX0_hasAllItNeeds_23 : decode cX0_hasAllItNeeds 23 = .ok (.iaload, 1) := by decide +kernel
theorem dX0_hasAllItNeeds_24 : decode cX0_hasAllItNeeds 24 = .ok (.iload_n 1, 1) := by decide +kernel
theorem dX0_hasAllItNeeds_25 : decode cX0_hasAllItNeeds 25 = .ok (.iconst (-1), 1) := by decide +kernel
theorem dX0_hasAllItNeeds_26 : decode cX0_hasAllItNeeds 26 = .ok (.ixor, 1) := by decide +kernel
theorem dX0_hasAllItNeeds_27 : decode cX0_hasAllItNeeds 27 = .ok (.iand, 1) := by decide +kernel
theorem dX0_hasAllItNeeds_28 : decode cX0_hasAllItNeeds 28 = .ok (.ifCond .eq 5, 3) := by decide +kernel
theorem dX0_hasAllItNeeds_31 : decode cX0_hasAllItNeeds 31 = .ok (.iconst 0, 1) := by decide +kernel
theorem dX0_hasAllItNeeds_32 : decode cX0_hasAllItNeeds 32 = .ok (.ireturn, 1) := by decide +kernel
theorem dX0_hasAllItNeeds_33 : decode cX0_hasAllItNeeds 33 = .ok (.iinc 2 1, 3) := by decide +kernel
theorem dX0_hasAllItNeeds_36 : decode cX0_hasAllItNeeds 36 = .ok (.goto (-34), 3) := by decide +kernel
theorem dX0_hasAllItNeeds_39 : decode cX0_hasAllItNeeds 39 = .ok (.iconst 1, 1) := by decide +kernel
theorem dX0_hasAllItNeeds_40 : decode cX0_hasAllItNeeds 40 = .ok (.ireturn, 1) := by decide +kernel
theorem dX0_sumOf_0 : decode cX0_sumOf 0 = .ok (.iconst 0, 1) := by decide +kernel
theorem dX0_sumOf_1 : decode cX0_sumOf 1 = .ok (.istore_n 3, 1) := by decide +kernel
theorem dX0_sumOf_2 : decode cX0_sumOf 2 = .ok (.iconst 0, 1) := by decide +kernel
theorem dX0_sumOf_3 : decode cX0_sumOf 3 = .ok (.istore 4, 2) := by decide +kernel
theorem dX0_sumOf_5 : decode cX0_sumOf 5 = .ok (.iload 4, 2) := by decide +kernel
theorem dX0_sumOf_7 : decode cX0_sumOf 7 = .ok (.aload_n 0, 1) := by decide +kernel
theorem dX0_sumOf_8 : decode cX0_sumOf 8 = .ok (.getfield 21, 3) := by decide +kernel
theorem dX0_sumOf_11 : decode cX0_sumOf 11 = .ok (.if_icmp .ge 25, 3) := by decide +kernel
theorem dX0_sumOf_14 : decode cX0_sumOf 14 = .ok (.iload_n 2, 1) := by decide +kernel
theorem dX0_sumOf_15 : decode cX0_sumOf 15 = .ok (.iload 4, 2) := by decide +kernel
theorem dX0_sumOf_17 : decode cX0_sumOf 17 = .ok (.ishr, 1) := by decide +kernel
theorem dX0_sumOf_18 : decode cX0_sumOf 18 = .ok (.iconst 1, 1) := by decide +kernel
theorem dX0_sumOf_19 : decode cX0_sumOf 19 = .ok (.iand, 1) := by decide +kernel
theorem dX0_sumOf_20 : decode cX0_sumOf 20 = .ok (.ifCond .eq 10, 3) := by decide +kernel
theorem dX0_sumOf_23 : decode cX0_sumOf 23 = .ok (.iload_n 3, 1) := by decide +kernel
theorem dX0_sumOf_24 : decode cX0_sumOf 24 = .ok (.aload_n 1, 1) := by decide +kernel
theorem dX0_sumOf_25 : decode cX0_sumOf 25 = .ok (.iload 4, 2) := by decide +kernel
theorem dX0_sumOf_27 : decode cX0_sumOf 27 = .ok (.iaload, 1) := by decide +kernel
theorem dX0_sumOf_28 : decode cX0_sumOf 28 = .ok (.iadd, 1) := by decide +kernel
theorem dX0_sumOf_29 : decode cX0_sumOf 29 = .ok (.istore_n 3, 1) := by decide +kernel
theorem dX0_sumOf_30 : decode cX0_sumOf 30 = .ok (.iinc 4 1, 3) := by decide +kernel
theorem dX0_sumOf_33 : decode cX0_sumOf 33 = .ok (.goto (-28), 3) := by decide +kernel
theorem dX0_sumOf_36 : decode cX0_sumOf 36 = .ok (.iload_n 3, 1) := by decide +kernel
theorem dX0_sumOf_37 : decode cX0_sumOf 37 = .ok (.ireturn, 1) := by decide +kernel
theorem dX1_init_0 : decode cX1_init 0 = .ok (.aload_n 0, 1) := by decide +kernel
theorem dX1_init_1 : decode cX1_init 1 = .ok (.invokespecial 3, 3) := by decide +kernel
theorem dX1_init_4 : decode cX1_init 4 = .ok (.aload_n 0, 1) := by decide +kernel
theorem dX1_init_5 : decode cX1_init 5 = .ok (.bipush 8, 2) := by decide +kernel
theorem dX1_init_7 : decode cX1_init 7 = .ok (.newarray .int, 2) := by decide +kernel
theorem dX1_init_9 : decode cX1_init 9 = .ok (.putfield 9, 3) := by decide +kernel
theorem dX1_init_12 : decode cX1_init 12 = .ok (.aload_n 0, 1) := by decide +kernel
theorem dX1_init_13 : decode cX1_init 13 = .ok (.bipush 8, 2) := by decide +kernel
theorem dX1_init_15 : decode cX1_init 15 = .ok (.newarray .int, 2) := by decide +kernel
theorem dX1_init_17 : decode cX1_init 17 = .ok (.putfield 15, 3) := by decide +kernel
theorem dX1_init_20 : decode cX1_init 20 = .ok (.return_, 1) := by decide +kernel
theorem dX1_copyFrom_0 : decode cX1_copyFrom 0 = .ok (.aload_n 0, 1) := by decide +kernel
theorem dX1_copyFrom_1 : decode cX1_copyFrom 1 = .ok (.aload_n 1, 1) := by decide +kernel
theorem dX1_copyFrom_2 : decode cX1_copyFrom 2 = .ok (.getfield 18, 3) := by decide +kernel
theorem dX1_copyFrom_5 : decode cX1_copyFrom 5 = .ok (.putfield 18, 3) := by decide +kernel
theorem dX1_copyFrom_8 : decode cX1_copyFrom 8 = .ok (.iconst 0, 1) := by decide +kernel
theorem dX1_copyFrom_9 : decode cX1_copyFrom 9 = .ok (.istore_n 2, 1) := by decide +kernel
theorem dX1_copyFrom_10 : decode cX1_copyFrom 10 = .ok (.iload_n 2, 1) := by decide +kernel
theorem dX1_copyFrom_11 : decode cX1_copyFrom 11 = .ok (.aload_n 0, 1) := by decide +kernel
theorem dX1_copyFrom_12 : decode cX1_copyFrom 12 = .ok (.getfield 18, 3) := by decide +kernel
theorem dX1_copyFrom_15 : decode cX1_copyFrom 15 = .ok (.if_icmp .ge 33, 3) := by decide +kernel
theorem dX1_copyFrom_18 : decode cX1_copyFrom 18 = .ok (.aload_n 0, 1) := by decide +kernel
theorem dX1_copyFrom_19 : decode cX1_copyFrom 19 = .ok (.getfield 9, 3) := by decide +kernel
theorem dX1_copyFrom_22 : decode cX1_copyFrom 22 = .ok (.iload_n 2, 1) := by decide +kernel
theorem dX1_copyFrom_23 : decode cX1_copyFrom 23 = .ok (.aload_n 1, 1) := by decide +kernel
theorem dX1_copyFrom_24 : decode cX1_copyFrom 24 = .ok (.getfield 9, 3) := by decide +kernel
theorem dX1_copyFrom_27 : decode cX1_copyFrom 27 = .ok (.iload_n 2, 1) := by decide +kernel
theorem dX1_copyFrom_28 : decode cX1_copyFrom 28 = .ok (.iaload, 1) := by decide +kernel
theorem dX1_copyFrom_29 : decode cX1_copyFrom 29 = .ok (.iastore, 1) := by decide +kernel
theorem dX1_copyFrom_30 : decode cX1_copyFrom 30 = .ok (.aload_n 0, 1) := by decide +kernel
theorem dX1_copyFrom_31 : decode cX1_copyFrom 31 = .ok (.getfield 15, 3) := by decide +kernel
theorem dX1_copyFrom_34 : decode cX1_copyFrom 34 = .ok (.iload_n 2, 1) := by decide +kernel
theorem dX1_copyFrom_35 : decode cX1_copyFrom 35 = .ok (.aload_n 1, 1) := by decide +kernel
theorem dX1_copyFrom_36 : decode cX1_copyFrom 36 = .ok (.getfield 15, 3) := by decide +kernel
theorem dX1_copyFrom_39 : decode cX1_copyFrom 39 = .ok (.iload_n 2, 1) := by decide +kernel
theorem dX1_copyFrom_40 : decode cX1_copyFrom 40 = .ok (.iaload, 1) := by decide +kernel
theorem dX1_copyFrom_41 : decode cX1_copyFrom 41 = .ok (.iastore, 1) := by decide +kernel
theorem dX1_copyFrom_42 : decode cX1_copyFrom 42 = .ok (.iinc 2 1, 3) := by decide +kernel
theorem dX1_copyFrom_45 : decode cX1_copyFrom 45 = .ok (.goto (-35), 3) := by decide +kernel
theorem dX1_copyFrom_48 : decode cX1_copyFrom 48 = .ok (.return_, 1) := by decide +kernel
theorem dX1_add_0 : decode cX1_add 0 = .ok (.aload_n 0, 1) := by decide +kernel
theorem dX1_add_1 : decode cX1_add 1 = .ok (.getfield 18, 3) := by decide +kernel
theorem dX1_add_4 : decode cX1_add 4 = .ok (.bipush 8, 2) := by decide +kernel
theorem dX1_add_6 : decode cX1_add 6 = .ok (.if_icmp .ge 33, 3) := by decide +kernel
theorem dX1_add_9 : decode cX1_add 9 = .ok (.aload_n 0, 1) := by decide +kernel
theorem dX1_add_10 : decode cX1_add 10 = .ok (.getfield 9, 3) := by decide +kernel
theorem dX1_add_13 : decode cX1_add 13 = .ok (.aload_n 0, 1) := by decide +kernel
theorem dX1_add_14 : decode cX1_add 14 = .ok (.getfield 18, 3) := by decide +kernel
theorem dX1_add_17 : decode cX1_add 17 = .ok (.iload_n 1, 1) := by decide +kernel
theorem dX1_add_18 : decode cX1_add 18 = .ok (.iastore, 1) := by decide +kernel
theorem dX1_add_19 : decode cX1_add 19 = .ok (.aload_n 0, 1) := by decide +kernel
theorem dX1_add_20 : decode cX1_add 20 = .ok (.getfield 15, 3) := by decide +kernel
theorem dX1_add_23 : decode cX1_add 23 = .ok (.aload_n 0, 1) := by decide +kernel
theorem dX1_add_24 : decode cX1_add 24 = .ok (.getfield 18, 3) := by decide +kernel
theorem dX1_add_27 : decode cX1_add 27 = .ok (.iload_n 2, 1) := by decide +kernel
theorem dX1_add_28 : decode cX1_add 28 = .ok (.iastore, 1) := by decide +kernel
theorem dX1_add_29 : decode cX1_add 29 = .ok (.aload_n 0, 1) := by decide +kernel
theorem dX1_add_30 : decode cX1_add 30 = .ok (.dup, 1) := by decide +kernel
theorem dX1_add_31 : decode cX1_add 31 = .ok (.getfield 18, 3) := by decide +kernel
theorem dX1_add_34 : decode cX1_add 34 = .ok (.iconst 1, 1) := by decide +kernel
theorem dX1_add_35 : decode cX1_add 35 = .ok (.iadd, 1) := by decide +kernel
theorem dX1_add_36 : decode cX1_add 36 = .ok (.putfield 18, 3) := by decide +kernel
theorem dX1_add_39 : decode cX1_add 39 = .ok (.return_, 1) := by decide +kernel
theorem dX1_leastWays_0 : decode cX1_leastWays 0 = .ok (.iconst 0, 1) := by decide +kernel
theorem dX1_leastWays_1 : decode cX1_leastWays 1 = .ok (.istore_n 1, 1) := by decide +kernel
theorem dX1_leastWays_2 : decode cX1_leastWays 2 = .ok (.iconst 0, 1) := by decide +kernel
theorem dX1_leastWays_3 : decode cX1_leastWays 3 = .ok (.istore_n 2, 1) := by decide +kernel
theorem dX1_leastWays_4 : decode cX1_leastWays 4 = .ok (.iload_n 2, 1) := by decide +kernel
theorem dX1_leastWays_5 : decode cX1_leastWays 5 = .ok (.aload_n 0, 1) := by decide +kernel
theorem dX1_leastWays_6 : decode cX1_leastWays 6 = .ok (.getfield 18, 3) := by decide +kernel
theorem dX1_leastWays_9 : decode cX1_leastWays 9 = .ok (.if_icmp .ge 20, 3) := by decide +kernel
theorem dX1_leastWays_12 : decode cX1_leastWays 12 = .ok (.iload_n 1, 1) := by decide +kernel
theorem dX1_leastWays_13 : decode cX1_leastWays 13 = .ok (.aload_n 0, 1) := by decide +kernel
theorem dX1_leastWays_14 : decode cX1_leastWays 14 = .ok (.getfield 9, 3) := by decide +kernel
theorem dX1_leastWays_17 : decode cX1_leastWays 17 = .ok (.iload_n 2, 1) := by decide +kernel
theorem dX1_leastWays_18 : decode cX1_leastWays 18 = .ok (.iaload, 1) := by decide +kernel
theorem dX1_leastWays_19 : decode cX1_leastWays 19 = .ok (.invokestatic 22, 3) := by decide +kernel
theorem dX1_leastWays_22 : decode cX1_leastWays 22 = .ok (.istore_n 1, 1) := by decide +kernel
theorem dX1_leastWays_23 : decode cX1_leastWays 23 = .ok (.iinc 2 1, 3) := by decide +kernel
theorem dX1_leastWays_26 : decode cX1_leastWays 26 = .ok (.goto (-22), 3) := by decide +kernel
theorem dX1_leastWays_29 : decode cX1_leastWays 29 = .ok (.iload_n 1, 1) := by decide +kernel
theorem dX1_leastWays_30 : decode cX1_leastWays 30 = .ok (.ireturn, 1) := by decide +kernel
theorem dX1_mostWays_0 : decode cX1_mostWays 0 = .ok (.bipush 122, 2) := by decide +kernel
theorem dX1_mostWays_2 : decode cX1_mostWays 2 = .ok (.istore_n 1, 1) := by decide +kernel
theorem dX1_mostWays_3 : decode cX1_mostWays 3 = .ok (.iconst 0, 1) := by decide +kernel
theorem dX1_mostWays_4 : decode cX1_mostWays 4 = .ok (.istore_n 2, 1) := by decide +kernel
theorem dX1_mostWays_5 : decode cX1_mostWays 5 = .ok (.iload_n 2, 1) := by decide +kernel
theorem dX1_mostWays_6 : decode cX1_mostWays 6 = .ok (.aload_n 0, 1) := by decide +kernel
theorem dX1_mostWays_7 : decode cX1_mostWays 7 = .ok (.getfield 18, 3) := by decide +kernel
theorem dX1_mostWays_10 : decode cX1_mostWays 10 = .ok (.if_icmp .ge 20, 3) := by decide +kernel
theorem dX1_mostWays_13 : decode cX1_mostWays 13 = .ok (.iload_n 1, 1) := by decide +kernel
theorem dX1_mostWays_14 : decode cX1_mostWays 14 = .ok (.aload_n 0, 1) := by decide +kernel
theorem dX1_mostWays_15 : decode cX1_mostWays 15 = .ok (.getfield 15, 3) := by decide +kernel
theorem dX1_mostWays_18 : decode cX1_mostWays 18 = .ok (.iload_n 2, 1) := by decide +kernel
theorem dX1_mostWays_19 : decode cX1_mostWays 19 = .ok (.iaload, 1) := by decide +kernel
theorem dX1_mostWays_20 : decode cX1_mostWays 20 = .ok (.invokestatic 28, 3) := by decide +kernel
theorem dX1_mostWays_23 : decode cX1_mostWays 23 = .ok (.istore_n 1, 1) := by decide +kernel
theorem dX1_mostWays_24 : decode cX1_mostWays 24 = .ok (.iinc 2 1, 3) := by decide +kernel
theorem dX1_mostWays_27 : decode cX1_mostWays 27 = .ok (.goto (-22), 3) := by decide +kernel
theorem dX1_mostWays_30 : decode cX1_mostWays 30 = .ok (.iload_n 1, 1) := by decide +kernel
theorem dX1_mostWays_31 : decode cX1_mostWays 31 = .ok (.ireturn, 1) := by decide +kernel
theorem dX2_init_0 : decode cX2_init 0 = .ok (.aload_n 0, 1) := by decide +kernel
theorem dX2_init_1 : decode cX2_init 1 = .ok (.invokespecial 3, 3) := by decide +kernel
theorem dX2_init_4 : decode cX2_init 4 = .ok (.aload_n 0, 1) := by decide +kernel
theorem dX2_init_5 : decode cX2_init 5 = .ok (.iload_n 1, 1) := by decide +kernel
theorem dX2_init_6 : decode cX2_init 6 = .ok (.newarray .int, 2) := by decide +kernel
theorem dX2_init_8 : decode cX2_init 8 = .ok (.putfield 9, 3) := by decide +kernel
theorem dX2_init_11 : decode cX2_init 11 = .ok (.aload_n 0, 1) := by decide +kernel
theorem dX2_init_12 : decode cX2_init 12 = .ok (.iload_n 1, 1) := by decide +kernel
theorem dX2_init_13 : decode cX2_init 13 = .ok (.newarray .int, 2) := by decide +kernel
theorem dX2_init_15 : decode cX2_init 15 = .ok (.putfield 15, 3) := by decide +kernel
theorem dX2_init_18 : decode cX2_init 18 = .ok (.aload_n 0, 1) := by decide +kernel
theorem dX2_init_19 : decode cX2_init 19 = .ok (.iload_n 1, 1) := by decide +kernel
theorem dX2_init_20 : decode cX2_init 20 = .ok (.newarray .int, 2) := by decide +kernel
theorem dX2_init_22 : decode cX2_init 22 = .ok (.putfield 18, 3) := by decide +kernel
theorem dX2_init_25 : decode cX2_init 25 = .ok (.aload_n 0, 1) := by decide +kernel
theorem dX2_init_26 : decode cX2_init 26 = .ok (.iload_n 1, 1) := by decide +kernel
theorem dX2_init_27 : decode cX2_init 27 = .ok (.newarray .int, 2) := by decide +kernel
theorem dX2_init_29 : decode cX2_init 29 = .ok (.putfield 21, 3) := by decide +kernel
theorem dX2_init_32 : decode cX2_init 32 = .ok (.aload_n 0, 1) := by decide +kernel
theorem dX2_init_33 : decode cX2_init 33 = .ok (.iload_n 1, 1) := by decide +kernel
theorem dX2_init_34 : decode cX2_init 34 = .ok (.newarray .int, 2) := by decide +kernel
theorem dX2_init_36 : decode cX2_init 36 = .ok (.putfield 24, 3) := by decide +kernel
theorem dX2_init_39 : decode cX2_init 39 = .ok (.aload_n 0, 1) := by decide +kernel
theorem dX2_init_40 : decode cX2_init 40 = .ok (.iload_n 2, 1) := by decide +kernel
theorem dX2_init_41 : decode cX2_init 41 = .ok (.newarray .int, 2) := by decide +kernel
theorem dX2_init_43 : decode cX2_init 43 = .ok (.putfield 27, 3) := by decide +kernel
theorem dX2_init_46 : decode cX2_init 46 = .ok (.aload_n 0, 1) := by decide +kernel
theorem dX2_init_47 : decode cX2_init 47 = .ok (.iload_n 2, 1) := by decide +kernel
theorem dX2_init_48 : decode cX2_init 48 = .ok (.newarray .int, 2) := by decide +kernel
theorem dX2_init_50 : decode cX2_init 50 = .ok (.putfield 30, 3) := by decide +kernel
theorem dX2_init_53 : decode cX2_init 53 = .ok (.aload_n 0, 1) := by decide +kernel
theorem dX2_init_54 : decode cX2_init 54 = .ok (.iload_n 2, 1) := by decide +kernel
theorem dX2_init_55 : decode cX2_init 55 = .ok (.newarray .int, 2) := by decide +kernel
theorem dX2_init_57 : decode cX2_init 57 = .ok (.putfield 33, 3) := by decide +kernel
theorem dX2_init_60 : decode cX2_init 60 = .ok (.return_, 1) := by decide +kernel
theorem dX2_copyFrom_0 : decode cX2_copyFrom 0 = .ok (.iconst 0, 1) := by decide +kernel
theorem dX2_copyFrom_1 : decode cX2_copyFrom 1 = .ok (.istore_n 3, 1) := by decide +kernel
theorem dX2_copyFrom_2 : decode cX2_copyFrom 2 = .ok (.iload_n 3, 1) := by decide +kernel
theorem dX2_copyFrom_3 : decode cX2_copyFrom 3 = .ok (.aload_n 2, 1) := by decide +kernel
theorem dX2_copyFrom_4 : decode cX2_copyFrom 4 = .ok (.getfield 36, 3) := by decide +kernel
theorem dX2_copyFrom_7 : decode cX2_copyFrom 7 = .ok (.if_icmp .ge 69, 3) := by decide +kernel
theorem dX2_copyFrom_10 : decode cX2_copyFrom 10 = .ok (.aload_n 0, 1) := by decide +kernel
theorem dX2_copyFrom_11 : decode cX2_copyFrom 11 = .ok (.getfield 9, 3) := by decide +kernel
theorem dX2_copyFrom_14 : decode cX2_copyFrom 14 = .ok (.iload_n 3, 1) := by decide +kernel
theorem dX2_copyFrom_15 : decode cX2_copyFrom 15 = .ok (.aload_n 1, 1) := by decide +kernel
theorem dX2_copyFrom_16 : decode cX2_copyFrom 16 = .ok (.getfield 9, 3) := by decide +kernel
theorem dX2_copyFrom_19 : decode cX2_copyFrom 19 = .ok (.iload_n 3, 1) := by decide +kernel
theorem dX2_copyFrom_20 : decode cX2_copyFrom 20 = .ok (.iaload, 1) := by decide +kernel
theorem dX2_copyFrom_21 : decode cX2_copyFrom 21 = .ok (.iastore, 1) := by decide +kernel
theorem dX2_copyFrom_22 : decode cX2_copyFrom 22 = .ok (.aload_n 0, 1) := by decide +kernel
theorem dX2_copyFrom_23 : decode cX2_copyFrom 23 = .ok (.getfield 15, 3) := by decide +kernel
theorem dX2_copyFrom_26 : decode cX2_copyFrom 26 = .ok (.iload_n 3, 1) := by decide +kernel
theorem dX2_copyFrom_27 : decode cX2_copyFrom 27 = .ok (.aload_n 1, 1) := by decide +kernel
theorem dX2_copyFrom_28 : decode cX2_copyFrom 28 = .ok (.getfield 15, 3) := by decide +kernel
theorem dX2_copyFrom_31 : decode cX2_copyFrom 31 = .ok (.iload_n 3, 1) := by decide +kernel
theorem dX2_copyFrom_32 : decode cX2_copyFrom 32 = .ok (.iaload, 1) := by decide +kernel
theorem dX2_copyFrom_33 : decode cX2_copyFrom 33 = .ok (.iastore, 1) := by decide +kernel
theorem dX2_copyFrom_34 : decode cX2_copyFrom 34 = .ok (.aload_n 0, 1) := by decide +kernel
theorem dX2_copyFrom_35 : decode cX2_copyFrom 35 = .ok (.getfield 18, 3) := by decide +kernel
theorem dX2_copyFrom_38 : decode cX2_copyFrom 38 = .ok (.iload_n 3, 1) := by decide +kernel
theorem dX2_copyFrom_39 : decode cX2_copyFrom 39 = .ok (.aload_n 1, 1) := by decide +kernel
theorem dX2_copyFrom_40 : decode cX2_copyFrom 40 = .ok (.getfield 18, 3) := by decide +kernel
theorem dX2_copyFrom_43 : decode cX2_copyFrom 43 = .ok (.iload_n 3, 1) := by decide +kernel
theorem dX2_copyFrom_44 : decode cX2_copyFrom 44 = .ok (.iaload, 1) := by decide +kernel
theorem dX2_copyFrom_45 : decode cX2_copyFrom 45 = .ok (.iastore, 1) := by decide +kernel
theorem dX2_copyFrom_46 : decode cX2_copyFrom 46 = .ok (.aload_n 0, 1) := by decide +kernel
theorem dX2_copyFrom_47 : decode cX2_copyFrom 47 = .ok (.getfield 21, 3) := by decide +kernel
theorem dX2_copyFrom_50 : decode cX2_copyFrom 50 = .ok (.iload_n 3, 1) := by decide +kernel
theorem dX2_copyFrom_51 : decode cX2_copyFrom 51 = .ok (.aload_n 1, 1) := by decide +kernel
theorem dX2_copyFrom_52 : decode cX2_copyFrom 52 = .ok (.getfield 21, 3) := by decide +kernel
theorem dX2_copyFrom_55 : decode cX2_copyFrom 55 = .ok (.iload_n 3, 1) := by decide +kernel
theorem dX2_copyFrom_56 : decode cX2_copyFrom 56 = .ok (.iaload, 1) := by decide +kernel
theorem dX2_copyFrom_57 : decode cX2_copyFrom 57 = .ok (.iastore, 1) := by decide +kernel
theorem dX2_copyFrom_58 : decode cX2_copyFrom 58 = .ok (.aload_n 0, 1) := by decide +kernel
theorem dX2_copyFrom_59 : decode cX2_copyFrom 59 = .ok (.getfield 24, 3) := by decide +kernel
theorem dX2_copyFrom_62 : decode cX2_copyFrom 62 = .ok (.iload_n 3, 1) := by decide +kernel
theorem dX2_copyFrom_63 : decode cX2_copyFrom 63 = .ok (.aload_n 1, 1) := by decide +kernel
theorem dX2_copyFrom_64 : decode cX2_copyFrom 64 = .ok (.getfield 24, 3) := by decide +kernel
theorem dX2_copyFrom_67 : decode cX2_copyFrom 67 = .ok (.iload_n 3, 1) := by decide +kernel
theorem dX2_copyFrom_68 : decode cX2_copyFrom 68 = .ok (.iaload, 1) := by decide +kernel
theorem dX2_copyFrom_69 : decode cX2_copyFrom 69 = .ok (.iastore, 1) := by decide +kernel
theorem dX2_copyFrom_70 : decode cX2_copyFrom 70 = .ok (.iinc 3 1, 3) := by decide +kernel
theorem dX2_copyFrom_73 : decode cX2_copyFrom 73 = .ok (.goto (-71), 3) := by decide +kernel
theorem dX2_copyFrom_76 : decode cX2_copyFrom 76 = .ok (.iconst 0, 1) := by decide +kernel
theorem dX2_copyFrom_77 : decode cX2_copyFrom 77 = .ok (.istore_n 3, 1) := by decide +kernel
theorem dX2_copyFrom_78 : decode cX2_copyFrom 78 = .ok (.iload_n 3, 1) := by decide +kernel
theorem dX2_copyFrom_79 : decode cX2_copyFrom 79 = .ok (.aload_n 2, 1) := by decide +kernel
theorem dX2_copyFrom_80 : decode cX2_copyFrom 80 = .ok (.getfield 42, 3) := by decide +kernel
theorem dX2_copyFrom_83 : decode cX2_copyFrom 83 = .ok (.if_icmp .ge 45, 3) := by decide +kernel
theorem dX2_copyFrom_86 : decode cX2_copyFrom 86 = .ok (.aload_n 0, 1) := by decide +kernel
theorem dX2_copyFrom_87 : decode cX2_copyFrom 87 = .ok (.getfield 27, 3) := by decide +kernel
theorem dX2_copyFrom_90 : decode cX2_copyFrom 90 = .ok (.iload_n 3, 1) := by decide +kernel
theorem dX2_copyFrom_91 : decode cX2_copyFrom 91 = .ok (.aload_n 1, 1) := by decide +kernel
theorem dX2_copyFrom_92 : decode cX2_copyFrom 92 = .ok (.getfield 27, 3) := by decide +kernel
theorem dX2_copyFrom_95 : decode cX2_copyFrom 95 = .ok (.iload_n 3, 1) := by decide +kernel
theorem dX2_copyFrom_96 : decode cX2_copyFrom 96 = .ok (.iaload, 1) := by decide +kernel
theorem dX2_copyFrom_97 : decode cX2_copyFrom 97 = .ok (.iastore, 1) := by decide +kernel
theorem dX2_copyFrom_98 : decode cX2_copyFrom 98 = .ok (.aload_n 0, 1) := by decide +kernel
theorem dX2_copyFrom_99 : decode cX2_copyFrom 99 = .ok (.getfield 30, 3) := by decide +kernel
theorem dX2_copyFrom_102 : decode cX2_copyFrom 102 = .ok (.iload_n 3, 1) := by decide +kernel
theorem dX2_copyFrom_103 : decode cX2_copyFrom 103 = .ok (.aload_n 1, 1) := by decide +kernel
theorem dX2_copyFrom_104 : decode cX2_copyFrom 104 = .ok (.getfield 30, 3) := by decide +kernel
theorem dX2_copyFrom_107 : decode cX2_copyFrom 107 = .ok (.iload_n 3, 1) := by decide +kernel
theorem dX2_copyFrom_108 : decode cX2_copyFrom 108 = .ok (.iaload, 1) := by decide +kernel
theorem dX2_copyFrom_109 : decode cX2_copyFrom 109 = .ok (.iastore, 1) := by decide +kernel
theorem dX2_copyFrom_110 : decode cX2_copyFrom 110 = .ok (.aload_n 0, 1) := by decide +kernel
theorem dX2_copyFrom_111 : decode cX2_copyFrom 111 = .ok (.getfield 33, 3) := by decide +kernel
theorem dX2_copyFrom_114 : decode cX2_copyFrom 114 = .ok (.iload_n 3, 1) := by decide +kernel
theorem dX2_copyFrom_115 : decode cX2_copyFrom 115 = .ok (.aload_n 1, 1) := by decide +kernel
theorem dX2_copyFrom_116 : decode cX2_copyFrom 116 = .ok (.getfield 33, 3) := by decide +kernel
theorem dX2_copyFrom_119 : decode cX2_copyFrom 119 = .ok (.iload_n 3, 1) := by decide +kernel
theorem dX2_copyFrom_120 : decode cX2_copyFrom 120 = .ok (.iaload, 1) := by decide +kernel
theorem dX2_copyFrom_121 : decode cX2_copyFrom 121 = .ok (.iastore, 1) := by decide +kernel
theorem dX2_copyFrom_122 : decode cX2_copyFrom 122 = .ok (.iinc 3 1, 3) := by decide +kernel
theorem dX2_copyFrom_125 : decode cX2_copyFrom 125 = .ok (.goto (-47), 3) := by decide +kernel
theorem dX2_copyFrom_128 : decode cX2_copyFrom 128 = .ok (.return_, 1) := by decide +kernel
theorem dX2_isFull_0 : decode cX2_isFull 0 = .ok (.aload_n 0, 1) := by decide +kernel
theorem dX2_isFull_1 : decode cX2_isFull 1 = .ok (.getfield 21, 3) := by decide +kernel
theorem dX2_isFull_4 : decode cX2_isFull 4 = .ok (.arraylength, 1) := by decide +kernel
theorem dX2_isFull_5 : decode cX2_isFull 5 = .ok (.ifCond .le 16, 3) := by decide +kernel
theorem dX2_isFull_8 : decode cX2_isFull 8 = .ok (.iload_n 1, 1) := by decide +kernel
theorem dX2_isFull_9 : decode cX2_isFull 9 = .ok (.aload_n 0, 1) := by decide +kernel
theorem dX2_isFull_10 : decode cX2_isFull 10 = .ok (.getfield 21, 3) := by decide +kernel
theorem dX2_isFull_13 : decode cX2_isFull 13 = .ok (.arraylength, 1) := by decide +kernel
theorem dX2_isFull_14 : decode cX2_isFull 14 = .ok (.if_icmp .lt 7, 3) := by decide +kernel
theorem dX2_isFull_17 : decode cX2_isFull 17 = .ok (.iconst 1, 1) := by decide +kernel
theorem dX2_isFull_18 : decode cX2_isFull 18 = .ok (.goto 4, 3) := by decide +kernel
theorem dX2_isFull_21 : decode cX2_isFull 21 = .ok (.iconst 0, 1) := by decide +kernel
theorem dX2_isFull_22 : decode cX2_isFull 22 = .ok (.ireturn, 1) := by decide +kernel
theorem dX2_hasRow_0 : decode cX2_hasRow 0 = .ok (.iconst 0, 1) := by decide +kernel
theorem dX2_hasRow_1 : decode cX2_hasRow 1 = .ok (.iload_n 1, 1) := by decide +kernel
theorem dX2_hasRow_2 : decode cX2_hasRow 2 = .ok (.if_icmp .gt 16, 3) := by decide +kernel
theorem dX2_hasRow_5 : decode cX2_hasRow 5 = .ok (.iload_n 1, 1) := by decide +kernel
theorem dX2_hasRow_6 : decode cX2_hasRow 6 = .ok (.aload_n 0, 1) := by decide +kernel
theorem dX2_hasRow_7 : decode cX2_hasRow 7 = .ok (.getfield 21, 3) := by decide +kernel
theorem dX2_hasRow_10 : decode cX2_hasRow 10 = .ok (.arraylength, 1) := by decide +kernel
theorem dX2_hasRow_11 : decode cX2_hasRow 11 = .ok (.if_icmp .ge 7, 3) := by decide +kernel
theorem dX2_hasRow_14 : decode cX2_hasRow 14 = .ok (.iconst 1, 1) := by decide +kernel
theorem dX2_hasRow_15 : decode cX2_hasRow 15 = .ok (.goto 4, 3) := by decide +kernel
theorem dX2_hasRow_18 : decode cX2_hasRow 18 = .ok (.iconst 0, 1) := by decide +kernel
theorem dX2_hasRow_19 : decode cX2_hasRow 19 = .ok (.ireturn, 1) := by decide +kernel
theorem dX2_openTurn_0 : decode cX2_openTurn 0 = .ok (.aload_n 0, 1) := by decide +kernel
theorem dX2_openTurn_1 : decode cX2_openTurn 1 = .ok (.iload_n 1, 1) := by decide +kernel
theorem dX2_openTurn_2 : decode cX2_openTurn 2 = .ok (.invokevirtual 45, 3) := by decide +kernel
theorem dX2_openTurn_5 : decode cX2_openTurn 5 = .ok (.ifCond .eq 39, 3) := by decide +kernel
theorem dX2_openTurn_8 : decode cX2_openTurn 8 = .ok (.aload_n 0, 1) := by decide +kernel
theorem dX2_openTurn_9 : decode cX2_openTurn 9 = .ok (.getfield 9, 3) := by decide +kernel
theorem dX2_openTurn_12 : decode cX2_openTurn 12 = .ok (.iload_n 1, 1) := by decide +kernel
theorem dX2_openTurn_13 : decode cX2_openTurn 13 = .ok (.iload_n 2, 1) := by decide +kernel
theorem dX2_openTurn_14 : decode cX2_openTurn 14 = .ok (.iastore, 1) := by decide +kernel
theorem dX2_openTurn_15 : decode cX2_openTurn 15 = .ok (.aload_n 0, 1) := by decide +kernel
theorem dX2_openTurn_16 : decode cX2_openTurn 16 = .ok (.getfield 15, 3) := by decide +kernel
theorem dX2_openTurn_19 : decode cX2_openTurn 19 = .ok (.iload_n 1, 1) := by decide +kernel
theorem dX2_openTurn_20 : decode cX2_openTurn 20 = .ok (.iload_n 3, 1) := by decide +kernel
theorem dX2_openTurn_21 : decode cX2_openTurn 21 = .ok (.iastore, 1) := by decide +kernel
theorem dX2_openTurn_22 : decode cX2_openTurn 22 = .ok (.aload_n 0, 1) := by decide +kernel
theorem dX2_openTurn_23 : decode cX2_openTurn 23 = .ok (.getfield 18, 3) := by decide +kernel
theorem dX2_openTurn_26 : decode cX2_openTurn 26 = .ok (.iload_n 1, 1) := by decide +kernel
theorem dX2_openTurn_27 : decode cX2_openTurn 27 = .ok (.iload 4, 2) := by decide +kernel
theorem dX2_openTurn_29 : decode cX2_openTurn 29 = .ok (.iastore, 1) := by decide +kernel
theorem dX2_openTurn_30 : decode cX2_openTurn 30 = .ok (.aload_n 0, 1) := by decide +kernel
theorem dX2_openTurn_31 : decode cX2_openTurn 31 = .ok (.getfield 21, 3) := by decide +kernel
theorem dX2_openTurn_34 : decode cX2_openTurn 34 = .ok (.iload_n 1, 1) := by decide +kernel
theorem dX2_openTurn_35 : decode cX2_openTurn 35 = .ok (.iconst (-1), 1) := by decide +kernel
theorem dX2_openTurn_36 : decode cX2_openTurn 36 = .ok (.iastore, 1) := by decide +kernel
theorem dX2_openTurn_37 : decode cX2_openTurn 37 = .ok (.aload_n 0, 1) := by decide +kernel
theorem dX2_openTurn_38 : decode cX2_openTurn 38 = .ok (.getfield 24, 3) := by decide +kernel
theorem dX2_openTurn_41 : decode cX2_openTurn 41 = .ok (.iload_n 1, 1) := by decide +kernel
theorem dX2_openTurn_42 : decode cX2_openTurn 42 = .ok (.iconst 0, 1) := by decide +kernel
theorem dX2_openTurn_43 : decode cX2_openTurn 43 = .ok (.iastore, 1) := by decide +kernel
theorem dX2_openTurn_44 : decode cX2_openTurn 44 = .ok (.return_, 1) := by decide +kernel
theorem dX2_closeTurn_0 : decode cX2_closeTurn 0 = .ok (.aload_n 0, 1) := by decide +kernel
theorem dX2_closeTurn_1 : decode cX2_closeTurn 1 = .ok (.iload_n 1, 1) := by decide +kernel
theorem dX2_closeTurn_2 : decode cX2_closeTurn 2 = .ok (.invokevirtual 45, 3) := by decide +kernel
theorem dX2_closeTurn_5 : decode cX2_closeTurn 5 = .ok (.ifCond .eq 17, 3) := by decide +kernel
theorem dX2_closeTurn_8 : decode cX2_closeTurn 8 = .ok (.aload_n 0, 1) := by decide +kernel
theorem dX2_closeTurn_9 : decode cX2_closeTurn 9 = .ok (.getfield 21, 3) := by decide +kernel
theorem dX2_closeTurn_12 : decode cX2_closeTurn 12 = .ok (.iload_n 1, 1) := by decide +kernel
theorem dX2_closeTurn_13 : decode cX2_closeTurn 13 = .ok (.iload_n 2, 1) := by decide +kernel
theorem dX2_closeTurn_14 : decode cX2_closeTurn 14 = .ok (.iastore, 1) := by decide +kernel
theorem dX2_closeTurn_15 : decode cX2_closeTurn 15 = .ok (.aload_n 0, 1) := by decide +kernel
theorem dX2_closeTurn_16 : decode cX2_closeTurn 16 = .ok (.getfield 24, 3) := by decide +kernel
theorem dX2_closeTurn_19 : decode cX2_closeTurn 19 = .ok (.iload_n 1, 1) := by decide +kernel
theorem dX2_closeTurn_20 : decode cX2_closeTurn 20 = .ok (.iload_n 3, 1) := by decide +kernel
theorem dX2_closeTurn_21 : decode cX2_closeTurn 21 = .ok (.iastore, 1) := by decide +kernel
theorem dX2_closeTurn_22 : decode cX2_closeTurn 22 = .ok (.return_, 1) := by decide +kernel
theorem dX2_reopen_0 : decode cX2_reopen 0 = .ok (.aload_n 0, 1) := by decide +kernel
theorem dX2_reopen_1 : decode cX2_reopen 1 = .ok (.iload_n 1, 1) := by decide +kernel
theorem dX2_reopen_2 : decode cX2_reopen 2 = .ok (.iconst (-1), 1) := by decide +kernel
theorem dX2_reopen_3 : decode cX2_reopen 3 = .ok (.iconst 0, 1) := by decide +kernel
theorem dX2_reopen_4 : decode cX2_reopen 4 = .ok (.invokevirtual 49, 3) := by decide +kernel
theorem dX2_reopen_7 : decode cX2_reopen 7 = .ok (.return_, 1) := by decide +kernel
theorem dX2_turnNumber_0 : decode cX2_turnNumber 0 = .ok (.iload_n 2, 1) := by decide +kernel
theorem dX2_turnNumber_1 : decode cX2_turnNumber 1 = .ok (.tableswitch 70 0 4 #[35, 42, 49, 56, 63], 35) := by decide +kernel
theorem dX2_turnNumber_36 : decode cX2_turnNumber 36 = .ok (.aload_n 0, 1) := by decide +kernel
theorem dX2_turnNumber_37 : decode cX2_turnNumber 37 = .ok (.getfield 9, 3) := by decide +kernel
theorem dX2_turnNumber_40 : decode cX2_turnNumber 40 = .ok (.iload_n 1, 1) := by decide +kernel
theorem dX2_turnNumber_41 : decode cX2_turnNumber 41 = .ok (.iaload, 1) := by decide +kernel
theorem dX2_turnNumber_42 : decode cX2_turnNumber 42 = .ok (.ireturn, 1) := by decide +kernel
theorem dX2_turnNumber_43 : decode cX2_turnNumber 43 = .ok (.aload_n 0, 1) := by decide +kernel
theorem dX2_turnNumber_44 : decode cX2_turnNumber 44 = .ok (.getfield 15, 3) := by decide +kernel
theorem dX2_turnNumber_47 : decode cX2_turnNumber 47 = .ok (.iload_n 1, 1) := by decide +kernel
theorem dX2_turnNumber_48 : decode cX2_turnNumber 48 = .ok (.iaload, 1) := by decide +kernel
theorem dX2_turnNumber_49 : decode cX2_turnNumber 49 = .ok (.ireturn, 1) := by decide +kernel
theorem dX2_turnNumber_50 : decode cX2_turnNumber 50 = .ok (.aload_n 0, 1) := by decide +kernel
theorem dX2_turnNumber_51 : decode cX2_turnNumber 51 = .ok (.getfield 18, 3) := by decide +kernel
theorem dX2_turnNumber_54 : decode cX2_turnNumber 54 = .ok (.iload_n 1, 1) := by decide +kernel
theorem dX2_turnNumber_55 : decode cX2_turnNumber 55 = .ok (.iaload, 1) := by decide +kernel
theorem dX2_turnNumber_56 : decode cX2_turnNumber 56 = .ok (.ireturn, 1) := by decide +kernel
theorem dX2_turnNumber_57 : decode cX2_turnNumber 57 = .ok (.aload_n 0, 1) := by decide +kernel
theorem dX2_turnNumber_58 : decode cX2_turnNumber 58 = .ok (.getfield 21, 3) := by decide +kernel
theorem dX2_turnNumber_61 : decode cX2_turnNumber 61 = .ok (.iload_n 1, 1) := by decide +kernel
theorem dX2_turnNumber_62 : decode cX2_turnNumber 62 = .ok (.iaload, 1) := by decide +kernel
theorem dX2_turnNumber_63 : decode cX2_turnNumber 63 = .ok (.ireturn, 1) := by decide +kernel
theorem dX2_turnNumber_64 : decode cX2_turnNumber 64 = .ok (.aload_n 0, 1) := by decide +kernel
theorem dX2_turnNumber_65 : decode cX2_turnNumber 65 = .ok (.getfield 24, 3) := by decide +kernel
theorem dX2_turnNumber_68 : decode cX2_turnNumber 68 = .ok (.iload_n 1, 1) := by decide +kernel
theorem dX2_turnNumber_69 : decode cX2_turnNumber 69 = .ok (.iaload, 1) := by decide +kernel
theorem dX2_turnNumber_70 : decode cX2_turnNumber 70 = .ok (.ireturn, 1) := by decide +kernel
theorem dX2_turnNumber_71 : decode cX2_turnNumber 71 = .ok (.bipush (-2), 2) := by decide +kernel
theorem dX2_turnNumber_73 : decode cX2_turnNumber 73 = .ok (.ireturn, 1) := by decide +kernel
theorem dX2_yesNumber_0 : decode cX2_yesNumber 0 = .ok (.iload_n 2, 1) := by decide +kernel
theorem dX2_yesNumber_1 : decode cX2_yesNumber 1 = .ok (.tableswitch 48 0 2 #[27, 34, 41], 27) := by decide +kernel
theorem dX2_yesNumber_28 : decode cX2_yesNumber 28 = .ok (.aload_n 0, 1) := by decide +kernel
theorem dX2_yesNumber_29 : decode cX2_yesNumber 29 = .ok (.getfield 27, 3) := by decide +kernel
theorem dX2_yesNumber_32 : decode cX2_yesNumber 32 = .ok (.iload_n 1, 1) := by decide +kernel
theorem dX2_yesNumber_33 : decode cX2_yesNumber 33 = .ok (.iaload, 1) := by decide +kernel
theorem dX2_yesNumber_34 : decode cX2_yesNumber 34 = .ok (.ireturn, 1) := by decide +kernel
theorem dX2_yesNumber_35 : decode cX2_yesNumber 35 = .ok (.aload_n 0, 1) := by decide +kernel
theorem dX2_yesNumber_36 : decode cX2_yesNumber 36 = .ok (.getfield 30, 3) := by decide +kernel
theorem dX2_yesNumber_39 : decode cX2_yesNumber 39 = .ok (.iload_n 1, 1) := by decide +kernel
theorem dX2_yesNumber_40 : decode cX2_yesNumber 40 = .ok (.iaload, 1) := by decide +kernel
theorem dX2_yesNumber_41 : decode cX2_yesNumber 41 = .ok (.ireturn, 1) := by decide +kernel
theorem dX2_yesNumber_42 : decode cX2_yesNumber 42 = .ok (.aload_n 0, 1) := by decide +kernel
theorem dX2_yesNumber_43 : decode cX2_yesNumber 43 = .ok (.getfield 33, 3) := by decide +kernel
theorem dX2_yesNumber_46 : decode cX2_yesNumber 46 = .ok (.iload_n 1, 1) := by decide +kernel
theorem dX2_yesNumber_47 : decode cX2_yesNumber 47 = .ok (.iaload, 1) := by decide +kernel
theorem dX2_yesNumber_48 : decode cX2_yesNumber 48 = .ok (.ireturn, 1) := by decide +kernel
theorem dX2_yesNumber_49 : decode cX2_yesNumber 49 = .ok (.bipush (-2), 2) := by decide +kernel
theorem dX2_yesNumber_51 : decode cX2_yesNumber 51 = .ok (.ireturn, 1) := by decide +kernel
theorem dX2_isSpokenBy_0 : decode cX2_isSpokenBy 0 = .ok (.aload_n 0, 1) := by decide +kernel
theorem dX2_isSpokenBy_1 : decode cX2_isSpokenBy 1 = .ok (.getfield 9, 3) := by decide +kernel
theorem dX2_isSpokenBy_4 : decode cX2_isSpokenBy 4 = .ok (.iload_n 1, 1) := by decide +kernel
theorem dX2_isSpokenBy_5 : decode cX2_isSpokenBy 5 = .ok (.iaload, 1) := by decide +kernel
theorem dX2_isSpokenBy_6 : decode cX2_isSpokenBy 6 = .ok (.iload_n 2, 1) := by decide +kernel
theorem dX2_isSpokenBy_7 : decode cX2_isSpokenBy 7 = .ok (.if_icmp .ne 22, 3) := by decide +kernel
theorem dX2_isSpokenBy_10 : decode cX2_isSpokenBy 10 = .ok (.aload_n 0, 1) := by decide +kernel
theorem dX2_isSpokenBy_11 : decode cX2_isSpokenBy 11 = .ok (.getfield 21, 3) := by decide +kernel
theorem dX2_isSpokenBy_14 : decode cX2_isSpokenBy 14 = .ok (.iload_n 1, 1) := by decide +kernel
theorem dX2_isSpokenBy_15 : decode cX2_isSpokenBy 15 = .ok (.iaload, 1) := by decide +kernel
theorem dX2_isSpokenBy_16 : decode cX2_isSpokenBy 16 = .ok (.aload_n 0, 1) := by decide +kernel
theorem dX2_isSpokenBy_17 : decode cX2_isSpokenBy 17 = .ok (.getfield 15, 3) := by decide +kernel
theorem dX2_isSpokenBy_20 : decode cX2_isSpokenBy 20 = .ok (.iload_n 1, 1) := by decide +kernel
theorem dX2_isSpokenBy_21 : decode cX2_isSpokenBy 21 = .ok (.iaload, 1) := by decide +kernel
theorem dX2_isSpokenBy_22 : decode cX2_isSpokenBy 22 = .ok (.if_icmp .eq 7, 3) := by decide +kernel
theorem dX2_isSpokenBy_25 : decode cX2_isSpokenBy 25 = .ok (.iconst 1, 1) := by decide +kernel
theorem dX2_isSpokenBy_26 : decode cX2_isSpokenBy 26 = .ok (.goto 4, 3) := by decide +kernel
theorem dX2_isSpokenBy_29 : decode cX2_isSpokenBy 29 = .ok (.iconst 0, 1) := by decide +kernel
theorem dX2_isSpokenBy_30 : decode cX2_isSpokenBy 30 = .ok (.ireturn, 1) := by decide +kernel
theorem dX2_addYes_0 : decode cX2_addYes 0 = .ok (.aload_n 2, 1) := by decide +kernel
theorem dX2_addYes_1 : decode cX2_addYes 1 = .ok (.getfield 42, 3) := by decide +kernel
theorem dX2_addYes_4 : decode cX2_addYes 4 = .ok (.istore_n 3, 1) := by decide +kernel
theorem dX2_addYes_5 : decode cX2_addYes 5 = .ok (.iload_n 3, 1) := by decide +kernel
theorem dX2_addYes_6 : decode cX2_addYes 6 = .ok (.aload_n 0, 1) := by decide +kernel
theorem dX2_addYes_7 : decode cX2_addYes 7 = .ok (.getfield 27, 3) := by decide +kernel
theorem dX2_addYes_10 : decode cX2_addYes 10 = .ok (.arraylength, 1) := by decide +kernel
theorem dX2_addYes_11 : decode cX2_addYes 11 = .ok (.if_icmp .lt 6, 3) := by decide +kernel
theorem dX2_addYes_14 : decode cX2_addYes 14 = .ok (.bipush (-2), 2) := by decide +kernel
theorem dX2_addYes_16 : decode cX2_addYes 16 = .ok (.ireturn, 1) := by decide +kernel
theorem dX2_addYes_17 : decode cX2_addYes 17 = .ok (.aload_n 0, 1) := by decide +kernel
theorem dX2_addYes_18 : decode cX2_addYes 18 = .ok (.getfield 27, 3) := by decide +kernel
theorem dX2_addYes_21 : decode cX2_addYes 21 = .ok (.iload_n 3, 1) := by decide +kernel
theorem dX2_addYes_22 : decode cX2_addYes 22 = .ok (.iload_n 1, 1) := by decide +kernel
theorem dX2_addYes_23 : decode cX2_addYes 23 = .ok (.iastore, 1) := by decide +kernel
theorem dX2_addYes_24 : decode cX2_addYes 24 = .ok (.aload_n 0, 1) := by decide +kernel
theorem dX2_addYes_25 : decode cX2_addYes 25 = .ok (.getfield 30, 3) := by decide +kernel
theorem dX2_addYes_28 : decode cX2_addYes 28 = .ok (.iload_n 3, 1) := by decide +kernel
theorem dX2_addYes_29 : decode cX2_addYes 29 = .ok (.aload_n 2, 1) := by decide +kernel
theorem dX2_addYes_30 : decode cX2_addYes 30 = .ok (.getfield 53, 3) := by decide +kernel
theorem dX2_addYes_33 : decode cX2_addYes 33 = .ok (.iastore, 1) := by decide +kernel
theorem dX2_addYes_34 : decode cX2_addYes 34 = .ok (.aload_n 0, 1) := by decide +kernel
theorem dX2_addYes_35 : decode cX2_addYes 35 = .ok (.getfield 33, 3) := by decide +kernel
theorem dX2_addYes_38 : decode cX2_addYes 38 = .ok (.iload_n 3, 1) := by decide +kernel
theorem dX2_addYes_39 : decode cX2_addYes 39 = .ok (.aload_n 0, 1) := by decide +kernel
theorem dX2_addYes_40 : decode cX2_addYes 40 = .ok (.iload_n 1, 1) := by decide +kernel
theorem dX2_addYes_41 : decode cX2_addYes 41 = .ok (.aload_n 2, 1) := by decide +kernel
theorem dX2_addYes_42 : decode cX2_addYes 42 = .ok (.invokevirtual 56, 3) := by decide +kernel
theorem dX2_addYes_45 : decode cX2_addYes 45 = .ok (.iastore, 1) := by decide +kernel
theorem dX2_addYes_46 : decode cX2_addYes 46 = .ok (.aload_n 2, 1) := by decide +kernel
theorem dX2_addYes_47 : decode cX2_addYes 47 = .ok (.dup, 1) := by decide +kernel
theorem dX2_addYes_48 : decode cX2_addYes 48 = .ok (.getfield 42, 3) := by decide +kernel
theorem dX2_addYes_51 : decode cX2_addYes 51 = .ok (.iconst 1, 1) := by decide +kernel
theorem dX2_addYes_52 : decode cX2_addYes 52 = .ok (.iadd, 1) := by decide +kernel
theorem dX2_addYes_53 : decode cX2_addYes 53 = .ok (.putfield 42, 3) := by decide +kernel
theorem dX2_addYes_56 : decode cX2_addYes 56 = .ok (.aload_n 0, 1) := by decide +kernel
theorem dX2_addYes_57 : decode cX2_addYes 57 = .ok (.getfield 33, 3) := by decide +kernel
theorem dX2_addYes_60 : decode cX2_addYes 60 = .ok (.iload_n 3, 1) := by decide +kernel
theorem dX2_addYes_61 : decode cX2_addYes 61 = .ok (.iaload, 1) := by decide +kernel
theorem dX2_addYes_62 : decode cX2_addYes 62 = .ok (.ireturn, 1) := by decide +kernel
theorem dX2_heardOutLast_0 : decode cX2_heardOutLast 0 = .ok (.iconst (-1), 1) := by decide +kernel
theorem dX2_heardOutLast_1 : decode cX2_heardOutLast 1 = .ok (.istore_n 3, 1) := by decide +kernel
theorem dX2_heardOutLast_2 : decode cX2_heardOutLast 2 = .ok (.iconst (-1), 1) := by decide +kernel
theorem dX2_heardOutLast_3 : decode cX2_heardOutLast 3 = .ok (.istore 4, 2) := by decide +kernel
theorem dX2_heardOutLast_5 : decode cX2_heardOutLast 5 = .ok (.iconst 0, 1) := by decide +kernel
theorem dX2_heardOutLast_6 : decode cX2_heardOutLast 6 = .ok (.istore 5, 2) := by decide +kernel
theorem dX2_heardOutLast_8 : decode cX2_heardOutLast 8 = .ok (.iload 5, 2) := by decide +kernel
theorem dX2_heardOutLast_10 : decode cX2_heardOutLast 10 = .ok (.aload_n 2, 1) := by decide +kernel
theorem dX2_heardOutLast_11 : decode cX2_heardOutLast 11 = .ok (.getfield 36, 3) := by decide +kernel
theorem dX2_heardOutLast_14 : decode cX2_heardOutLast 14 = .ok (.if_icmp .ge 92, 3) := by decide +kernel
theorem dX2_heardOutLast_17 : decode cX2_heardOutLast 17 = .ok (.aload_n 0, 1) := by decide +kernel
theorem dX2_heardOutLast_18 : decode cX2_heardOutLast 18 = .ok (.getfield 9, 3) := by decide +kernel
theorem dX2_heardOutLast_21 : decode cX2_heardOutLast 21 = .ok (.iload 5, 2) := by decide +kernel
theorem dX2_heardOutLast_23 : decode cX2_heardOutLast 23 = .ok (.iaload, 1) := by decide +kernel
theorem dX2_heardOutLast_24 : decode cX2_heardOutLast 24 = .ok (.iload_n 1, 1) := by decide +kernel
theorem dX2_heardOutLast_25 : decode cX2_heardOutLast 25 = .ok (.if_icmp .eq 75, 3) := by decide +kernel
theorem dX2_heardOutLast_28 : decode cX2_heardOutLast 28 = .ok (.aload_n 0, 1) := by decide +kernel
theorem dX2_heardOutLast_29 : decode cX2_heardOutLast 29 = .ok (.iload 5, 2) := by decide +kernel
theorem dX2_heardOutLast_31 : decode cX2_heardOutLast 31 = .ok (.aload_n 0, 1) := by decide +kernel
theorem dX2_heardOutLast_32 : decode cX2_heardOutLast 32 = .ok (.getfield 9, 3) := by decide +kernel
theorem dX2_heardOutLast_35 : decode cX2_heardOutLast 35 = .ok (.iload 5, 2) := by decide +kernel
theorem dX2_heardOutLast_37 : decode cX2_heardOutLast 37 = .ok (.iaload, 1) := by decide +kernel
theorem dX2_heardOutLast_38 : decode cX2_heardOutLast 38 = .ok (.invokevirtual 60, 3) := by decide +kernel
theorem dX2_heardOutLast_41 : decode cX2_heardOutLast 41 = .ok (.ifCond .eq 59, 3) := by decide +kernel
theorem dX2_heardOutLast_44 : decode cX2_heardOutLast 44 = .ok (.aload_n 0, 1) := by decide +kernel
theorem dX2_heardOutLast_45 : decode cX2_heardOutLast 45 = .ok (.getfield 21, 3) := by decide +kernel
theorem dX2_heardOutLast_48 : decode cX2_heardOutLast 48 = .ok (.iload 5, 2) := by decide +kernel
theorem dX2_heardOutLast_50 : decode cX2_heardOutLast 50 = .ok (.iaload, 1) := by decide +kernel
theorem dX2_heardOutLast_51 : decode cX2_heardOutLast 51 = .ok (.iconst (-1), 1) := by decide +kernel
theorem dX2_heardOutLast_52 : decode cX2_heardOutLast 52 = .ok (.if_icmp .eq 48, 3) := by decide +kernel
theorem dX2_heardOutLast_55 : decode cX2_heardOutLast 55 = .ok (.aload_n 0, 1) := by decide +kernel
theorem dX2_heardOutLast_56 : decode cX2_heardOutLast 56 = .ok (.getfield 21, 3) := by decide +kernel
theorem dX2_heardOutLast_59 : decode cX2_heardOutLast 59 = .ok (.iload 5, 2) := by decide +kernel
theorem dX2_heardOutLast_61 : decode cX2_heardOutLast 61 = .ok (.iaload, 1) := by decide +kernel
theorem dX2_heardOutLast_62 : decode cX2_heardOutLast 62 = .ok (.aload_n 2, 1) := by decide +kernel
theorem dX2_heardOutLast_63 : decode cX2_heardOutLast 63 = .ok (.aload_n 0, 1) := by decide +kernel
theorem dX2_heardOutLast_64 : decode cX2_heardOutLast 64 = .ok (.getfield 9, 3) := by decide +kernel
theorem dX2_heardOutLast_67 : decode cX2_heardOutLast 67 = .ok (.iload 5, 2) := by decide +kernel
theorem dX2_heardOutLast_69 : decode cX2_heardOutLast 69 = .ok (.iaload, 1) := by decide +kernel
theorem dX2_heardOutLast_70 : decode cX2_heardOutLast 70 = .ok (.iload_n 1, 1) := by decide +kernel
theorem dX2_heardOutLast_71 : decode cX2_heardOutLast 71 = .ok (.invokevirtual 64, 3) := by decide +kernel
theorem dX2_heardOutLast_74 : decode cX2_heardOutLast 74 = .ok (.iadd, 1) := by decide +kernel
theorem dX2_heardOutLast_75 : decode cX2_heardOutLast 75 = .ok (.istore 6, 2) := by decide +kernel
theorem dX2_heardOutLast_77 : decode cX2_heardOutLast 77 = .ok (.iload 6, 2) := by decide +kernel
theorem dX2_heardOutLast_79 : decode cX2_heardOutLast 79 = .ok (.aload_n 2, 1) := by decide +kernel
theorem dX2_heardOutLast_80 : decode cX2_heardOutLast 80 = .ok (.getfield 53, 3) := by decide +kernel
theorem dX2_heardOutLast_83 : decode cX2_heardOutLast 83 = .ok (.if_icmp .gt 17, 3) := by decide +kernel
theorem dX2_heardOutLast_86 : decode cX2_heardOutLast 86 = .ok (.iload 6, 2) := by decide +kernel
theorem dX2_heardOutLast_88 : decode cX2_heardOutLast 88 = .ok (.iload 4, 2) := by decide +kernel
theorem dX2_heardOutLast_90 : decode cX2_heardOutLast 90 = .ok (.if_icmp .le 10, 3) := by decide +kernel
theorem dX2_heardOutLast_93 : decode cX2_heardOutLast 93 = .ok (.iload 5, 2) := by decide +kernel
theorem dX2_heardOutLast_95 : decode cX2_heardOutLast 95 = .ok (.istore_n 3, 1) := by decide +kernel
theorem dX2_heardOutLast_96 : decode cX2_heardOutLast 96 = .ok (.iload 6, 2) := by decide +kernel
theorem dX2_heardOutLast_98 : decode cX2_heardOutLast 98 = .ok (.istore 4, 2) := by decide +kernel
theorem dX2_heardOutLast_100 : decode cX2_heardOutLast 100 = .ok (.iinc 5 1, 3) := by decide +kernel
theorem dX2_heardOutLast_103 : decode cX2_heardOutLast 103 = .ok (.goto (-95), 3) := by decide +kernel
theorem dX2_heardOutLast_106 : decode cX2_heardOutLast 106 = .ok (.iload_n 3, 1) := by decide +kernel
theorem dX2_heardOutLast_107 : decode cX2_heardOutLast 107 = .ok (.ireturn, 1) := by decide +kernel
theorem dX2_yesHeardIn_0 : decode cX2_yesHeardIn 0 = .ok (.aload_n 0, 1) := by decide +kernel
theorem dX2_yesHeardIn_1 : decode cX2_yesHeardIn 1 = .ok (.getfield 30, 3) := by decide +kernel
theorem dX2_yesHeardIn_4 : decode cX2_yesHeardIn 4 = .ok (.iload_n 1, 1) := by decide +kernel
theorem dX2_yesHeardIn_5 : decode cX2_yesHeardIn 5 = .ok (.iaload, 1) := by decide +kernel
theorem dX2_yesHeardIn_6 : decode cX2_yesHeardIn 6 = .ok (.aload_n 3, 1) := by decide +kernel
theorem dX2_yesHeardIn_7 : decode cX2_yesHeardIn 7 = .ok (.aload_n 0, 1) := by decide +kernel
theorem dX2_yesHeardIn_8 : decode cX2_yesHeardIn 8 = .ok (.getfield 27, 3) := by decide +kernel
theorem dX2_yesHeardIn_11 : decode cX2_yesHeardIn 11 = .ok (.iload_n 1, 1) := by decide +kernel
theorem dX2_yesHeardIn_12 : decode cX2_yesHeardIn 12 = .ok (.iaload, 1) := by decide +kernel
theorem dX2_yesHeardIn_13 : decode cX2_yesHeardIn 13 = .ok (.iload_n 2, 1) := by decide +kernel
theorem dX2_yesHeardIn_14 : decode cX2_yesHeardIn 14 = .ok (.invokevirtual 64, 3) := by decide +kernel
theorem dX2_yesHeardIn_17 : decode cX2_yesHeardIn 17 = .ok (.iadd, 1) := by decide +kernel
theorem dX2_yesHeardIn_18 : decode cX2_yesHeardIn 18 = .ok (.ireturn, 1) := by decide +kernel
theorem dX2_takenFor_0 : decode cX2_takenFor 0 = .ok (.aload_n 0, 1) := by decide +kernel
theorem dX2_takenFor_1 : decode cX2_takenFor 1 = .ok (.getfield 27, 3) := by decide +kernel
theorem dX2_takenFor_4 : decode cX2_takenFor 4 = .ok (.iload_n 1, 1) := by decide +kernel
theorem dX2_takenFor_5 : decode cX2_takenFor 5 = .ok (.iaload, 1) := by decide +kernel
theorem dX2_takenFor_6 : decode cX2_takenFor 6 = .ok (.iload_n 2, 1) := by decide +kernel
theorem dX2_takenFor_7 : decode cX2_takenFor 7 = .ok (.if_icmp .ne 5, 3) := by decide +kernel
theorem dX2_takenFor_10 : decode cX2_takenFor 10 = .ok (.iconst (-1), 1) := by decide +kernel
theorem dX2_takenFor_11 : decode cX2_takenFor 11 = .ok (.ireturn, 1) := by decide +kernel
theorem dX2_takenFor_12 : decode cX2_takenFor 12 = .ok (.aload_n 0, 1) := by decide +kernel
theorem dX2_takenFor_13 : decode cX2_takenFor 13 = .ok (.iload_n 1, 1) := by decide +kernel
theorem dX2_takenFor_14 : decode cX2_takenFor 14 = .ok (.iload_n 2, 1) := by decide +kernel
theorem dX2_takenFor_15 : decode cX2_takenFor 15 = .ok (.aload_n 3, 1) := by decide +kernel
theorem dX2_takenFor_16 : decode cX2_takenFor 16 = .ok (.invokevirtual 68, 3) := by decide +kernel
theorem dX2_takenFor_19 : decode cX2_takenFor 19 = .ok (.istore 4, 2) := by decide +kernel
theorem dX2_takenFor_21 : decode cX2_takenFor 21 = .ok (.iconst (-1), 1) := by decide +kernel
theorem dX2_takenFor_22 : decode cX2_takenFor 22 = .ok (.istore 5, 2) := by decide +kernel
theorem dX2_takenFor_24 : decode cX2_takenFor 24 = .ok (.iconst 0, 1) := by decide +kernel
theorem dX2_takenFor_25 : decode cX2_takenFor 25 = .ok (.istore 6, 2) := by decide +kernel
theorem dX2_takenFor_27 : decode cX2_takenFor 27 = .ok (.iload 6, 2) := by decide +kernel
theorem dX2_takenFor_29 : decode cX2_takenFor 29 = .ok (.aload_n 3, 1) := by decide +kernel
theorem dX2_takenFor_30 : decode cX2_takenFor 30 = .ok (.getfield 36, 3) := by decide +kernel
theorem dX2_takenFor_33 : decode cX2_takenFor 33 = .ok (.if_icmp .ge 49, 3) := by decide +kernel
theorem dX2_takenFor_36 : decode cX2_takenFor 36 = .ok (.aload_n 0, 1) := by decide +kernel
theorem dX2_takenFor_37 : decode cX2_takenFor 37 = .ok (.iload 6, 2) := by decide +kernel
theorem dX2_takenFor_39 : decode cX2_takenFor 39 = .ok (.iload_n 2, 1) := by decide +kernel
theorem dX2_takenFor_40 : decode cX2_takenFor 40 = .ok (.invokevirtual 60, 3) := by decide +kernel
theorem dX2_takenFor_43 : decode cX2_takenFor 43 = .ok (.ifCond .eq 33, 3) := by decide +kernel
theorem dX2_takenFor_46 : decode cX2_takenFor 46 = .ok (.aload_n 0, 1) := by decide +kernel
theorem dX2_takenFor_47 : decode cX2_takenFor 47 = .ok (.getfield 15, 3) := by decide +kernel
theorem dX2_takenFor_50 : decode cX2_takenFor 50 = .ok (.iload 6, 2) := by decide +kernel
theorem dX2_takenFor_52 : decode cX2_takenFor 52 = .ok (.iaload, 1) := by decide +kernel
theorem dX2_takenFor_53 : decode cX2_takenFor 53 = .ok (.aload_n 3, 1) := by decide +kernel
theorem dX2_takenFor_54 : decode cX2_takenFor 54 = .ok (.getfield 53, 3) := by decide +kernel
theorem dX2_takenFor_57 : decode cX2_takenFor 57 = .ok (.if_icmp .gt 19, 3) := by decide +kernel
theorem dX2_takenFor_60 : decode cX2_takenFor 60 = .ok (.aload_n 0, 1) := by decide +kernel
theorem dX2_takenFor_61 : decode cX2_takenFor 61 = .ok (.getfield 15, 3) := by decide +kernel
theorem dX2_takenFor_64 : decode cX2_takenFor 64 = .ok (.iload 6, 2) := by decide +kernel
theorem dX2_takenFor_66 : decode cX2_takenFor 66 = .ok (.iaload, 1) := by decide +kernel
theorem dX2_takenFor_67 : decode cX2_takenFor 67 = .ok (.iload 4, 2) := by decide +kernel
theorem dX2_takenFor_69 : decode cX2_takenFor 69 = .ok (.if_icmp .ge 7, 3) := by decide +kernel
theorem dX2_takenFor_72 : decode cX2_takenFor 72 = .ok (.iload 6, 2) := by decide +kernel
theorem dX2_takenFor_74 : decode cX2_takenFor 74 = .ok (.istore 5, 2) := by decide +kernel
theorem dX2_takenFor_76 : decode cX2_takenFor 76 = .ok (.iinc 6 1, 3) := by decide +kernel
theorem dX2_takenFor_79 : decode cX2_takenFor 79 = .ok (.goto (-52), 3) := by decide +kernel
theorem dX2_takenFor_82 : decode cX2_takenFor 82 = .ok (.iload 5, 2) := by decide +kernel
theorem dX2_takenFor_84 : decode cX2_takenFor 84 = .ok (.ireturn, 1) := by decide +kernel
theorem dX2_isMisjoined_0 : decode cX2_isMisjoined 0 = .ok (.aload_n 0, 1) := by decide +kernel
theorem dX2_isMisjoined_1 : decode cX2_isMisjoined 1 = .ok (.getfield 33, 3) := by decide +kernel
theorem dX2_isMisjoined_4 : decode cX2_isMisjoined 4 = .ok (.iload_n 1, 1) := by decide +kernel
theorem dX2_isMisjoined_5 : decode cX2_isMisjoined 5 = .ok (.iaload, 1) := by decide +kernel
theorem dX2_isMisjoined_6 : decode cX2_isMisjoined 6 = .ok (.istore_n 3, 1) := by decide +kernel
theorem dX2_isMisjoined_7 : decode cX2_isMisjoined 7 = .ok (.aload_n 0, 1) := by decide +kernel
theorem dX2_isMisjoined_8 : decode cX2_isMisjoined 8 = .ok (.iload_n 3, 1) := by decide +kernel
theorem dX2_isMisjoined_9 : decode cX2_isMisjoined 9 = .ok (.invokevirtual 45, 3) := by decide +kernel
theorem dX2_isMisjoined_12 : decode cX2_isMisjoined 12 = .ok (.ifCond .ne 5, 3) := by decide +kernel
theorem dX2_isMisjoined_15 : decode cX2_isMisjoined 15 = .ok (.iconst 0, 1) := by decide +kernel
theorem dX2_isMisjoined_16 : decode cX2_isMisjoined 16 = .ok (.ireturn, 1) := by decide +kernel
theorem dX2_isMisjoined_17 : decode cX2_isMisjoined 17 = .ok (.aload_n 0, 1) := by decide +kernel
theorem dX2_isMisjoined_18 : decode cX2_isMisjoined 18 = .ok (.getfield 9, 3) := by decide +kernel
theorem dX2_isMisjoined_21 : decode cX2_isMisjoined 21 = .ok (.iload_n 3, 1) := by decide +kernel
theorem dX2_isMisjoined_22 : decode cX2_isMisjoined 22 = .ok (.iaload, 1) := by decide +kernel
theorem dX2_isMisjoined_23 : decode cX2_isMisjoined 23 = .ok (.istore 4, 2) := by decide +kernel
theorem dX2_isMisjoined_25 : decode cX2_isMisjoined 25 = .ok (.aload_n 0, 1) := by decide +kernel
theorem dX2_isMisjoined_26 : decode cX2_isMisjoined 26 = .ok (.iload_n 1, 1) := by decide +kernel
theorem dX2_isMisjoined_27 : decode cX2_isMisjoined 27 = .ok (.iload 4, 2) := by decide +kernel
theorem dX2_isMisjoined_29 : decode cX2_isMisjoined 29 = .ok (.aload_n 2, 1) := by decide +kernel
theorem dX2_isMisjoined_30 : decode cX2_isMisjoined 30 = .ok (.invokevirtual 68, 3) := by decide +kernel
theorem dX2_isMisjoined_33 : decode cX2_isMisjoined 33 = .ok (.aload_n 2, 1) := by decide +kernel
theorem dX2_isMisjoined_34 : decode cX2_isMisjoined 34 = .ok (.getfield 53, 3) := by decide +kernel
theorem dX2_isMisjoined_37 : decode cX2_isMisjoined 37 = .ok (.if_icmp .gt 19, 3) := by decide +kernel
theorem dX2_isMisjoined_40 : decode cX2_isMisjoined 40 = .ok (.aload_n 0, 1) := by decide +kernel
theorem dX2_isMisjoined_41 : decode cX2_isMisjoined 41 = .ok (.iload_n 1, 1) := by decide +kernel
theorem dX2_isMisjoined_42 : decode cX2_isMisjoined 42 = .ok (.iload 4, 2) := by decide +kernel
theorem dX2_isMisjoined_44 : decode cX2_isMisjoined 44 = .ok (.aload_n 2, 1) := by decide +kernel
theorem dX2_isMisjoined_45 : decode cX2_isMisjoined 45 = .ok (.invokevirtual 72, 3) := by decide +kernel
theorem dX2_isMisjoined_48 : decode cX2_isMisjoined 48 = .ok (.iload_n 3, 1) := by decide +kernel
theorem dX2_isMisjoined_49 : decode cX2_isMisjoined 49 = .ok (.if_icmp .eq 7, 3) := by decide +kernel
theorem dX2_isMisjoined_52 : decode cX2_isMisjoined 52 = .ok (.iconst 1, 1) := by decide +kernel
theorem dX2_isMisjoined_53 : decode cX2_isMisjoined 53 = .ok (.goto 4, 3) := by decide +kernel
theorem dX2_isMisjoined_56 : decode cX2_isMisjoined 56 = .ok (.iconst 0, 1) := by decide +kernel
theorem dX2_isMisjoined_57 : decode cX2_isMisjoined 57 = .ok (.ireturn, 1) := by decide +kernel
theorem dX2_endedLast_0 : decode cX2_endedLast 0 = .ok (.iconst (-1), 1) := by decide +kernel
theorem dX2_endedLast_1 : decode cX2_endedLast 1 = .ok (.istore 4, 2) := by decide +kernel
theorem dX2_endedLast_3 : decode cX2_endedLast 3 = .ok (.iconst 0, 1) := by decide +kernel
theorem dX2_endedLast_4 : decode cX2_endedLast 4 = .ok (.istore 5, 2) := by decide +kernel
theorem dX2_endedLast_6 : decode cX2_endedLast 6 = .ok (.iload 5, 2) := by decide +kernel
theorem dX2_endedLast_8 : decode cX2_endedLast 8 = .ok (.aload_n 3, 1) := by decide +kernel
theorem dX2_endedLast_9 : decode cX2_endedLast 9 = .ok (.getfield 36, 3) := by decide +kernel
theorem dX2_endedLast_12 : decode cX2_endedLast 12 = .ok (.if_icmp .ge 68, 3) := by decide +kernel
theorem dX2_endedLast_15 : decode cX2_endedLast 15 = .ok (.aload_n 0, 1) := by decide +kernel
theorem dX2_endedLast_16 : decode cX2_endedLast 16 = .ok (.iload 5, 2) := by decide +kernel
theorem dX2_endedLast_18 : decode cX2_endedLast 18 = .ok (.iload_n 1, 1) := by decide +kernel
theorem dX2_endedLast_19 : decode cX2_endedLast 19 = .ok (.invokevirtual 60, 3) := by decide +kernel
theorem dX2_endedLast_22 : decode cX2_endedLast 22 = .ok (.ifCond .eq 52, 3) := by decide +kernel
theorem dX2_endedLast_25 : decode cX2_endedLast 25 = .ok (.aload_n 0, 1) := by decide +kernel
theorem dX2_endedLast_26 : decode cX2_endedLast 26 = .ok (.getfield 21, 3) := by decide +kernel
theorem dX2_endedLast_29 : decode cX2_endedLast 29 = .ok (.iload 5, 2) := by decide +kernel
theorem dX2_endedLast_31 : decode cX2_endedLast 31 = .ok (.iaload, 1) := by decide +kernel
theorem dX2_endedLast_32 : decode cX2_endedLast 32 = .ok (.iconst (-1), 1) := by decide +kernel
theorem dX2_endedLast_33 : decode cX2_endedLast 33 = .ok (.if_icmp .eq 41, 3) := by decide +kernel
theorem dX2_endedLast_36 : decode cX2_endedLast 36 = .ok (.aload_n 0, 1) := by decide +kernel
theorem dX2_endedLast_37 : decode cX2_endedLast 37 = .ok (.getfield 21, 3) := by decide +kernel
theorem dX2_endedLast_40 : decode cX2_endedLast 40 = .ok (.iload 5, 2) := by decide +kernel
theorem dX2_endedLast_42 : decode cX2_endedLast 42 = .ok (.iaload, 1) := by decide +kernel
theorem dX2_endedLast_43 : decode cX2_endedLast 43 = .ok (.iload_n 2, 1) := by decide +kernel
theorem dX2_endedLast_44 : decode cX2_endedLast 44 = .ok (.if_icmp .gt 30, 3) := by decide +kernel
theorem dX2_endedLast_47 : decode cX2_endedLast 47 = .ok (.iload 4, 2) := by decide +kernel
theorem dX2_endedLast_49 : decode cX2_endedLast 49 = .ok (.iconst (-1), 1) := by decide +kernel
theorem dX2_endedLast_50 : decode cX2_endedLast 50 = .ok (.if_icmp .eq 20, 3) := by decide +kernel
theorem dX2_endedLast_53 : decode cX2_endedLast 53 = .ok (.aload_n 0, 1) := by decide +kernel
theorem dX2_endedLast_54 : decode cX2_endedLast 54 = .ok (.getfield 21, 3) := by decide +kernel
theorem dX2_endedLast_57 : decode cX2_endedLast 57 = .ok (.iload 5, 2) := by decide +kernel
theorem dX2_endedLast_59 : decode cX2_endedLast 59 = .ok (.iaload, 1) := by decide +kernel
theorem dX2_endedLast_60 : decode cX2_endedLast 60 = .ok (.aload_n 0, 1) := by decide +kernel
theorem dX2_endedLast_61 : decode cX2_endedLast 61 = .ok (.getfield 21, 3) := by decide +kernel
theorem dX2_endedLast_64 : decode cX2_endedLast 64 = .ok (.iload 4, 2) := by decide +kernel
theorem dX2_endedLast_66 : decode cX2_endedLast 66 = .ok (.iaload, 1) := by decide +kernel
theorem dX2_endedLast_67 : decode cX2_endedLast 67 = .ok (.if_icmp .le 7, 3) := by decide +kernel
theorem dX2_endedLast_70 : decode cX2_endedLast 70 = .ok (.iload 5, 2) := by decide +kernel
theorem dX2_endedLast_72 : decode cX2_endedLast 72 = .ok (.istore 4, 2) := by decide +kernel
theorem dX2_endedLast_74 : decode cX2_endedLast 74 = .ok (.iinc 5 1, 3) := by decide +kernel
theorem dX2_endedLast_77 : decode cX2_endedLast 77 = .ok (.goto (-71), 3) := by decide +kernel
theorem dX2_endedLast_80 : decode cX2_endedLast 80 = .ok (.iload 4, 2) := by decide +kernel
theorem dX2_endedLast_82 : decode cX2_endedLast 82 = .ok (.ireturn, 1) := by decide +kernel
theorem dX2_beganAt_0 : decode cX2_beganAt 0 = .ok (.iload_n 2, 1) := by decide +kernel
theorem dX2_beganAt_1 : decode cX2_beganAt 1 = .ok (.iconst (-1), 1) := by decide +kernel
theorem dX2_beganAt_2 : decode cX2_beganAt 2 = .ok (.if_icmp .eq 13, 3) := by decide +kernel
theorem dX2_beganAt_5 : decode cX2_beganAt 5 = .ok (.iload_n 2, 1) := by decide +kernel
theorem dX2_beganAt_6 : decode cX2_beganAt 6 = .ok (.aload_n 0, 1) := by decide +kernel
theorem dX2_beganAt_7 : decode cX2_beganAt 7 = .ok (.getfield 9, 3) := by decide +kernel
theorem dX2_beganAt_10 : decode cX2_beganAt 10 = .ok (.iload_n 1, 1) := by decide +kernel
theorem dX2_beganAt_11 : decode cX2_beganAt 11 = .ok (.iaload, 1) := by decide +kernel
theorem dX2_beganAt_12 : decode cX2_beganAt 12 = .ok (.if_icmp .ne 12, 3) := by decide +kernel
theorem dX2_beganAt_15 : decode cX2_beganAt 15 = .ok (.aload_n 0, 1) := by decide +kernel
theorem dX2_beganAt_16 : decode cX2_beganAt 16 = .ok (.getfield 15, 3) := by decide +kernel
theorem dX2_beganAt_19 : decode cX2_beganAt 19 = .ok (.iload_n 1, 1) := by decide +kernel
theorem dX2_beganAt_20 : decode cX2_beganAt 20 = .ok (.iaload, 1) := by decide +kernel
theorem dX2_beganAt_21 : decode cX2_beganAt 21 = .ok (.goto 21, 3) := by decide +kernel
theorem dX2_beganAt_24 : decode cX2_beganAt 24 = .ok (.aload_n 0, 1) := by decide +kernel
theorem dX2_beganAt_25 : decode cX2_beganAt 25 = .ok (.getfield 15, 3) := by decide +kernel
theorem dX2_beganAt_28 : decode cX2_beganAt 28 = .ok (.iload_n 1, 1) := by decide +kernel
theorem dX2_beganAt_29 : decode cX2_beganAt 29 = .ok (.iaload, 1) := by decide +kernel
theorem dX2_beganAt_30 : decode cX2_beganAt 30 = .ok (.aload_n 3, 1) := by decide +kernel
theorem dX2_beganAt_31 : decode cX2_beganAt 31 = .ok (.aload_n 0, 1) := by decide +kernel
theorem dX2_beganAt_32 : decode cX2_beganAt 32 = .ok (.getfield 9, 3) := by decide +kernel
theorem dX2_beganAt_35 : decode cX2_beganAt 35 = .ok (.iload_n 1, 1) := by decide +kernel
theorem dX2_beganAt_36 : decode cX2_beganAt 36 = .ok (.iaload, 1) := by decide +kernel
theorem dX2_beganAt_37 : decode cX2_beganAt 37 = .ok (.iload_n 2, 1) := by decide +kernel
theorem dX2_beganAt_38 : decode cX2_beganAt 38 = .ok (.invokevirtual 64, 3) := by decide +kernel
theorem dX2_beganAt_41 : decode cX2_beganAt 41 = .ok (.iadd, 1) := by decide +kernel
theorem dX2_beganAt_42 : decode cX2_beganAt 42 = .ok (.ireturn, 1) := by decide +kernel
theorem dX2_gapBehind_0 : decode cX2_gapBehind 0 = .ok (.aload_n 0, 1) := by decide +kernel
theorem dX2_gapBehind_1 : decode cX2_gapBehind 1 = .ok (.getfield 9, 3) := by decide +kernel
theorem dX2_gapBehind_4 : decode cX2_gapBehind 4 = .ok (.iload_n 1, 1) := by decide +kernel
theorem dX2_gapBehind_5 : decode cX2_gapBehind 5 = .ok (.iaload, 1) := by decide +kernel
theorem dX2_gapBehind_6 : decode cX2_gapBehind 6 = .ok (.iload_n 3, 1) := by decide +kernel
theorem dX2_gapBehind_7 : decode cX2_gapBehind 7 = .ok (.if_icmp .ne 13, 3) := by decide +kernel
theorem dX2_gapBehind_10 : decode cX2_gapBehind 10 = .ok (.aload_n 0, 1) := by decide +kernel
theorem dX2_gapBehind_11 : decode cX2_gapBehind 11 = .ok (.getfield 24, 3) := by decide +kernel
theorem dX2_gapBehind_14 : decode cX2_gapBehind 14 = .ok (.iload_n 1, 1) := by decide +kernel
theorem dX2_gapBehind_15 : decode cX2_gapBehind 15 = .ok (.iaload, 1) := by decide +kernel
theorem dX2_gapBehind_16 : decode cX2_gapBehind 16 = .ok (.iconst 1, 1) := by decide +kernel
theorem dX2_gapBehind_17 : decode cX2_gapBehind 17 = .ok (.if_icmp .eq 5, 3) := by decide +kernel
theorem dX2_gapBehind_20 : decode cX2_gapBehind 20 = .ok (.iconst (-1), 1) := by decide +kernel
theorem dX2_gapBehind_21 : decode cX2_gapBehind 21 = .ok (.ireturn, 1) := by decide +kernel
theorem dX2_gapBehind_22 : decode cX2_gapBehind 22 = .ok (.iconst (-1), 1) := by decide +kernel
theorem dX2_gapBehind_23 : decode cX2_gapBehind 23 = .ok (.istore 5, 2) := by decide +kernel
theorem dX2_gapBehind_25 : decode cX2_gapBehind 25 = .ok (.aload 4, 2) := by decide +kernel
theorem dX2_gapBehind_27 : decode cX2_gapBehind 27 = .ok (.getfield 36, 3) := by decide +kernel
theorem dX2_gapBehind_30 : decode cX2_gapBehind 30 = .ok (.iconst 1, 1) := by decide +kernel
theorem dX2_gapBehind_31 : decode cX2_gapBehind 31 = .ok (.isub, 1) := by decide +kernel
theorem dX2_gapBehind_32 : decode cX2_gapBehind 32 = .ok (.istore 6, 2) := by decide +kernel
theorem dX2_gapBehind_34 : decode cX2_gapBehind 34 = .ok (.iload 6, 2) := by decide +kernel
theorem dX2_gapBehind_36 : decode cX2_gapBehind 36 = .ok (.ifCond .lt 55, 3) := by decide +kernel
theorem dX2_gapBehind_39 : decode cX2_gapBehind 39 = .ok (.aload_n 0, 1) := by decide +kernel
theorem dX2_gapBehind_40 : decode cX2_gapBehind 40 = .ok (.iload 6, 2) := by decide +kernel
theorem dX2_gapBehind_42 : decode cX2_gapBehind 42 = .ok (.iload_n 3, 1) := by decide +kernel
theorem dX2_gapBehind_43 : decode cX2_gapBehind 43 = .ok (.aload 4, 2) := by decide +kernel
theorem dX2_gapBehind_45 : decode cX2_gapBehind 45 = .ok (.invokevirtual 75, 3) := by decide +kernel
theorem dX2_gapBehind_48 : decode cX2_gapBehind 48 = .ok (.istore 7, 2) := by decide +kernel
theorem dX2_gapBehind_50 : decode cX2_gapBehind 50 = .ok (.aload_n 0, 1) := by decide +kernel
theorem dX2_gapBehind_51 : decode cX2_gapBehind 51 = .ok (.iload 6, 2) := by decide +kernel
theorem dX2_gapBehind_53 : decode cX2_gapBehind 53 = .ok (.iload_n 2, 1) := by decide +kernel
theorem dX2_gapBehind_54 : decode cX2_gapBehind 54 = .ok (.invokevirtual 60, 3) := by decide +kernel
theorem dX2_gapBehind_57 : decode cX2_gapBehind 57 = .ok (.ifCond .eq 28, 3) := by decide +kernel
theorem dX2_gapBehind_60 : decode cX2_gapBehind 60 = .ok (.iload 7, 2) := by decide +kernel
theorem dX2_gapBehind_62 : decode cX2_gapBehind 62 = .ok (.aload_n 0, 1) := by decide +kernel
theorem dX2_gapBehind_63 : decode cX2_gapBehind 63 = .ok (.getfield 21, 3) := by decide +kernel
theorem dX2_gapBehind_66 : decode cX2_gapBehind 66 = .ok (.iload_n 1, 1) := by decide +kernel
theorem dX2_gapBehind_67 : decode cX2_gapBehind 67 = .ok (.iaload, 1) := by decide +kernel
theorem dX2_gapBehind_68 : decode cX2_gapBehind 68 = .ok (.if_icmp .lt 17, 3) := by decide +kernel
theorem dX2_gapBehind_71 : decode cX2_gapBehind 71 = .ok (.iload 7, 2) := by decide +kernel
theorem dX2_gapBehind_73 : decode cX2_gapBehind 73 = .ok (.aload 4, 2) := by decide +kernel
theorem dX2_gapBehind_75 : decode cX2_gapBehind 75 = .ok (.getfield 53, 3) := by decide +kernel
theorem dX2_gapBehind_78 : decode cX2_gapBehind 78 = .ok (.if_icmp .gt 7, 3) := by decide +kernel
theorem dX2_gapBehind_81 : decode cX2_gapBehind 81 = .ok (.iload 7, 2) := by decide +kernel
theorem dX2_gapBehind_83 : decode cX2_gapBehind 83 = .ok (.istore 5, 2) := by decide +kernel
theorem dX2_gapBehind_85 : decode cX2_gapBehind 85 = .ok (.iinc 6 (-1), 3) := by decide +kernel
theorem dX2_gapBehind_88 : decode cX2_gapBehind 88 = .ok (.goto (-54), 3) := by decide +kernel
theorem dX2_gapBehind_91 : decode cX2_gapBehind 91 = .ok (.iload 5, 2) := by decide +kernel
theorem dX2_gapBehind_93 : decode cX2_gapBehind 93 = .ok (.iconst (-1), 1) := by decide +kernel
theorem dX2_gapBehind_94 : decode cX2_gapBehind 94 = .ok (.if_icmp .eq 21, 3) := by decide +kernel
theorem dX2_gapBehind_97 : decode cX2_gapBehind 97 = .ok (.aload_n 0, 1) := by decide +kernel
theorem dX2_gapBehind_98 : decode cX2_gapBehind 98 = .ok (.iload_n 3, 1) := by decide +kernel
theorem dX2_gapBehind_99 : decode cX2_gapBehind 99 = .ok (.aload_n 0, 1) := by decide +kernel
theorem dX2_gapBehind_100 : decode cX2_gapBehind 100 = .ok (.getfield 21, 3) := by decide +kernel
theorem dX2_gapBehind_103 : decode cX2_gapBehind 103 = .ok (.iload_n 1, 1) := by decide +kernel
theorem dX2_gapBehind_104 : decode cX2_gapBehind 104 = .ok (.iaload, 1) := by decide +kernel
theorem dX2_gapBehind_105 : decode cX2_gapBehind 105 = .ok (.iload 5, 2) := by decide +kernel
theorem dX2_gapBehind_107 : decode cX2_gapBehind 107 = .ok (.aload 4, 2) := by decide +kernel
theorem dX2_gapBehind_109 : decode cX2_gapBehind 109 = .ok (.invokevirtual 78, 3) := by decide +kernel
theorem dX2_gapBehind_112 : decode cX2_gapBehind 112 = .ok (.ifCond .eq 5, 3) := by decide +kernel
theorem dX2_gapBehind_115 : decode cX2_gapBehind 115 = .ok (.iconst (-1), 1) := by decide +kernel
theorem dX2_gapBehind_116 : decode cX2_gapBehind 116 = .ok (.ireturn, 1) := by decide +kernel
theorem dX2_gapBehind_117 : decode cX2_gapBehind 117 = .ok (.iload 5, 2) := by decide +kernel
theorem dX2_gapBehind_119 : decode cX2_gapBehind 119 = .ok (.aload_n 0, 1) := by decide +kernel
theorem dX2_gapBehind_120 : decode cX2_gapBehind 120 = .ok (.getfield 21, 3) := by decide +kernel
theorem dX2_gapBehind_123 : decode cX2_gapBehind 123 = .ok (.iload_n 1, 1) := by decide +kernel
theorem dX2_gapBehind_124 : decode cX2_gapBehind 124 = .ok (.iaload, 1) := by decide +kernel
theorem dX2_gapBehind_125 : decode cX2_gapBehind 125 = .ok (.isub, 1) := by decide +kernel
theorem dX2_gapBehind_126 : decode cX2_gapBehind 126 = .ok (.ireturn, 1) := by decide +kernel
theorem dX2_beganWithin_0 : decode cX2_beganWithin 0 = .ok (.iconst 0, 1) := by decide +kernel
theorem dX2_beganWithin_1 : decode cX2_beganWithin 1 = .ok (.istore 5, 2) := by decide +kernel
theorem dX2_beganWithin_3 : decode cX2_beganWithin 3 = .ok (.iload 5, 2) := by decide +kernel
theorem dX2_beganWithin_5 : decode cX2_beganWithin 5 = .ok (.aload 4, 2) := by decide +kernel
theorem dX2_beganWithin_7 : decode cX2_beganWithin 7 = .ok (.getfield 36, 3) := by decide +kernel
theorem dX2_beganWithin_10 : decode cX2_beganWithin 10 = .ok (.if_icmp .ge 43, 3) := by decide +kernel
theorem dX2_beganWithin_13 : decode cX2_beganWithin 13 = .ok (.aload_n 0, 1) := by decide +kernel
theorem dX2_beganWithin_14 : decode cX2_beganWithin 14 = .ok (.iload 5, 2) := by decide +kernel
theorem dX2_beganWithin_16 : decode cX2_beganWithin 16 = .ok (.iload_n 1, 1) := by decide +kernel
theorem dX2_beganWithin_17 : decode cX2_beganWithin 17 = .ok (.invokevirtual 60, 3) := by decide +kernel
theorem dX2_beganWithin_20 : decode cX2_beganWithin 20 = .ok (.ifCond .eq 27, 3) := by decide +kernel
theorem dX2_beganWithin_23 : decode cX2_beganWithin 23 = .ok (.aload_n 0, 1) := by decide +kernel
theorem dX2_beganWithin_24 : decode cX2_beganWithin 24 = .ok (.getfield 15, 3) := by decide +kernel
theorem dX2_beganWithin_27 : decode cX2_beganWithin 27 = .ok (.iload 5, 2) := by decide +kernel
theorem dX2_beganWithin_29 : decode cX2_beganWithin 29 = .ok (.iaload, 1) := by decide +kernel
theorem dX2_beganWithin_30 : decode cX2_beganWithin 30 = .ok (.iload_n 2, 1) := by decide +kernel
theorem dX2_beganWithin_31 : decode cX2_beganWithin 31 = .ok (.if_icmp .lt 16, 3) := by decide +kernel
theorem dX2_beganWithin_34 : decode cX2_beganWithin 34 = .ok (.aload_n 0, 1) := by decide +kernel
theorem dX2_beganWithin_35 : decode cX2_beganWithin 35 = .ok (.getfield 15, 3) := by decide +kernel
theorem dX2_beganWithin_38 : decode cX2_beganWithin 38 = .ok (.iload 5, 2) := by decide +kernel
theorem dX2_beganWithin_40 : decode cX2_beganWithin 40 = .ok (.iaload, 1) := by decide +kernel
theorem dX2_beganWithin_41 : decode cX2_beganWithin 41 = .ok (.iload_n 3, 1) := by decide +kernel
theorem dX2_beganWithin_42 : decode cX2_beganWithin 42 = .ok (.if_icmp .gt 5, 3) := by decide +kernel
theorem dX2_beganWithin_45 : decode cX2_beganWithin 45 = .ok (.iconst 1, 1) := by decide +kernel
theorem dX2_beganWithin_46 : decode cX2_beganWithin 46 = .ok (.ireturn, 1) := by decide +kernel
theorem dX2_beganWithin_47 : decode cX2_beganWithin 47 = .ok (.iinc 5 1, 3) := by decide +kernel
theorem dX2_beganWithin_50 : decode cX2_beganWithin 50 = .ok (.goto (-47), 3) := by decide +kernel
theorem dX2_beganWithin_53 : decode cX2_beganWithin 53 = .ok (.iconst 0, 1) := by decide +kernel
theorem dX2_beganWithin_54 : decode cX2_beganWithin 54 = .ok (.ireturn, 1) := by decide +kernel
theorem dX2_turnBrokenInto_0 : decode cX2_turnBrokenInto 0 = .ok (.aload_n 0, 1) := by decide +kernel
theorem dX2_turnBrokenInto_1 : decode cX2_turnBrokenInto 1 = .ok (.iload_n 1, 1) := by decide +kernel
theorem dX2_turnBrokenInto_2 : decode cX2_turnBrokenInto 2 = .ok (.iload_n 3, 1) := by decide +kernel
theorem dX2_turnBrokenInto_3 : decode cX2_turnBrokenInto 3 = .ok (.aload 4, 2) := by decide +kernel
theorem dX2_turnBrokenInto_5 : decode cX2_turnBrokenInto 5 = .ok (.invokevirtual 75, 3) := by decide +kernel
theorem dX2_turnBrokenInto_8 : decode cX2_turnBrokenInto 8 = .ok (.istore 5, 2) := by decide +kernel
theorem dX2_turnBrokenInto_10 : decode cX2_turnBrokenInto 10 = .ok (.aload_n 0, 1) := by decide +kernel
theorem dX2_turnBrokenInto_11 : decode cX2_turnBrokenInto 11 = .ok (.iload_n 1, 1) := by decide +kernel
theorem dX2_turnBrokenInto_12 : decode cX2_turnBrokenInto 12 = .ok (.iload_n 2, 1) := by decide +kernel
theorem dX2_turnBrokenInto_13 : decode cX2_turnBrokenInto 13 = .ok (.invokevirtual 60, 3) := by decide +kernel
theorem dX2_turnBrokenInto_16 : decode cX2_turnBrokenInto 16 = .ok (.ifCond .eq 13, 3) := by decide +kernel
theorem dX2_turnBrokenInto_19 : decode cX2_turnBrokenInto 19 = .ok (.iload 5, 2) := by decide +kernel
theorem dX2_turnBrokenInto_21 : decode cX2_turnBrokenInto 21 = .ok (.aload 4, 2) := by decide +kernel
theorem dX2_turnBrokenInto_23 : decode cX2_turnBrokenInto 23 = .ok (.getfield 53, 3) := by decide +kernel
theorem dX2_turnBrokenInto_26 : decode cX2_turnBrokenInto 26 = .ok (.if_icmp .le 5, 3) := by decide +kernel
theorem dX2_turnBrokenInto_29 : decode cX2_turnBrokenInto 29 = .ok (.iconst (-1), 1) := by decide +kernel
theorem dX2_turnBrokenInto_30 : decode cX2_turnBrokenInto 30 = .ok (.ireturn, 1) := by decide +kernel
theorem dX2_turnBrokenInto_31 : decode cX2_turnBrokenInto 31 = .ok (.iconst 0, 1) := by decide +kernel
theorem dX2_turnBrokenInto_32 : decode cX2_turnBrokenInto 32 = .ok (.istore 6, 2) := by decide +kernel
theorem dX2_turnBrokenInto_34 : decode cX2_turnBrokenInto 34 = .ok (.iload 6, 2) := by decide +kernel
theorem dX2_turnBrokenInto_36 : decode cX2_turnBrokenInto 36 = .ok (.aload 4, 2) := by decide +kernel
theorem dX2_turnBrokenInto_38 : decode cX2_turnBrokenInto 38 = .ok (.getfield 36, 3) := by decide +kernel
theorem dX2_turnBrokenInto_41 : decode cX2_turnBrokenInto 41 = .ok (.if_icmp .ge 57, 3) := by decide +kernel
theorem dX2_turnBrokenInto_44 : decode cX2_turnBrokenInto 44 = .ok (.aload_n 0, 1) := by decide +kernel
theorem dX2_turnBrokenInto_45 : decode cX2_turnBrokenInto 45 = .ok (.iload 6, 2) := by decide +kernel
theorem dX2_turnBrokenInto_47 : decode cX2_turnBrokenInto 47 = .ok (.iload_n 3, 1) := by decide +kernel
theorem dX2_turnBrokenInto_48 : decode cX2_turnBrokenInto 48 = .ok (.invokevirtual 60, 3) := by decide +kernel
theorem dX2_turnBrokenInto_51 : decode cX2_turnBrokenInto 51 = .ok (.ifCond .eq 41, 3) := by decide +kernel
theorem dX2_turnBrokenInto_54 : decode cX2_turnBrokenInto 54 = .ok (.aload_n 0, 1) := by decide +kernel
theorem dX2_turnBrokenInto_55 : decode cX2_turnBrokenInto 55 = .ok (.getfield 15, 3) := by decide +kernel
theorem dX2_turnBrokenInto_58 : decode cX2_turnBrokenInto 58 = .ok (.iload 6, 2) := by decide +kernel
theorem dX2_turnBrokenInto_60 : decode cX2_turnBrokenInto 60 = .ok (.iaload, 1) := by decide +kernel
theorem dX2_turnBrokenInto_61 : decode cX2_turnBrokenInto 61 = .ok (.iload 5, 2) := by decide +kernel
theorem dX2_turnBrokenInto_63 : decode cX2_turnBrokenInto 63 = .ok (.if_icmp .gt 29, 3) := by decide +kernel
theorem dX2_turnBrokenInto_66 : decode cX2_turnBrokenInto 66 = .ok (.aload_n 0, 1) := by decide +kernel
theorem dX2_turnBrokenInto_67 : decode cX2_turnBrokenInto 67 = .ok (.getfield 21, 3) := by decide +kernel
theorem dX2_turnBrokenInto_70 : decode cX2_turnBrokenInto 70 = .ok (.iload 6, 2) := by decide +kernel
theorem dX2_turnBrokenInto_72 : decode cX2_turnBrokenInto 72 = .ok (.iaload, 1) := by decide +kernel
theorem dX2_turnBrokenInto_73 : decode cX2_turnBrokenInto 73 = .ok (.iconst (-1), 1) := by decide +kernel
theorem dX2_turnBrokenInto_74 : decode cX2_turnBrokenInto 74 = .ok (.if_icmp .eq 15, 3) := by decide +kernel
theorem dX2_turnBrokenInto_77 : decode cX2_turnBrokenInto 77 = .ok (.aload_n 0, 1) := by decide +kernel
theorem dX2_turnBrokenInto_78 : decode cX2_turnBrokenInto 78 = .ok (.getfield 21, 3) := by decide +kernel
theorem dX2_turnBrokenInto_81 : decode cX2_turnBrokenInto 81 = .ok (.iload 6, 2) := by decide +kernel
theorem dX2_turnBrokenInto_83 : decode cX2_turnBrokenInto 83 = .ok (.iaload, 1) := by decide +kernel
theorem dX2_turnBrokenInto_84 : decode cX2_turnBrokenInto 84 = .ok (.iload 5, 2) := by decide +kernel
theorem dX2_turnBrokenInto_86 : decode cX2_turnBrokenInto 86 = .ok (.if_icmp .le 6, 3) := by decide +kernel
theorem dX2_turnBrokenInto_89 : decode cX2_turnBrokenInto 89 = .ok (.iload 6, 2) := by decide +kernel
theorem dX2_turnBrokenInto_91 : decode cX2_turnBrokenInto 91 = .ok (.ireturn, 1) := by decide +kernel
theorem dX2_turnBrokenInto_92 : decode cX2_turnBrokenInto 92 = .ok (.iinc 6 1, 3) := by decide +kernel
theorem dX2_turnBrokenInto_95 : decode cX2_turnBrokenInto 95 = .ok (.goto (-61), 3) := by decide +kernel
theorem dX2_turnBrokenInto_98 : decode cX2_turnBrokenInto 98 = .ok (.iconst (-1), 1) := by decide +kernel
theorem dX2_turnBrokenInto_99 : decode cX2_turnBrokenInto 99 = .ok (.ireturn, 1) := by decide +kernel
theorem dX2_couldHear_0 : decode cX2_couldHear 0 = .ok (.aload_n 0, 1) := by decide +kernel
theorem dX2_couldHear_1 : decode cX2_couldHear 1 = .ok (.getfield 15, 3) := by decide +kernel
theorem dX2_couldHear_4 : decode cX2_couldHear 4 = .ok (.iload_n 1, 1) := by decide +kernel
theorem dX2_couldHear_5 : decode cX2_couldHear 5 = .ok (.iaload, 1) := by decide +kernel
theorem dX2_couldHear_6 : decode cX2_couldHear 6 = .ok (.aload_n 0, 1) := by decide +kernel
theorem dX2_couldHear_7 : decode cX2_couldHear 7 = .ok (.iload_n 2, 1) := by decide +kernel
theorem dX2_couldHear_8 : decode cX2_couldHear 8 = .ok (.aload_n 0, 1) := by decide +kernel
theorem dX2_couldHear_9 : decode cX2_couldHear 9 = .ok (.getfield 9, 3) := by decide +kernel
theorem dX2_couldHear_12 : decode cX2_couldHear 12 = .ok (.iload_n 1, 1) := by decide +kernel
theorem dX2_couldHear_13 : decode cX2_couldHear 13 = .ok (.iaload, 1) := by decide +kernel
theorem dX2_couldHear_14 : decode cX2_couldHear 14 = .ok (.aload_n 3, 1) := by decide +kernel
theorem dX2_couldHear_15 : decode cX2_couldHear 15 = .ok (.invokevirtual 75, 3) := by decide +kernel
theorem dX2_couldHear_18 : decode cX2_couldHear 18 = .ok (.if_icmp .le 7, 3) := by decide +kernel
theorem dX2_couldHear_21 : decode cX2_couldHear 21 = .ok (.iconst 1, 1) := by decide +kernel
theorem dX2_couldHear_22 : decode cX2_couldHear 22 = .ok (.goto 4, 3) := by decide +kernel
theorem dX2_couldHear_25 : decode cX2_couldHear 25 = .ok (.iconst 0, 1) := by decide +kernel
theorem dX2_couldHear_26 : decode cX2_couldHear 26 = .ok (.ireturn, 1) := by decide +kernel
theorem dX3_init_0 : decode cX3_init 0 = .ok (.aload_n 0, 1) := by decide +kernel
theorem dX3_init_1 : decode cX3_init 1 = .ok (.invokespecial 3, 3) := by decide +kernel
theorem dX3_init_4 : decode cX3_init 4 = .ok (.aload_n 0, 1) := by decide +kernel
theorem dX3_init_5 : decode cX3_init 5 = .ok (.iconst (-1), 1) := by decide +kernel
theorem dX3_init_6 : decode cX3_init 6 = .ok (.putfield 9, 3) := by decide +kernel
theorem dX3_init_9 : decode cX3_init 9 = .ok (.aload_n 0, 1) := by decide +kernel
theorem dX3_init_10 : decode cX3_init 10 = .ok (.iconst (-1), 1) := by decide +kernel
theorem dX3_init_11 : decode cX3_init 11 = .ok (.putfield 15, 3) := by decide +kernel
theorem dX3_init_14 : decode cX3_init 14 = .ok (.aload_n 0, 1) := by decide +kernel
theorem dX3_init_15 : decode cX3_init 15 = .ok (.iconst (-1), 1) := by decide +kernel
theorem dX3_init_16 : decode cX3_init 16 = .ok (.putfield 18, 3) := by decide +kernel
theorem dX3_init_19 : decode cX3_init 19 = .ok (.aload_n 0, 1) := by decide +kernel
theorem dX3_init_20 : decode cX3_init 20 = .ok (.iconst (-1), 1) := by decide +kernel
theorem dX3_init_21 : decode cX3_init 21 = .ok (.putfield 21, 3) := by decide +kernel
theorem dX3_init_24 : decode cX3_init 24 = .ok (.return_, 1) := by decide +kernel
theorem dX3_copyFrom_0 : decode cX3_copyFrom 0 = .ok (.aload_n 0, 1) := by decide +kernel
theorem dX3_copyFrom_1 : decode cX3_copyFrom 1 = .ok (.aload_n 1, 1) := by decide +kernel
theorem dX3_copyFrom_2 : decode cX3_copyFrom 2 = .ok (.getfield 24, 3) := by decide +kernel
theorem dX3_copyFrom_5 : decode cX3_copyFrom 5 = .ok (.putfield 24, 3) := by decide +kernel
theorem dX3_copyFrom_8 : decode cX3_copyFrom 8 = .ok (.aload_n 0, 1) := by decide +kernel
theorem dX3_copyFrom_9 : decode cX3_copyFrom 9 = .ok (.aload_n 1, 1) := by decide +kernel
theorem dX3_copyFrom_10 : decode cX3_copyFrom 10 = .ok (.getfield 28, 3) := by decide +kernel
theorem dX3_copyFrom_13 : decode cX3_copyFrom 13 = .ok (.putfield 28, 3) := by decide +kernel
theorem dX3_copyFrom_16 : decode cX3_copyFrom 16 = .ok (.aload_n 0, 1) := by decide +kernel
theorem dX3_copyFrom_17 : decode cX3_copyFrom 17 = .ok (.aload_n 1, 1) := by decide +kernel
theorem dX3_copyFrom_18 : decode cX3_copyFrom 18 = .ok (.getfield 31, 3) := by decide +kernel
theorem dX3_copyFrom_21 : decode cX3_copyFrom 21 = .ok (.putfield 31, 3) := by decide +kernel
theorem dX3_copyFrom_24 : decode cX3_copyFrom 24 = .ok (.aload_n 0, 1) := by decide +kernel
theorem dX3_copyFrom_25 : decode cX3_copyFrom 25 = .ok (.aload_n 1, 1) := by decide +kernel
theorem dX3_copyFrom_26 : decode cX3_copyFrom 26 = .ok (.getfield 34, 3) := by decide +kernel
theorem dX3_copyFrom_29 : decode cX3_copyFrom 29 = .ok (.putfield 34, 3) := by decide +kernel
theorem dX3_copyFrom_32 : decode cX3_copyFrom 32 = .ok (.aload_n 0, 1) := by decide +kernel
theorem dX3_copyFrom_33 : decode cX3_copyFrom 33 = .ok (.aload_n 1, 1) := by decide +kernel
theorem dX3_copyFrom_34 : decode cX3_copyFrom 34 = .ok (.getfield 37, 3) := by decide +kernel
theorem dX3_copyFrom_37 : decode cX3_copyFrom 37 = .ok (.putfield 37, 3) := by decide +kernel
theorem dX3_copyFrom_40 : decode cX3_copyFrom 40 = .ok (.aload_n 0, 1) := by decide +kernel
theorem dX3_copyFrom_41 : decode cX3_copyFrom 41 = .ok (.aload_n 1, 1) := by decide +kernel
theorem dX3_copyFrom_42 : decode cX3_copyFrom 42 = .ok (.getfield 9, 3) := by decide +kernel
theorem dX3_copyFrom_45 : decode cX3_copyFrom 45 = .ok (.putfield 9, 3) := by decide +kernel
theorem dX3_copyFrom_48 : decode cX3_copyFrom 48 = .ok (.aload_n 0, 1) := by decide +kernel
theorem dX3_copyFrom_49 : decode cX3_copyFrom 49 = .ok (.aload_n 1, 1) := by decide +kernel
theorem dX3_copyFrom_50 : decode cX3_copyFrom 50 = .ok (.getfield 15, 3) := by decide +kernel
theorem dX3_copyFrom_53 : decode cX3_copyFrom 53 = .ok (.putfield 15, 3) := by decide +kernel
theorem dX3_copyFrom_56 : decode cX3_copyFrom 56 = .ok (.aload_n 0, 1) := by decide +kernel
theorem dX3_copyFrom_57 : decode cX3_copyFrom 57 = .ok (.aload_n 1, 1) := by decide +kernel
theorem dX3_copyFrom_58 : decode cX3_copyFrom 58 = .ok (.getfield 18, 3) := by decide +kernel
theorem dX3_copyFrom_61 : decode cX3_copyFrom 61 = .ok (.putfield 18, 3) := by decide +kernel
theorem dX3_copyFrom_64 : decode cX3_copyFrom 64 = .ok (.aload_n 0, 1) := by decide +kernel
theorem dX3_copyFrom_65 : decode cX3_copyFrom 65 = .ok (.aload_n 1, 1) := by decide +kernel
theorem dX3_copyFrom_66 : decode cX3_copyFrom 66 = .ok (.getfield 40, 3) := by decide +kernel
theorem dX3_copyFrom_69 : decode cX3_copyFrom 69 = .ok (.putfield 40, 3) := by decide +kernel
theorem dX3_copyFrom_72 : decode cX3_copyFrom 72 = .ok (.aload_n 0, 1) := by decide +kernel
theorem dX3_copyFrom_73 : decode cX3_copyFrom 73 = .ok (.aload_n 1, 1) := by decide +kernel
theorem dX3_copyFrom_74 : decode cX3_copyFrom 74 = .ok (.getfield 43, 3) := by decide +kernel
theorem dX3_copyFrom_77 : decode cX3_copyFrom 77 = .ok (.putfield 43, 3) := by decide +kernel
theorem dX3_copyFrom_80 : decode cX3_copyFrom 80 = .ok (.aload_n 0, 1) := by decide +kernel
theorem dX3_copyFrom_81 : decode cX3_copyFrom 81 = .ok (.aload_n 1, 1) := by decide +kernel
theorem dX3_copyFrom_82 : decode cX3_copyFrom 82 = .ok (.getfield 46, 3) := by decide +kernel
theorem dX3_copyFrom_85 : decode cX3_copyFrom 85 = .ok (.putfield 46, 3) := by decide +kernel
theorem dX3_copyFrom_88 : decode cX3_copyFrom 88 = .ok (.aload_n 0, 1) := by decide +kernel
theorem dX3_copyFrom_89 : decode cX3_copyFrom 89 = .ok (.aload_n 1, 1) := by decide +kernel
theorem dX3_copyFrom_90 : decode cX3_copyFrom 90 = .ok (.getfield 49, 3) := by decide +kernel
theorem dX3_copyFrom_93 : decode cX3_copyFrom 93 = .ok (.putfield 49, 3) := by decide +kernel
theorem dX3_copyFrom_96 : decode cX3_copyFrom 96 = .ok (.aload_n 0, 1) := by decide +kernel
theorem dX3_copyFrom_97 : decode cX3_copyFrom 97 = .ok (.aload_n 1, 1) := by decide +kernel
theorem dX3_copyFrom_98 : decode cX3_copyFrom 98 = .ok (.getfield 21, 3) := by decide +kernel
theorem dX3_copyFrom_101 : decode cX3_copyFrom 101 = .ok (.putfield 21, 3) := by decide +kernel
theorem dX3_copyFrom_104 : decode cX3_copyFrom 104 = .ok (.aload_n 0, 1) := by decide +kernel
theorem dX3_copyFrom_105 : decode cX3_copyFrom 105 = .ok (.aload_n 1, 1) := by decide +kernel
theorem dX3_copyFrom_106 : decode cX3_copyFrom 106 = .ok (.getfield 52, 3) := by decide +kernel
theorem dX3_copyFrom_109 : decode cX3_copyFrom 109 = .ok (.putfield 52, 3) := by decide +kernel
theorem dX3_copyFrom_112 : decode cX3_copyFrom 112 = .ok (.return_, 1) := by decide +kernel
theorem dX3_number_0 : decode cX3_number 0 = .ok (.iload_n 1, 1) := by decide +kernel
theorem dX3_number_1 : decode cX3_number 1 = .ok (.tableswitch 86 4 10 #[43, 56, 61, 66, 71, 76, 81], 43) := by decide +kernel
theorem dX3_number_44 : decode cX3_number 44 = .ok (.aload_n 0, 1) := by decide +kernel
theorem dX3_number_45 : decode cX3_number 45 = .ok (.getfield 24, 3) := by decide +kernel
theorem dX3_number_48 : decode cX3_number 48 = .ok (.ifCond .eq 7, 3) := by decide +kernel
theorem dX3_number_51 : decode cX3_number 51 = .ok (.iconst 1, 1) := by decide +kernel
theorem dX3_number_52 : decode cX3_number 52 = .ok (.goto 4, 3) := by decide +kernel
theorem dX3_number_55 : decode cX3_number 55 = .ok (.iconst 0, 1) := by decide +kernel
theorem dX3_number_56 : decode cX3_number 56 = .ok (.ireturn, 1) := by decide +kernel
theorem dX3_number_57 : decode cX3_number 57 = .ok (.aload_n 0, 1) := by decide +kernel
theorem dX3_number_58 : decode cX3_number 58 = .ok (.getfield 28, 3) := by decide +kernel
theorem dX3_number_61 : decode cX3_number 61 = .ok (.ireturn, 1) := by decide +kernel
theorem dX3_number_62 : decode cX3_number 62 = .ok (.aload_n 0, 1) := by decide +kernel
theorem dX3_number_63 : decode cX3_number 63 = .ok (.getfield 31, 3) := by decide +kernel
theorem dX3_number_66 : decode cX3_number 66 = .ok (.ireturn, 1) := by decide +kernel
theorem dX3_number_67 : decode cX3_number 67 = .ok (.aload_n 0, 1) := by decide +kernel
theorem dX3_number_68 : decode cX3_number 68 = .ok (.getfield 34, 3) := by decide +kernel
theorem dX3_number_71 : decode cX3_number 71 = .ok (.ireturn, 1) := by decide +kernel
theorem dX3_number_72 : decode cX3_number 72 = .ok (.aload_n 0, 1) := by decide +kernel
theorem dX3_number_73 : decode cX3_number 73 = .ok (.getfield 9, 3) := by decide +kernel
theorem dX3_number_76 : decode cX3_number 76 = .ok (.ireturn, 1) := by decide +kernel
theorem dX3_number_77 : decode cX3_number 77 = .ok (.aload_n 0, 1) := by decide +kernel
theorem dX3_number_78 : decode cX3_number 78 = .ok (.getfield 46, 3) := by decide +kernel
theorem dX3_number_81 : decode cX3_number 81 = .ok (.ireturn, 1) := by decide +kernel
theorem dX3_number_82 : decode cX3_number 82 = .ok (.aload_n 0, 1) := by decide +kernel
theorem dX3_number_83 : decode cX3_number 83 = .ok (.getfield 49, 3) := by decide +kernel
theorem dX3_number_86 : decode cX3_number 86 = .ok (.ireturn, 1) := by decide +kernel
theorem dX3_number_87 : decode cX3_number 87 = .ok (.bipush (-2), 2) := by decide +kernel
theorem dX3_number_89 : decode cX3_number 89 = .ok (.ireturn, 1) := by decide +kernel
theorem dX3_spokeAgo_0 : decode cX3_spokeAgo 0 = .ok (.aload_n 0, 1) := by decide +kernel
theorem dX3_spokeAgo_1 : decode cX3_spokeAgo 1 = .ok (.getfield 52, 3) := by decide +kernel
theorem dX3_spokeAgo_4 : decode cX3_spokeAgo 4 = .ok (.iload_n 1, 1) := by decide +kernel
theorem dX3_spokeAgo_5 : decode cX3_spokeAgo 5 = .ok (.lushr, 1) := by decide +kernel
theorem dX3_spokeAgo_6 : decode cX3_spokeAgo 6 = .ok (.lconst 1, 1) := by decide +kernel
theorem dX3_spokeAgo_7 : decode cX3_spokeAgo 7 = .ok (.land, 1) := by decide +kernel
theorem dX3_spokeAgo_8 : decode cX3_spokeAgo 8 = .ok (.lconst 0, 1) := by decide +kernel
theorem dX3_spokeAgo_9 : decode cX3_spokeAgo 9 = .ok (.lcmp, 1) := by decide +kernel
theorem dX3_spokeAgo_10 : decode cX3_spokeAgo 10 = .ok (.ifCond .eq 7, 3) := by decide +kernel
theorem dX3_spokeAgo_13 : decode cX3_spokeAgo 13 = .ok (.iconst 1, 1) := by decide +kernel
theorem dX3_spokeAgo_14 : decode cX3_spokeAgo 14 = .ok (.goto 4, 3) := by decide +kernel
theorem dX3_spokeAgo_17 : decode cX3_spokeAgo 17 = .ok (.iconst 0, 1) := by decide +kernel
theorem dX3_spokeAgo_18 : decode cX3_spokeAgo 18 = .ok (.ireturn, 1) := by decide +kernel
theorem dX3_wasCalled_0 : decode cX3_wasCalled 0 = .ok (.aload_n 0, 1) := by decide +kernel
theorem dX3_wasCalled_1 : decode cX3_wasCalled 1 = .ok (.getfield 15, 3) := by decide +kernel
theorem dX3_wasCalled_4 : decode cX3_wasCalled 4 = .ok (.iconst (-1), 1) := by decide +kernel
theorem dX3_wasCalled_5 : decode cX3_wasCalled 5 = .ok (.if_icmp .eq 26, 3) := by decide +kernel
theorem dX3_wasCalled_8 : decode cX3_wasCalled 8 = .ok (.aload_n 0, 1) := by decide +kernel
theorem dX3_wasCalled_9 : decode cX3_wasCalled 9 = .ok (.getfield 21, 3) := by decide +kernel
theorem dX3_wasCalled_12 : decode cX3_wasCalled 12 = .ok (.iconst (-1), 1) := by decide +kernel
theorem dX3_wasCalled_13 : decode cX3_wasCalled 13 = .ok (.if_icmp .eq 14, 3) := by decide +kernel
theorem dX3_wasCalled_16 : decode cX3_wasCalled 16 = .ok (.aload_n 0, 1) := by decide +kernel
theorem dX3_wasCalled_17 : decode cX3_wasCalled 17 = .ok (.getfield 15, 3) := by decide +kernel
theorem dX3_wasCalled_20 : decode cX3_wasCalled 20 = .ok (.aload_n 0, 1) := by decide +kernel
theorem dX3_wasCalled_21 : decode cX3_wasCalled 21 = .ok (.getfield 21, 3) := by decide +kernel
theorem dX3_wasCalled_24 : decode cX3_wasCalled 24 = .ok (.if_icmp .lt 7, 3) := by decide +kernel
theorem dX3_wasCalled_27 : decode cX3_wasCalled 27 = .ok (.iconst 1, 1) := by decide +kernel
theorem dX3_wasCalled_28 : decode cX3_wasCalled 28 = .ok (.goto 4, 3) := by decide +kernel
theorem dX3_wasCalled_31 : decode cX3_wasCalled 31 = .ok (.iconst 0, 1) := by decide +kernel
theorem dX3_wasCalled_32 : decode cX3_wasCalled 32 = .ok (.ireturn, 1) := by decide +kernel
theorem dX4_init_0 : decode cX4_init 0 = .ok (.aload_n 0, 1) := by decide +kernel
theorem dX4_init_1 : decode cX4_init 1 = .ok (.invokespecial 3, 3) := by decide +kernel
theorem dX4_init_4 : decode cX4_init 4 = .ok (.aload_n 0, 1) := by decide +kernel
theorem dX4_init_5 : decode cX4_init 5 = .ok (.bipush 11, 2) := by decide +kernel
theorem dX4_init_7 : decode cX4_init 7 = .ok (.newarray .int, 2) := by decide +kernel
theorem dX4_init_9 : decode cX4_init 9 = .ok (.putfield 11, 3) := by decide +kernel
theorem dX4_init_12 : decode cX4_init 12 = .ok (.aload_n 0, 1) := by decide +kernel
theorem dX4_init_13 : decode cX4_init 13 = .ok (.bipush 64, 2) := by decide +kernel
theorem dX4_init_15 : decode cX4_init 15 = .ok (.newarray .int, 2) := by decide +kernel
theorem dX4_init_17 : decode cX4_init 17 = .ok (.putfield 15, 3) := by decide +kernel
theorem dX4_init_20 : decode cX4_init 20 = .ok (.return_, 1) := by decide +kernel
theorem dX4_has_0 : decode cX4_has 0 = .ok (.aload_n 0, 1) := by decide +kernel
theorem dX4_has_1 : decode cX4_has 1 = .ok (.getfield 18, 3) := by decide +kernel
theorem dX4_has_4 : decode cX4_has 4 = .ok (.ifnull 20, 3) := by decide +kernel
theorem dX4_has_7 : decode cX4_has 7 = .ok (.aload_n 0, 1) := by decide +kernel
theorem dX4_has_8 : decode cX4_has 8 = .ok (.getfield 18, 3) := by decide +kernel
theorem dX4_has_11 : decode cX4_has 11 = .ok (.getfield 22, 3) := by decide +kernel
theorem dX4_has_14 : decode cX4_has 14 = .ok (.iload_n 1, 1) := by decide +kernel
theorem dX4_has_15 : decode cX4_has 15 = .ok (.iaload, 1) := by decide +kernel
theorem dX4_has_16 : decode cX4_has 16 = .ok (.iconst (-1), 1) := by decide +kernel
theorem dX4_has_17 : decode cX4_has 17 = .ok (.if_icmp .eq 7, 3) := by decide +kernel
theorem dX4_has_20 : decode cX4_has 20 = .ok (.iconst 1, 1) := by decide +kernel
theorem dX4_has_21 : decode cX4_has 21 = .ok (.goto 4, 3) := by decide +kernel
theorem dX4_has_24 : decode cX4_has 24 = .ok (.iconst 0, 1) := by decide +kernel
theorem dX4_has_25 : decode cX4_has 25 = .ok (.ireturn, 1) := by decide +kernel
theorem dX4_ofEnd_0 : decode cX4_ofEnd 0 = .ok (.aload_n 0, 1) := by decide +kernel
theorem dX4_ofEnd_1 : decode cX4_ofEnd 1 = .ok (.iload_n 1, 1) := by decide +kernel
theorem dX4_ofEnd_2 : decode cX4_ofEnd 2 = .ok (.invokevirtual 27, 3) := by decide +kernel
theorem dX4_ofEnd_5 : decode cX4_ofEnd 5 = .ok (.ifCond .eq 100, 3) := by decide +kernel
theorem dX4_ofEnd_8 : decode cX4_ofEnd 8 = .ok (.aload_n 0, 1) := by decide +kernel
theorem dX4_ofEnd_9 : decode cX4_ofEnd 9 = .ok (.iload_n 2, 1) := by decide +kernel
theorem dX4_ofEnd_10 : decode cX4_ofEnd 10 = .ok (.aload_n 3, 1) := by decide +kernel
theorem dX4_ofEnd_11 : decode cX4_ofEnd 11 = .ok (.aload 4, 2) := by decide +kernel
theorem dX4_ofEnd_13 : decode cX4_ofEnd 13 = .ok (.invokevirtual 31, 3) := by decide +kernel
theorem dX4_ofEnd_16 : decode cX4_ofEnd 16 = .ok (.aload_n 0, 1) := by decide +kernel
theorem dX4_ofEnd_17 : decode cX4_ofEnd 17 = .ok (.getfield 11, 3) := by decide +kernel
theorem dX4_ofEnd_20 : decode cX4_ofEnd 20 = .ok (.iconst 3, 1) := by decide +kernel
theorem dX4_ofEnd_21 : decode cX4_ofEnd 21 = .ok (.aload 4, 2) := by decide +kernel
theorem dX4_ofEnd_23 : decode cX4_ofEnd 23 = .ok (.getfield 35, 3) := by decide +kernel
theorem dX4_ofEnd_26 : decode cX4_ofEnd 26 = .ok (.iload_n 2, 1) := by decide +kernel
theorem dX4_ofEnd_27 : decode cX4_ofEnd 27 = .ok (.aaload, 1) := by decide +kernel
theorem dX4_ofEnd_28 : decode cX4_ofEnd 28 = .ok (.getfield 41, 3) := by decide +kernel
theorem dX4_ofEnd_31 : decode cX4_ofEnd 31 = .ok (.iastore, 1) := by decide +kernel
theorem dX4_ofEnd_32 : decode cX4_ofEnd 32 = .ok (.aload_n 0, 1) := by decide +kernel
theorem dX4_ofEnd_33 : decode cX4_ofEnd 33 = .ok (.getfield 11, 3) := by decide +kernel
theorem dX4_ofEnd_36 : decode cX4_ofEnd 36 = .ok (.iconst 4, 1) := by decide +kernel
theorem dX4_ofEnd_37 : decode cX4_ofEnd 37 = .ok (.aload 4, 2) := by decide +kernel
theorem dX4_ofEnd_39 : decode cX4_ofEnd 39 = .ok (.getfield 35, 3) := by decide +kernel
theorem dX4_ofEnd_42 : decode cX4_ofEnd 42 = .ok (.iload_n 2, 1) := by decide +kernel
theorem dX4_ofEnd_43 : decode cX4_ofEnd 43 = .ok (.aaload, 1) := by decide +kernel
theorem dX4_ofEnd_44 : decode cX4_ofEnd 44 = .ok (.getfield 47, 3) := by decide +kernel
theorem dX4_ofEnd_47 : decode cX4_ofEnd 47 = .ok (.iastore, 1) := by decide +kernel
theorem dX4_ofEnd_48 : decode cX4_ofEnd 48 = .ok (.aload_n 0, 1) := by decide +kernel
theorem dX4_ofEnd_49 : decode cX4_ofEnd 49 = .ok (.getfield 11, 3) := by decide +kernel
theorem dX4_ofEnd_52 : decode cX4_ofEnd 52 = .ok (.iconst 5, 1) := by decide +kernel
theorem dX4_ofEnd_53 : decode cX4_ofEnd 53 = .ok (.aload_n 3, 1) := by decide +kernel
theorem dX4_ofEnd_54 : decode cX4_ofEnd 54 = .ok (.getfield 50, 3) := by decide +kernel
theorem dX4_ofEnd_57 : decode cX4_ofEnd 57 = .ok (.iload_n 2, 1) := by decide +kernel
theorem dX4_ofEnd_58 : decode cX4_ofEnd 58 = .ok (.iaload, 1) := by decide +kernel
theorem dX4_ofEnd_59 : decode cX4_ofEnd 59 = .ok (.iastore, 1) := by decide +kernel
theorem dX4_ofEnd_60 : decode cX4_ofEnd 60 = .ok (.aload_n 0, 1) := by decide +kernel
theorem dX4_ofEnd_61 : decode cX4_ofEnd 61 = .ok (.getfield 11, 3) := by decide +kernel
theorem dX4_ofEnd_64 : decode cX4_ofEnd 64 = .ok (.bipush 6, 2) := by decide +kernel
theorem dX4_ofEnd_66 : decode cX4_ofEnd 66 = .ok (.aload_n 3, 1) := by decide +kernel
theorem dX4_ofEnd_67 : decode cX4_ofEnd 67 = .ok (.getfield 55, 3) := by decide +kernel
theorem dX4_ofEnd_70 : decode cX4_ofEnd 70 = .ok (.iload_n 2, 1) := by decide +kernel
theorem dX4_ofEnd_71 : decode cX4_ofEnd 71 = .ok (.iaload, 1) := by decide +kernel
theorem dX4_ofEnd_72 : decode cX4_ofEnd 72 = .ok (.iastore, 1) := by decide +kernel
theorem dX4_ofEnd_73 : decode cX4_ofEnd 73 = .ok (.aload_n 0, 1) := by decide +kernel
theorem dX4_ofEnd_74 : decode cX4_ofEnd 74 = .ok (.getfield 11, 3) := by decide +kernel
theorem dX4_ofEnd_77 : decode cX4_ofEnd 77 = .ok (.bipush 7, 2) := by decide +kernel
theorem dX4_ofEnd_79 : decode cX4_ofEnd 79 = .ok (.aload_n 3, 1) := by decide +kernel
theorem dX4_ofEnd_80 : decode cX4_ofEnd 80 = .ok (.getfield 58, 3) := by decide +kernel
theorem dX4_ofEnd_83 : decode cX4_ofEnd 83 = .ok (.iload_n 2, 1) := by decide +kernel
theorem dX4_ofEnd_84 : decode cX4_ofEnd 84 = .ok (.iaload, 1) := by decide +kernel
theorem dX4_ofEnd_85 : decode cX4_ofEnd 85 = .ok (.iastore, 1) := by decide +kernel
theorem dX4_ofEnd_86 : decode cX4_ofEnd 86 = .ok (.aload_n 0, 1) := by decide +kernel
theorem dX4_ofEnd_87 : decode cX4_ofEnd 87 = .ok (.getfield 11, 3) := by decide +kernel
theorem dX4_ofEnd_90 : decode cX4_ofEnd 90 = .ok (.bipush 8, 2) := by decide +kernel
theorem dX4_ofEnd_92 : decode cX4_ofEnd 92 = .ok (.aload_n 3, 1) := by decide +kernel
theorem dX4_ofEnd_93 : decode cX4_ofEnd 93 = .ok (.getfield 61, 3) := by decide +kernel
theorem dX4_ofEnd_96 : decode cX4_ofEnd 96 = .ok (.iload_n 2, 1) := by decide +kernel
theorem dX4_ofEnd_97 : decode cX4_ofEnd 97 = .ok (.iaload, 1) := by decide +kernel
theorem dX4_ofEnd_98 : decode cX4_ofEnd 98 = .ok (.iastore, 1) := by decide +kernel
theorem dX4_ofEnd_99 : decode cX4_ofEnd 99 = .ok (.aload_n 0, 1) := by decide +kernel
theorem dX4_ofEnd_100 : decode cX4_ofEnd 100 = .ok (.iload_n 1, 1) := by decide +kernel
theorem dX4_ofEnd_101 : decode cX4_ofEnd 101 = .ok (.invokevirtual 64, 3) := by decide +kernel
theorem dX4_ofEnd_104 : decode cX4_ofEnd 104 = .ok (.ireturn, 1) := by decide +kernel
theorem dX4_ofEnd_105 : decode cX4_ofEnd 105 = .ok (.iload_n 1, 1) := by decide +kernel
theorem dX4_ofEnd_106 : decode cX4_ofEnd 106 = .ok (.ifCond .ne 12, 3) := by decide +kernel
theorem dX4_ofEnd_109 : decode cX4_ofEnd 109 = .ok (.aload_n 3, 1) := by decide +kernel
theorem dX4_ofEnd_110 : decode cX4_ofEnd 110 = .ok (.getfield 50, 3) := by decide +kernel
theorem dX4_ofEnd_113 : decode cX4_ofEnd 113 = .ok (.iload_n 2, 1) := by decide +kernel
theorem dX4_ofEnd_114 : decode cX4_ofEnd 114 = .ok (.iaload, 1) := by decide +kernel
theorem dX4_ofEnd_115 : decode cX4_ofEnd 115 = .ok (.goto 23, 3) := by decide +kernel
theorem dX4_ofEnd_118 : decode cX4_ofEnd 118 = .ok (.iload_n 1, 1) := by decide +kernel
theorem dX4_ofEnd_119 : decode cX4_ofEnd 119 = .ok (.iconst 1, 1) := by decide +kernel
theorem dX4_ofEnd_120 : decode cX4_ofEnd 120 = .ok (.if_icmp .ne 12, 3) := by decide +kernel
theorem dX4_ofEnd_123 : decode cX4_ofEnd 123 = .ok (.aload_n 3, 1) := by decide +kernel
theorem dX4_ofEnd_124 : decode cX4_ofEnd 124 = .ok (.getfield 58, 3) := by decide +kernel
theorem dX4_ofEnd_127 : decode cX4_ofEnd 127 = .ok (.iload_n 2, 1) := by decide +kernel
theorem dX4_ofEnd_128 : decode cX4_ofEnd 128 = .ok (.iaload, 1) := by decide +kernel
theorem dX4_ofEnd_129 : decode cX4_ofEnd 129 = .ok (.goto 9, 3) := by decide +kernel
theorem dX4_ofEnd_132 : decode cX4_ofEnd 132 = .ok (.aload_n 3, 1) := by decide +kernel
theorem dX4_ofEnd_133 : decode cX4_ofEnd 133 = .ok (.getfield 61, 3) := by decide +kernel
theorem dX4_ofEnd_136 : decode cX4_ofEnd 136 = .ok (.iload_n 2, 1) := by decide +kernel
theorem dX4_ofEnd_137 : decode cX4_ofEnd 137 = .ok (.iaload, 1) := by decide +kernel
theorem dX4_ofEnd_138 : decode cX4_ofEnd 138 = .ok (.ireturn, 1) := by decide +kernel
theorem dX4_coldOf_0 : decode cX4_coldOf 0 = .ok (.aload_n 0, 1) := by decide +kernel
theorem dX4_coldOf_1 : decode cX4_coldOf 1 = .ok (.iconst 3, 1) := by decide +kernel
theorem dX4_coldOf_2 : decode cX4_coldOf 2 = .ok (.invokevirtual 27, 3) := by decide +kernel
theorem dX4_coldOf_5 : decode cX4_coldOf 5 = .ok (.ifCond .eq 25, 3) := by decide +kernel
theorem dX4_coldOf_8 : decode cX4_coldOf 8 = .ok (.aload_n 0, 1) := by decide +kernel
theorem dX4_coldOf_9 : decode cX4_coldOf 9 = .ok (.iload_n 1, 1) := by decide +kernel
theorem dX4_coldOf_10 : decode cX4_coldOf 10 = .ok (.aload_n 3, 1) := by decide +kernel
theorem dX4_coldOf_11 : decode cX4_coldOf 11 = .ok (.aload 4, 2) := by decide +kernel
theorem dX4_coldOf_13 : decode cX4_coldOf 13 = .ok (.invokevirtual 31, 3) := by decide +kernel
theorem dX4_coldOf_16 : decode cX4_coldOf 16 = .ok (.aload_n 0, 1) := by decide +kernel
theorem dX4_coldOf_17 : decode cX4_coldOf 17 = .ok (.getfield 11, 3) := by decide +kernel
theorem dX4_coldOf_20 : decode cX4_coldOf 20 = .ok (.bipush 9, 2) := by decide +kernel
theorem dX4_coldOf_22 : decode cX4_coldOf 22 = .ok (.iload_n 2, 1) := by decide +kernel
theorem dX4_coldOf_23 : decode cX4_coldOf 23 = .ok (.iastore, 1) := by decide +kernel
theorem dX4_coldOf_24 : decode cX4_coldOf 24 = .ok (.aload_n 0, 1) := by decide +kernel
theorem dX4_coldOf_25 : decode cX4_coldOf 25 = .ok (.iconst 3, 1) := by decide +kernel
theorem dX4_coldOf_26 : decode cX4_coldOf 26 = .ok (.invokevirtual 64, 3) := by decide +kernel
theorem dX4_coldOf_29 : decode cX4_coldOf 29 = .ok (.ireturn, 1) := by decide +kernel
theorem dX4_coldOf_30 : decode cX4_coldOf 30 = .ok (.iload_n 2, 1) := by decide +kernel
theorem dX4_coldOf_31 : decode cX4_coldOf 31 = .ok (.ireturn, 1) := by decide +kernel
theorem dX4_hasteOf_0 : decode cX4_hasteOf 0 = .ok (.aload_n 0, 1) := by decide +kernel
theorem dX4_hasteOf_1 : decode cX4_hasteOf 1 = .ok (.iconst 4, 1) := by decide +kernel
theorem dX4_hasteOf_2 : decode cX4_hasteOf 2 = .ok (.invokevirtual 27, 3) := by decide +kernel
theorem dX4_hasteOf_5 : decode cX4_hasteOf 5 = .ok (.ifCond .eq 25, 3) := by decide +kernel
theorem dX4_hasteOf_8 : decode cX4_hasteOf 8 = .ok (.aload_n 0, 1) := by decide +kernel
theorem dX4_hasteOf_9 : decode cX4_hasteOf 9 = .ok (.iload_n 1, 1) := by decide +kernel
theorem dX4_hasteOf_10 : decode cX4_hasteOf 10 = .ok (.aload_n 3, 1) := by decide +kernel
theorem dX4_hasteOf_11 : decode cX4_hasteOf 11 = .ok (.aload 4, 2) := by decide +kernel
theorem dX4_hasteOf_13 : decode cX4_hasteOf 13 = .ok (.invokevirtual 31, 3) := by decide +kernel
theorem dX4_hasteOf_16 : decode cX4_hasteOf 16 = .ok (.aload_n 0, 1) := by decide +kernel
theorem dX4_hasteOf_17 : decode cX4_hasteOf 17 = .ok (.getfield 11, 3) := by decide +kernel
theorem dX4_hasteOf_20 : decode cX4_hasteOf 20 = .ok (.bipush 10, 2) := by decide +kernel
theorem dX4_hasteOf_22 : decode cX4_hasteOf 22 = .ok (.iload_n 2, 1) := by decide +kernel
theorem dX4_hasteOf_23 : decode cX4_hasteOf 23 = .ok (.iastore, 1) := by decide +kernel
theorem dX4_hasteOf_24 : decode cX4_hasteOf 24 = .ok (.aload_n 0, 1) := by decide +kernel
theorem dX4_hasteOf_25 : decode cX4_hasteOf 25 = .ok (.iconst 4, 1) := by decide +kernel
theorem dX4_hasteOf_26 : decode cX4_hasteOf 26 = .ok (.invokevirtual 64, 3) := by decide +kernel
theorem dX4_hasteOf_29 : decode cX4_hasteOf 29 = .ok (.ireturn, 1) := by decide +kernel
theorem dX4_hasteOf_30 : decode cX4_hasteOf 30 = .ok (.iconst 1, 1) := by decide +kernel
theorem dX4_hasteOf_31 : decode cX4_hasteOf 31 = .ok (.ireturn, 1) := by decide +kernel
theorem dX4_nameAll_0 : decode cX4_nameAll 0 = .ok (.aload_n 0, 1) := by decide +kernel
theorem dX4_nameAll_1 : decode cX4_nameAll 1 = .ok (.getfield 11, 3) := by decide +kernel
theorem dX4_nameAll_4 : decode cX4_nameAll 4 = .ok (.iconst 0, 1) := by decide +kernel
theorem dX4_nameAll_5 : decode cX4_nameAll 5 = .ok (.iload_n 1, 1) := by decide +kernel
theorem dX4_nameAll_6 : decode cX4_nameAll 6 = .ok (.iastore, 1) := by decide +kernel
theorem dX4_nameAll_7 : decode cX4_nameAll 7 = .ok (.aload_n 0, 1) := by decide +kernel
theorem dX4_nameAll_8 : decode cX4_nameAll 8 = .ok (.getfield 11, 3) := by decide +kernel
theorem dX4_nameAll_11 : decode cX4_nameAll 11 = .ok (.iconst 1, 1) := by decide +kernel
theorem dX4_nameAll_12 : decode cX4_nameAll 12 = .ok (.aload_n 2, 1) := by decide +kernel
theorem dX4_nameAll_13 : decode cX4_nameAll 13 = .ok (.getfield 70, 3) := by decide +kernel
theorem dX4_nameAll_16 : decode cX4_nameAll 16 = .ok (.iastore, 1) := by decide +kernel
theorem dX4_nameAll_17 : decode cX4_nameAll 17 = .ok (.aload_n 0, 1) := by decide +kernel
theorem dX4_nameAll_18 : decode cX4_nameAll 18 = .ok (.getfield 11, 3) := by decide +kernel
theorem dX4_nameAll_21 : decode cX4_nameAll 21 = .ok (.iconst 2, 1) := by decide +kernel
theorem dX4_nameAll_22 : decode cX4_nameAll 22 = .ok (.aload_n 3, 1) := by decide +kernel
theorem dX4_nameAll_23 : decode cX4_nameAll 23 = .ok (.getfield 73, 3) := by decide +kernel
theorem dX4_nameAll_26 : decode cX4_nameAll 26 = .ok (.iastore, 1) := by decide +kernel
theorem dX4_nameAll_27 : decode cX4_nameAll 27 = .ok (.return_, 1) := by decide +kernel
theorem dX4_valueOf_0 : decode cX4_valueOf 0 = .ok (.aload_n 0, 1) := by decide +kernel
theorem dX4_valueOf_1 : decode cX4_valueOf 1 = .ok (.iconst 0, 1) := by decide +kernel
theorem dX4_valueOf_2 : decode cX4_valueOf 2 = .ok (.putfield 76, 3) := by decide +kernel
theorem dX4_valueOf_5 : decode cX4_valueOf 5 = .ok (.aload_n 0, 1) := by decide +kernel
theorem dX4_valueOf_6 : decode cX4_valueOf 6 = .ok (.getfield 18, 3) := by decide +kernel
theorem dX4_valueOf_9 : decode cX4_valueOf 9 = .ok (.getfield 79, 3) := by decide +kernel
theorem dX4_valueOf_12 : decode cX4_valueOf 12 = .ok (.iload_n 1, 1) := by decide +kernel
theorem dX4_valueOf_13 : decode cX4_valueOf 13 = .ok (.iaload, 1) := by decide +kernel
theorem dX4_valueOf_14 : decode cX4_valueOf 14 = .ok (.aload_n 0, 1) := by decide +kernel
theorem dX4_valueOf_15 : decode cX4_valueOf 15 = .ok (.getfield 18, 3) := by decide +kernel
theorem dX4_valueOf_18 : decode cX4_valueOf 18 = .ok (.getfield 82, 3) := by decide +kernel
theorem dX4_valueOf_21 : decode cX4_valueOf 21 = .ok (.arraylength, 1) := by decide +kernel
theorem dX4_valueOf_22 : decode cX4_valueOf 22 = .ok (.invokestatic 85, 3) := by decide +kernel
theorem dX4_valueOf_25 : decode cX4_valueOf 25 = .ok (.istore_n 2, 1) := by decide +kernel
theorem dX4_valueOf_26 : decode cX4_valueOf 26 = .ok (.aload_n 0, 1) := by decide +kernel
theorem dX4_valueOf_27 : decode cX4_valueOf 27 = .ok (.getfield 18, 3) := by decide +kernel
theorem dX4_valueOf_30 : decode cX4_valueOf 30 = .ok (.getfield 22, 3) := by decide +kernel
theorem dX4_valueOf_33 : decode cX4_valueOf 33 = .ok (.iload_n 1, 1) := by decide +kernel
theorem dX4_valueOf_34 : decode cX4_valueOf 34 = .ok (.iaload, 1) := by decide +kernel
theorem dX4_valueOf_35 : decode cX4_valueOf 35 = .ok (.istore_n 3, 1) := by decide +kernel
theorem dX4_valueOf_36 : decode cX4_valueOf 36 = .ok (.iload_n 3, 1) := by decide +kernel
theorem dX4_valueOf_37 : decode cX4_valueOf 37 = .ok (.iload_n 2, 1) := by decide +kernel
theorem dX4_valueOf_38 : decode cX4_valueOf 38 = .ok (.if_icmp .ge 216, 3) := by decide +kernel
theorem dX4_valueOf_41 : decode cX4_valueOf 41 = .ok (.aload_n 0, 1) := by decide +kernel
theorem dX4_valueOf_42 : decode cX4_valueOf 42 = .ok (.getfield 18, 3) := by decide +kernel
theorem dX4_valueOf_45 : decode cX4_valueOf 45 = .ok (.getfield 82, 3) := by decide +kernel
theorem dX4_valueOf_48 : decode cX4_valueOf 48 = .ok (.iload_n 3, 1) := by decide +kernel
theorem dX4_valueOf_49 : decode cX4_valueOf 49 = .ok (.iaload, 1) := by decide +kernel
theorem dX4_valueOf_50 : decode cX4_valueOf 50 = .ok (.bipush 32, 2) := by decide +kernel
theorem dX4_valueOf_52 : decode cX4_valueOf 52 = .ok (.irem, 1) := by decide +kernel
theorem dX4_valueOf_53 : decode cX4_valueOf 53 = .ok (.istore 4, 2) := by decide +kernel
theorem dX4_valueOf_55 : decode cX4_valueOf 55 = .ok (.aload_n 0, 1) := by decide +kernel
theorem dX4_valueOf_56 : decode cX4_valueOf 56 = .ok (.getfield 18, 3) := by decide +kernel
theorem dX4_valueOf_59 : decode cX4_valueOf 59 = .ok (.getfield 82, 3) := by decide +kernel
theorem dX4_valueOf_62 : decode cX4_valueOf 62 = .ok (.iload_n 3, 1) := by decide +kernel
theorem dX4_valueOf_63 : decode cX4_valueOf 63 = .ok (.iaload, 1) := by decide +kernel
theorem dX4_valueOf_64 : decode cX4_valueOf 64 = .ok (.bipush 32, 2) := by decide +kernel
theorem dX4_valueOf_66 : decode cX4_valueOf 66 = .ok (.idiv, 1) := by decide +kernel
theorem dX4_valueOf_67 : decode cX4_valueOf 67 = .ok (.istore 5, 2) := by decide +kernel
theorem dX4_valueOf_69 : decode cX4_valueOf 69 = .ok (.iload 4, 2) := by decide +kernel
theorem dX4_valueOf_71 : decode cX4_valueOf 71 = .ok (.tableswitch 131 0 5 #[37, 46, 71, 83, 106, 118], 37) := by decide +kernel
theorem dX4_valueOf_108 : decode cX4_valueOf 108 = .ok (.aload_n 0, 1) := by decide +kernel
theorem dX4_valueOf_109 : decode cX4_valueOf 109 = .ok (.iload 5, 2) := by decide +kernel
theorem dX4_valueOf_111 : decode cX4_valueOf 111 = .ok (.invokevirtual 91, 3) := by decide +kernel
theorem dX4_valueOf_114 : decode cX4_valueOf 114 = .ok (.goto 134, 3) := by decide +kernel
theorem dX4_valueOf_117 : decode cX4_valueOf 117 = .ok (.aload_n 0, 1) := by decide +kernel
theorem dX4_valueOf_118 : decode cX4_valueOf 118 = .ok (.iload 5, 2) := by decide +kernel
theorem dX4_valueOf_120 : decode cX4_valueOf 120 = .ok (.bipush 11, 2) := by decide +kernel
theorem dX4_valueOf_122 : decode cX4_valueOf 122 = .ok (.if_icmp .ge 13, 3) := by decide +kernel
theorem dX4_valueOf_125 : decode cX4_valueOf 125 = .ok (.aload_n 0, 1) := by decide +kernel
theorem dX4_valueOf_126 : decode cX4_valueOf 126 = .ok (.getfield 11, 3) := by decide +kernel
theorem dX4_valueOf_129 : decode cX4_valueOf 129 = .ok (.iload 5, 2) := by decide +kernel
theorem dX4_valueOf_131 : decode cX4_valueOf 131 = .ok (.iaload, 1) := by decide +kernel
theorem dX4_valueOf_132 : decode cX4_valueOf 132 = .ok (.goto 4, 3) := by decide +kernel
theorem dX4_valueOf_135 : decode cX4_valueOf 135 = .ok (.iconst 0, 1) := by decide +kernel
theorem dX4_valueOf_136 : decode cX4_valueOf 136 = .ok (.invokevirtual 91, 3) := by decide +kernel
theorem dX4_valueOf_139 : decode cX4_valueOf 139 = .ok (.goto 109, 3) := by decide +kernel
theorem dX4_valueOf_142 : decode cX4_valueOf 142 = .ok (.iload_n 3, 1) := by decide +kernel
theorem dX4_valueOf_143 : decode cX4_valueOf 143 = .ok (.iload 5, 2) := by decide +kernel
theorem dX4_valueOf_145 : decode cX4_valueOf 145 = .ok (.iconst 1, 1) := by decide +kernel
theorem dX4_valueOf_146 : decode cX4_valueOf 146 = .ok (.isub, 1) := by decide +kernel
theorem dX4_valueOf_147 : decode cX4_valueOf 147 = .ok (.invokestatic 95, 3) := by decide +kernel
theorem dX4_valueOf_150 : decode cX4_valueOf 150 = .ok (.istore_n 3, 1) := by decide +kernel
theorem dX4_valueOf_151 : decode cX4_valueOf 151 = .ok (.goto 97, 3) := by decide +kernel
theorem dX4_valueOf_154 : decode cX4_valueOf 154 = .ok (.aload_n 0, 1) := by decide +kernel
theorem dX4_valueOf_155 : decode cX4_valueOf 155 = .ok (.invokevirtual 98, 3) := by decide +kernel
theorem dX4_valueOf_158 : decode cX4_valueOf 158 = .ok (.ifCond .ne 14, 3) := by decide +kernel
theorem dX4_valueOf_161 : decode cX4_valueOf 161 = .ok (.iload_n 3, 1) := by decide +kernel
theorem dX4_valueOf_162 : decode cX4_valueOf 162 = .ok (.iload 5, 2) := by decide +kernel
theorem dX4_valueOf_164 : decode cX4_valueOf 164 = .ok (.iconst 1, 1) := by decide +kernel
theorem dX4_valueOf_165 : decode cX4_valueOf 165 = .ok (.isub, 1) := by decide +kernel
theorem dX4_valueOf_166 : decode cX4_valueOf 166 = .ok (.invokestatic 95, 3) := by decide +kernel
theorem dX4_valueOf_169 : decode cX4_valueOf 169 = .ok (.goto 4, 3) := by decide +kernel
theorem dX4_valueOf_172 : decode cX4_valueOf 172 = .ok (.iload_n 3, 1) := by decide +kernel
theorem dX4_valueOf_173 : decode cX4_valueOf 173 = .ok (.istore_n 3, 1) := by decide +kernel
theorem dX4_valueOf_174 : decode cX4_valueOf 174 = .ok (.goto 74, 3) := by decide +kernel
theorem dX4_valueOf_177 : decode cX4_valueOf 177 = .ok (.aload_n 0, 1) := by decide +kernel
theorem dX4_valueOf_178 : decode cX4_valueOf 178 = .ok (.aload_n 0, 1) := by decide +kernel
theorem dX4_valueOf_179 : decode cX4_valueOf 179 = .ok (.invokevirtual 98, 3) := by decide +kernel
theorem dX4_valueOf_182 : decode cX4_valueOf 182 = .ok (.ineg, 1) := by decide +kernel
theorem dX4_valueOf_183 : decode cX4_valueOf 183 = .ok (.invokevirtual 91, 3) := by decide +kernel
theorem dX4_valueOf_186 : decode cX4_valueOf 186 = .ok (.goto 62, 3) := by decide +kernel
theorem dX4_valueOf_189 : decode cX4_valueOf 189 = .ok (.aload_n 0, 1) := by decide +kernel
theorem dX4_valueOf_190 : decode cX4_valueOf 190 = .ok (.iconst 1, 1) := by decide +kernel
theorem dX4_valueOf_191 : decode cX4_valueOf 191 = .ok (.aload_n 0, 1) := by decide +kernel
theorem dX4_valueOf_192 : decode cX4_valueOf 192 = .ok (.invokevirtual 98, 3) := by decide +kernel
theorem dX4_valueOf_195 : decode cX4_valueOf 195 = .ok (.isub, 1) := by decide +kernel
theorem dX4_valueOf_196 : decode cX4_valueOf 196 = .ok (.invokevirtual 91, 3) := by decide +kernel
theorem dX4_valueOf_199 : decode cX4_valueOf 199 = .ok (.goto 49, 3) := by decide +kernel
theorem dX4_valueOf_202 : decode cX4_valueOf 202 = .ok (.aload_n 0, 1) := by decide +kernel
theorem dX4_valueOf_203 : decode cX4_valueOf 203 = .ok (.invokevirtual 98, 3) := by decide +kernel
theorem dX4_valueOf_206 : decode cX4_valueOf 206 = .ok (.istore 6, 2) := by decide +kernel
theorem dX4_valueOf_208 : decode cX4_valueOf 208 = .ok (.aload_n 0, 1) := by decide +kernel
theorem dX4_valueOf_209 : decode cX4_valueOf 209 = .ok (.invokevirtual 98, 3) := by decide +kernel
theorem dX4_valueOf_212 : decode cX4_valueOf 212 = .ok (.istore 7, 2) := by decide +kernel
theorem dX4_valueOf_214 : decode cX4_valueOf 214 = .ok (.aload_n 0, 1) := by decide +kernel
theorem dX4_valueOf_215 : decode cX4_valueOf 215 = .ok (.iload 4, 2) := by decide +kernel
theorem dX4_valueOf_217 : decode cX4_valueOf 217 = .ok (.bipush 10, 2) := by decide +kernel
theorem dX4_valueOf_219 : decode cX4_valueOf 219 = .ok (.if_icmp .ge 17, 3) := by decide +kernel
theorem dX4_valueOf_222 : decode cX4_valueOf 222 = .ok (.iload 4, 2) := by decide +kernel
theorem dX4_valueOf_224 : decode cX4_valueOf 224 = .ok (.iload 7, 2) := by decide +kernel
theorem dX4_valueOf_226 : decode cX4_valueOf 226 = .ok (.i2l, 1) := by decide +kernel
theorem dX4_valueOf_227 : decode cX4_valueOf 227 = .ok (.iload 6, 2) := by decide +kernel
theorem dX4_valueOf_229 : decode cX4_valueOf 229 = .ok (.i2l, 1) := by decide +kernel
theorem dX4_valueOf_230 : decode cX4_valueOf 230 = .ok (.invokestatic 102, 3) := by decide +kernel
theorem dX4_valueOf_233 : decode cX4_valueOf 233 = .ok (.goto 12, 3) := by decide +kernel
theorem dX4_valueOf_236 : decode cX4_valueOf 236 = .ok (.iload 4, 2) := by decide +kernel
theorem dX4_valueOf_238 : decode cX4_valueOf 238 = .ok (.iload 7, 2) := by decide +kernel
theorem dX4_valueOf_240 : decode cX4_valueOf 240 = .ok (.iload 6, 2) := by decide +kernel
theorem dX4_valueOf_242 : decode cX4_valueOf 242 = .ok (.invokestatic 106, 3) := by decide +kernel
theorem dX4_valueOf_245 : decode cX4_valueOf 245 = .ok (.invokevirtual 91, 3) := by decide +kernel
theorem dX4_valueOf_248 : decode cX4_valueOf 248 = .ok (.iinc 3 1, 3) := by decide +kernel
theorem dX4_valueOf_251 : decode cX4_valueOf 251 = .ok (.goto (-215), 3) := by decide +kernel
theorem dX4_valueOf_254 : decode cX4_valueOf 254 = .ok (.getstatic 110, 3) := by decide +kernel
theorem dX4_valueOf_257 : decode cX4_valueOf 257 = .ok (.iload_n 1, 1) := by decide +kernel
theorem dX4_valueOf_258 : decode cX4_valueOf 258 = .ok (.iaload, 1) := by decide +kernel
theorem dX4_valueOf_259 : decode cX4_valueOf 259 = .ok (.getstatic 113, 3) := by decide +kernel
theorem dX4_valueOf_262 : decode cX4_valueOf 262 = .ok (.iload_n 1, 1) := by decide +kernel
theorem dX4_valueOf_263 : decode cX4_valueOf 263 = .ok (.iaload, 1) := by decide +kernel
theorem dX4_valueOf_264 : decode cX4_valueOf 264 = .ok (.aload_n 0, 1) := by decide +kernel
theorem dX4_valueOf_265 : decode cX4_valueOf 265 = .ok (.invokevirtual 98, 3) := by decide +kernel
theorem dX4_valueOf_268 : decode cX4_valueOf 268 = .ok (.invokestatic 85, 3) := by decide +kernel
theorem dX4_valueOf_271 : decode cX4_valueOf 271 = .ok (.invokestatic 95, 3) := by decide +kernel
theorem dX4_valueOf_274 : decode cX4_valueOf 274 = .ok (.ireturn, 1) := by decide +kernel
theorem dX4_reckon_0 : decode cX4_reckon 0 = .ok (.iload_n 0, 1) := by decide +kernel
theorem dX4_reckon_1 : decode cX4_reckon 1 = .ok (.tableswitch 51 6 8 #[27, 35, 43], 27) := by decide +kernel
theorem dX4_reckon_28 : decode cX4_reckon 28 = .ok (.lload_n 1, 1) := by decide +kernel
theorem dX4_reckon_29 : decode cX4_reckon 29 = .ok (.lload_n 3, 1) := by decide +kernel
theorem dX4_reckon_30 : decode cX4_reckon 30 = .ok (.ladd, 1) := by decide +kernel
theorem dX4_reckon_31 : decode cX4_reckon 31 = .ok (.lstore 5, 2) := by decide +kernel
theorem dX4_reckon_33 : decode cX4_reckon 33 = .ok (.goto 34, 3) := by decide +kernel
theorem dX4_reckon_36 : decode cX4_reckon 36 = .ok (.lload_n 1, 1) := by decide +kernel
theorem dX4_reckon_37 : decode cX4_reckon 37 = .ok (.lload_n 3, 1) := by decide +kernel
theorem dX4_reckon_38 : decode cX4_reckon 38 = .ok (.lsub, 1) := by decide +kernel
theorem dX4_reckon_39 : decode cX4_reckon 39 = .ok (.lstore 5, 2) := by decide +kernel
theorem dX4_reckon_41 : decode cX4_reckon 41 = .ok (.goto 26, 3) := by decide +kernel
theorem dX4_reckon_44 : decode cX4_reckon 44 = .ok (.lload_n 1, 1) := by decide +kernel
theorem dX4_reckon_45 : decode cX4_reckon 45 = .ok (.lload_n 3, 1) := by decide +kernel
theorem dX4_reckon_46 : decode cX4_reckon 46 = .ok (.lmul, 1) := by decide +kernel
theorem dX4_reckon_47 : decode cX4_reckon 47 = .ok (.lstore 5, 2) := by decide +kernel
theorem dX4_reckon_49 : decode cX4_reckon 49 = .ok (.goto 18, 3) := by decide +kernel
theorem dX4_reckon_52 : decode cX4_reckon 52 = .ok (.lload_n 3, 1) := by decide +kernel
theorem dX4_reckon_53 : decode cX4_reckon 53 = .ok (.lconst 0, 1) := by decide +kernel
theorem dX4_reckon_54 : decode cX4_reckon 54 = .ok (.lcmp, 1) := by decide +kernel
theorem dX4_reckon_55 : decode cX4_reckon 55 = .ok (.ifCond .ne 7, 3) := by decide +kernel
theorem dX4_reckon_58 : decode cX4_reckon 58 = .ok (.lconst 0, 1) := by decide +kernel
theorem dX4_reckon_59 : decode cX4_reckon 59 = .ok (.goto 6, 3) := by decide +kernel
theorem dX4_reckon_62 : decode cX4_reckon 62 = .ok (.lload_n 1, 1) := by decide +kernel
theorem dX4_reckon_63 : decode cX4_reckon 63 = .ok (.lload_n 3, 1) := by decide +kernel
theorem dX4_reckon_64 : decode cX4_reckon 64 = .ok (.ldiv, 1) := by decide +kernel
theorem dX4_reckon_65 : decode cX4_reckon 65 = .ok (.lstore 5, 2) := by decide +kernel
theorem dX4_reckon_67 : decode cX4_reckon 67 = .ok (.ldc2_w 116, 3) := by decide +kernel
theorem dX4_reckon_70 : decode cX4_reckon 70 = .ok (.ldc2_w 118, 3) := by decide +kernel
theorem dX4_reckon_73 : decode cX4_reckon 73 = .ok (.lload 5, 2) := by decide +kernel
theorem dX4_reckon_75 : decode cX4_reckon 75 = .ok (.invokestatic 120, 3) := by decide +kernel
theorem dX4_reckon_78 : decode cX4_reckon 78 = .ok (.invokestatic 123, 3) := by decide +kernel
theorem dX4_reckon_81 : decode cX4_reckon 81 = .ok (.l2i, 1) := by decide +kernel
theorem dX4_reckon_82 : decode cX4_reckon 82 = .ok (.ireturn, 1) := by decide +kernel
theorem dX4_asked_0 : decode cX4_asked 0 = .ok (.iload_n 0, 1) := by decide +kernel
theorem dX4_asked_1 : decode cX4_asked 1 = .ok (.tableswitch 144 10 16 #[43, 57, 71, 85, 99, 113, 127], 43) := by decide +kernel
theorem dX4_asked_44 : decode cX4_asked 44 = .ok (.iload_n 1, 1) := by decide +kernel
theorem dX4_asked_45 : decode cX4_asked 45 = .ok (.iload_n 2, 1) := by decide +kernel
theorem dX4_asked_46 : decode cX4_asked 46 = .ok (.if_icmp .ge 7, 3) := by decide +kernel
theorem dX4_asked_49 : decode cX4_asked 49 = .ok (.iconst 1, 1) := by decide +kernel
theorem dX4_asked_50 : decode cX4_asked 50 = .ok (.goto 4, 3) := by decide +kernel
theorem dX4_asked_53 : decode cX4_asked 53 = .ok (.iconst 0, 1) := by decide +kernel
theorem dX4_asked_54 : decode cX4_asked 54 = .ok (.istore_n 3, 1) := by decide +kernel
theorem dX4_asked_55 : decode cX4_asked 55 = .ok (.goto 104, 3) := by decide +kernel
theorem dX4_asked_58 : decode cX4_asked 58 = .ok (.iload_n 1, 1) := by decide +kernel
theorem dX4_asked_59 : decode cX4_asked 59 = .ok (.iload_n 2, 1) := by decide +kernel
theorem dX4_asked_60 : decode cX4_asked 60 = .ok (.if_icmp .gt 7, 3) := by decide +kernel
theorem dX4_asked_63 : decode cX4_asked 63 = .ok (.iconst 1, 1) := by decide +kernel
theorem dX4_asked_64 : decode cX4_asked 64 = .ok (.goto 4, 3) := by decide +kernel
theorem dX4_asked_67 : decode cX4_asked 67 = .ok (.iconst 0, 1) := by decide +kernel
theorem dX4_asked_68 : decode cX4_asked 68 = .ok (.istore_n 3, 1) := by decide +kernel
theorem dX4_asked_69 : decode cX4_asked 69 = .ok (.goto 90, 3) := by decide +kernel
theorem dX4_asked_72 : decode cX4_asked 72 = .ok (.iload_n 1, 1) := by decide +kernel
theorem dX4_asked_73 : decode cX4_asked 73 = .ok (.iload_n 2, 1) := by decide +kernel
theorem dX4_asked_74 : decode cX4_asked 74 = .ok (.if_icmp .le 7, 3) := by decide +kernel
theorem dX4_asked_77 : decode cX4_asked 77 = .ok (.iconst 1, 1) := by decide +kernel
theorem dX4_asked_78 : decode cX4_asked 78 = .ok (.goto 4, 3) := by decide +kernel
theorem dX4_asked_81 : decode cX4_asked 81 = .ok (.iconst 0, 1) := by decide +kernel
theorem dX4_asked_82 : decode cX4_asked 82 = .ok (.istore_n 3, 1) := by decide +kernel
theorem dX4_asked_83 : decode cX4_asked 83 = .ok (.goto 76, 3) := by decide +kernel
theorem dX4_asked_86 : decode cX4_asked 86 = .ok (.iload_n 1, 1) := by decide +kernel
theorem dX4_asked_87 : decode cX4_asked 87 = .ok (.iload_n 2, 1) := by decide +kernel
theorem dX4_asked_88 : decode cX4_asked 88 = .ok (.if_icmp .lt 7, 3) := by decide +kernel
theorem dX4_asked_91 : decode cX4_asked 91 = .ok (.iconst 1, 1) := by decide +kernel
theorem dX4_asked_92 : decode cX4_asked 92 = .ok (.goto 4, 3) := by decide +kernel
theorem dX4_asked_95 : decode cX4_asked 95 = .ok (.iconst 0, 1) := by decide +kernel
theorem dX4_asked_96 : decode cX4_asked 96 = .ok (.istore_n 3, 1) := by decide +kernel
theorem dX4_asked_97 : decode cX4_asked 97 = .ok (.goto 62, 3) := by decide +kernel
theorem dX4_asked_100 : decode cX4_asked 100 = .ok (.iload_n 1, 1) := by decide +kernel
theorem dX4_asked_101 : decode cX4_asked 101 = .ok (.iload_n 2, 1) := by decide +kernel
theorem dX4_asked_102 : decode cX4_asked 102 = .ok (.if_icmp .ne 7, 3) := by decide +kernel
theorem dX4_asked_105 : decode cX4_asked 105 = .ok (.iconst 1, 1) := by decide +kernel
theorem dX4_asked_106 : decode cX4_asked 106 = .ok (.goto 4, 3) := by decide +kernel
theorem dX4_asked_109 : decode cX4_asked 109 = .ok (.iconst 0, 1) := by decide +kernel
theorem dX4_asked_110 : decode cX4_asked 110 = .ok (.istore_n 3, 1) := by decide +kernel
theorem dX4_asked_111 : decode cX4_asked 111 = .ok (.goto 48, 3) := by decide +kernel
theorem dX4_asked_114 : decode cX4_asked 114 = .ok (.iload_n 1, 1) := by decide +kernel
theorem dX4_asked_115 : decode cX4_asked 115 = .ok (.iload_n 2, 1) := by decide +kernel
theorem dX4_asked_116 : decode cX4_asked 116 = .ok (.if_icmp .eq 7, 3) := by decide +kernel
theorem dX4_asked_119 : decode cX4_asked 119 = .ok (.iconst 1, 1) := by decide +kernel
theorem dX4_asked_120 : decode cX4_asked 120 = .ok (.goto 4, 3) := by decide +kernel
theorem dX4_asked_123 : decode cX4_asked 123 = .ok (.iconst 0, 1) := by decide +kernel
theorem dX4_asked_124 : decode cX4_asked 124 = .ok (.istore_n 3, 1) := by decide +kernel
theorem dX4_asked_125 : decode cX4_asked 125 = .ok (.goto 34, 3) := by decide +kernel
theorem dX4_asked_128 : decode cX4_asked 128 = .ok (.iload_n 1, 1) := by decide +kernel
theorem dX4_asked_129 : decode cX4_asked 129 = .ok (.ifCond .eq 11, 3) := by decide +kernel
theorem dX4_asked_132 : decode cX4_asked 132 = .ok (.iload_n 2, 1) := by decide +kernel
theorem dX4_asked_133 : decode cX4_asked 133 = .ok (.ifCond .eq 7, 3) := by decide +kernel
theorem dX4_asked_136 : decode cX4_asked 136 = .ok (.iconst 1, 1) := by decide +kernel
theorem dX4_asked_137 : decode cX4_asked 137 = .ok (.goto 4, 3) := by decide +kernel
theorem dX4_asked_140 : decode cX4_asked 140 = .ok (.iconst 0, 1) := by decide +kernel
theorem dX4_asked_141 : decode cX4_asked 141 = .ok (.istore_n 3, 1) := by decide +kernel
theorem dX4_asked_142 : decode cX4_asked 142 = .ok (.goto 17, 3) := by decide +kernel
theorem dX4_asked_145 : decode cX4_asked 145 = .ok (.iload_n 1, 1) := by decide +kernel
theorem dX4_asked_146 : decode cX4_asked 146 = .ok (.ifCond .ne 7, 3) := by decide +kernel
theorem dX4_asked_149 : decode cX4_asked 149 = .ok (.iload_n 2, 1) := by decide +kernel
theorem dX4_asked_150 : decode cX4_asked 150 = .ok (.ifCond .eq 7, 3) := by decide +kernel
theorem dX4_asked_153 : decode cX4_asked 153 = .ok (.iconst 1, 1) := by decide +kernel
theorem dX4_asked_154 : decode cX4_asked 154 = .ok (.goto 4, 3) := by decide +kernel
theorem dX4_asked_157 : decode cX4_asked 157 = .ok (.iconst 0, 1) := by decide +kernel
theorem dX4_asked_158 : decode cX4_asked 158 = .ok (.istore_n 3, 1) := by decide +kernel
theorem dX4_asked_159 : decode cX4_asked 159 = .ok (.iload_n 3, 1) := by decide +kernel
theorem dX4_asked_160 : decode cX4_asked 160 = .ok (.ifCond .eq 7, 3) := by decide +kernel
theorem dX4_asked_163 : decode cX4_asked 163 = .ok (.iconst 1, 1) := by decide +kernel
theorem dX4_asked_164 : decode cX4_asked 164 = .ok (.goto 4, 3) := by decide +kernel
theorem dX4_asked_167 : decode cX4_asked 167 = .ok (.iconst 0, 1) := by decide +kernel
theorem dX4_asked_168 : decode cX4_asked 168 = .ok (.ireturn, 1) := by decide +kernel
theorem dX4_push_0 : decode cX4_push 0 = .ok (.aload_n 0, 1) := by decide +kernel
theorem dX4_push_1 : decode cX4_push 1 = .ok (.getfield 76, 3) := by decide +kernel
theorem dX4_push_4 : decode cX4_push 4 = .ok (.bipush 64, 2) := by decide +kernel
theorem dX4_push_6 : decode cX4_push 6 = .ok (.if_icmp .ge 23, 3) := by decide +kernel
theorem dX4_push_9 : decode cX4_push 9 = .ok (.aload_n 0, 1) := by decide +kernel
theorem dX4_push_10 : decode cX4_push 10 = .ok (.getfield 15, 3) := by decide +kernel
theorem dX4_push_13 : decode cX4_push 13 = .ok (.aload_n 0, 1) := by decide +kernel
theorem dX4_push_14 : decode cX4_push 14 = .ok (.getfield 76, 3) := by decide +kernel
theorem dX4_push_17 : decode cX4_push 17 = .ok (.iload_n 1, 1) := by decide +kernel
theorem dX4_push_18 : decode cX4_push 18 = .ok (.iastore, 1) := by decide +kernel
theorem dX4_push_19 : decode cX4_push 19 = .ok (.aload_n 0, 1) := by decide +kernel
theorem dX4_push_20 : decode cX4_push 20 = .ok (.dup, 1) := by decide +kernel
theorem dX4_push_21 : decode cX4_push 21 = .ok (.getfield 76, 3) := by decide +kernel
theorem dX4_push_24 : decode cX4_push 24 = .ok (.iconst 1, 1) := by decide +kernel
theorem dX4_push_25 : decode cX4_push 25 = .ok (.iadd, 1) := by decide +kernel
theorem dX4_push_26 : decode cX4_push 26 = .ok (.putfield 76, 3) := by decide +kernel
theorem dX4_push_29 : decode cX4_push 29 = .ok (.return_, 1) := by decide +kernel
theorem dX4_pop_0 : decode cX4_pop 0 = .ok (.aload_n 0, 1) := by decide +kernel
theorem dX4_pop_1 : decode cX4_pop 1 = .ok (.getfield 76, 3) := by decide +kernel
theorem dX4_pop_4 : decode cX4_pop 4 = .ok (.ifCond .ne 5, 3) := by decide +kernel
theorem dX4_pop_7 : decode cX4_pop 7 = .ok (.iconst 0, 1) := by decide +kernel
theorem dX4_pop_8 : decode cX4_pop 8 = .ok (.ireturn, 1) := by decide +kernel
theorem dX4_pop_9 : decode cX4_pop 9 = .ok (.aload_n 0, 1) := by decide +kernel
theorem dX4_pop_10 : decode cX4_pop 10 = .ok (.dup, 1) := by decide +kernel
theorem dX4_pop_11 : decode cX4_pop 11 = .ok (.getfield 76, 3) := by decide +kernel
theorem dX4_pop_14 : decode cX4_pop 14 = .ok (.iconst 1, 1) := by decide +kernel
theorem dX4_pop_15 : decode cX4_pop 15 = .ok (.isub, 1) := by decide +kernel
theorem dX4_pop_16 : decode cX4_pop 16 = .ok (.putfield 76, 3) := by decide +kernel
theorem dX4_pop_19 : decode cX4_pop 19 = .ok (.aload_n 0, 1) := by decide +kernel
theorem dX4_pop_20 : decode cX4_pop 20 = .ok (.getfield 15, 3) := by decide +kernel
theorem dX4_pop_23 : decode cX4_pop 23 = .ok (.aload_n 0, 1) := by decide +kernel
theorem dX4_pop_24 : decode cX4_pop 24 = .ok (.getfield 76, 3) := by decide +kernel
theorem dX4_pop_27 : decode cX4_pop 27 = .ok (.iaload, 1) := by decide +kernel
theorem dX4_pop_28 : decode cX4_pop 28 = .ok (.ireturn, 1) := by decide +kernel
theorem dX5_init_0 : decode cX5_init 0 = .ok (.aload_n 0, 1) := by decide +kernel
theorem dX5_init_1 : decode cX5_init 1 = .ok (.invokespecial 3, 3) := by decide +kernel
theorem dX5_init_4 : decode cX5_init 4 = .ok (.aload_n 0, 1) := by decide +kernel
theorem dX5_init_5 : decode cX5_init 5 = .ok (.bipush 13, 2) := by decide +kernel
theorem dX5_init_7 : decode cX5_init 7 = .ok (.putfield 9, 3) := by decide +kernel
theorem dX5_init_10 : decode cX5_init 10 = .ok (.aload_n 0, 1) := by decide +kernel
theorem dX5_init_11 : decode cX5_init 11 = .ok (.bipush 16, 2) := by decide +kernel
theorem dX5_init_13 : decode cX5_init 13 = .ok (.newarray .int, 2) := by decide +kernel
theorem dX5_init_15 : decode cX5_init 15 = .ok (.putfield 15, 3) := by decide +kernel
theorem dX5_init_18 : decode cX5_init 18 = .ok (.aload_n 0, 1) := by decide +kernel
theorem dX5_init_19 : decode cX5_init 19 = .ok (.bipush 16, 2) := by decide +kernel
theorem dX5_init_21 : decode cX5_init 21 = .ok (.newarray .int, 2) := by decide +kernel
theorem dX5_init_23 : decode cX5_init 23 = .ok (.putfield 19, 3) := by decide +kernel
theorem dX5_init_26 : decode cX5_init 26 = .ok (.aload_n 0, 1) := by decide +kernel
theorem dX5_init_27 : decode cX5_init 27 = .ok (.bipush 16, 2) := by decide +kernel
theorem dX5_init_29 : decode cX5_init 29 = .ok (.newarray .int, 2) := by decide +kernel
theorem dX5_init_31 : decode cX5_init 31 = .ok (.putfield 22, 3) := by decide +kernel
theorem dX5_init_34 : decode cX5_init 34 = .ok (.aload_n 0, 1) := by decide +kernel
theorem dX5_init_35 : decode cX5_init 35 = .ok (.iconst 4, 1) := by decide +kernel
theorem dX5_init_36 : decode cX5_init 36 = .ok (.anewarray 25, 3) := by decide +kernel
theorem dX5_init_39 : decode cX5_init 39 = .ok (.putfield 27, 3) := by decide +kernel
theorem dX5_init_42 : decode cX5_init 42 = .ok (.iconst 0, 1) := by decide +kernel
theorem dX5_init_43 : decode cX5_init 43 = .ok (.istore_n 1, 1) := by decide +kernel
theorem dX5_init_44 : decode cX5_init 44 = .ok (.iload_n 1, 1) := by decide +kernel
theorem dX5_init_45 : decode cX5_init 45 = .ok (.iconst 4, 1) := by decide +kernel
theorem dX5_init_46 : decode cX5_init 46 = .ok (.if_icmp .ge 22, 3) := by decide +kernel
theorem dX5_init_49 : decode cX5_init 49 = .ok (.aload_n 0, 1) := by decide +kernel
theorem dX5_init_50 : decode cX5_init 50 = .ok (.getfield 27, 3) := by decide +kernel
theorem dX5_init_53 : decode cX5_init 53 = .ok (.iload_n 1, 1) := by decide +kernel
theorem dX5_init_54 : decode cX5_init 54 = .ok (.new 25, 3) := by decide +kernel
theorem dX5_init_57 : decode cX5_init 57 = .ok (.dup, 1) := by decide +kernel
theorem dX5_init_58 : decode cX5_init 58 = .ok (.invokespecial 31, 3) := by decide +kernel
theorem dX5_init_61 : decode cX5_init 61 = .ok (.aastore, 1) := by decide +kernel
theorem dX5_init_62 : decode cX5_init 62 = .ok (.iinc 1 1, 3) := by decide +kernel
theorem dX5_init_65 : decode cX5_init 65 = .ok (.goto (-21), 3) := by decide +kernel
theorem dX5_init_68 : decode cX5_init 68 = .ok (.return_, 1) := by decide +kernel
theorem dX5_copyFrom_0 : decode cX5_copyFrom 0 = .ok (.aload_n 0, 1) := by decide +kernel
theorem dX5_copyFrom_1 : decode cX5_copyFrom 1 = .ok (.aload_n 1, 1) := by decide +kernel
theorem dX5_copyFrom_2 : decode cX5_copyFrom 2 = .ok (.getfield 32, 3) := by decide +kernel
theorem dX5_copyFrom_5 : decode cX5_copyFrom 5 = .ok (.putfield 32, 3) := by decide +kernel
theorem dX5_copyFrom_8 : decode cX5_copyFrom 8 = .ok (.aload_n 0, 1) := by decide +kernel
theorem dX5_copyFrom_9 : decode cX5_copyFrom 9 = .ok (.aload_n 1, 1) := by decide +kernel
theorem dX5_copyFrom_10 : decode cX5_copyFrom 10 = .ok (.getfield 35, 3) := by decide +kernel
theorem dX5_copyFrom_13 : decode cX5_copyFrom 13 = .ok (.putfield 35, 3) := by decide +kernel
theorem dX5_copyFrom_16 : decode cX5_copyFrom 16 = .ok (.aload_n 0, 1) := by decide +kernel
theorem dX5_copyFrom_17 : decode cX5_copyFrom 17 = .ok (.aload_n 1, 1) := by decide +kernel
theorem dX5_copyFrom_18 : decode cX5_copyFrom 18 = .ok (.getfield 9, 3) := by decide +kernel
theorem dX5_copyFrom_21 : decode cX5_copyFrom 21 = .ok (.putfield 9, 3) := by decide +kernel
theorem dX5_copyFrom_24 : decode cX5_copyFrom 24 = .ok (.aload_n 0, 1) := by decide +kernel
theorem dX5_copyFrom_25 : decode cX5_copyFrom 25 = .ok (.aload_n 1, 1) := by decide +kernel
theorem dX5_copyFrom_26 : decode cX5_copyFrom 26 = .ok (.getfield 38, 3) := by decide +kernel
theorem dX5_copyFrom_29 : decode cX5_copyFrom 29 = .ok (.putfield 38, 3) := by decide +kernel
theorem dX5_copyFrom_32 : decode cX5_copyFrom 32 = .ok (.aload_n 0, 1) := by decide +kernel
theorem dX5_copyFrom_33 : decode cX5_copyFrom 33 = .ok (.aload_n 1, 1) := by decide +kernel
theorem dX5_copyFrom_34 : decode cX5_copyFrom 34 = .ok (.getfield 41, 3) := by decide +kernel
theorem dX5_copyFrom_37 : decode cX5_copyFrom 37 = .ok (.putfield 41, 3) := by decide +kernel
theorem dX5_copyFrom_40 : decode cX5_copyFrom 40 = .ok (.iconst 0, 1) := by decide +kernel
theorem dX5_copyFrom_41 : decode cX5_copyFrom 41 = .ok (.istore_n 2, 1) := by decide +kernel
theorem dX5_copyFrom_42 : decode cX5_copyFrom 42 = .ok (.iload_n 2, 1) := by decide +kernel
theorem dX5_copyFrom_43 : decode cX5_copyFrom 43 = .ok (.aload_n 0, 1) := by decide +kernel
theorem dX5_copyFrom_44 : decode cX5_copyFrom 44 = .ok (.getfield 15, 3) := by decide +kernel
theorem dX5_copyFrom_47 : decode cX5_copyFrom 47 = .ok (.arraylength, 1) := by decide +kernel
theorem dX5_copyFrom_48 : decode cX5_copyFrom 48 = .ok (.if_icmp .ge 45, 3) := by decide +kernel
theorem dX5_copyFrom_51 : decode cX5_copyFrom 51 = .ok (.aload_n 0, 1) := by decide +kernel
theorem dX5_copyFrom_52 : decode cX5_copyFrom 52 = .ok (.getfield 15, 3) := by decide +kernel
theorem dX5_copyFrom_55 : decode cX5_copyFrom 55 = .ok (.iload_n 2, 1) := by decide +kernel
theorem dX5_copyFrom_56 : decode cX5_copyFrom 56 = .ok (.aload_n 1, 1) := by decide +kernel
theorem dX5_copyFrom_57 : decode cX5_copyFrom 57 = .ok (.getfield 15, 3) := by decide +kernel
theorem dX5_copyFrom_60 : decode cX5_copyFrom 60 = .ok (.iload_n 2, 1) := by decide +kernel
theorem dX5_copyFrom_61 : decode cX5_copyFrom 61 = .ok (.iaload, 1) := by decide +kernel
theorem dX5_copyFrom_62 : decode cX5_copyFrom 62 = .ok (.iastore, 1) := by decide +kernel
theorem dX5_copyFrom_63 : decode cX5_copyFrom 63 = .ok (.aload_n 0, 1) := by decide +kernel
theorem dX5_copyFrom_64 : decode cX5_copyFrom 64 = .ok (.getfield 19, 3) := by decide +kernel
theorem dX5_copyFrom_67 : decode cX5_copyFrom 67 = .ok (.iload_n 2, 1) := by decide +kernel
theorem dX5_copyFrom_68 : decode cX5_copyFrom 68 = .ok (.aload_n 1, 1) := by decide +kernel
theorem dX5_copyFrom_69 : decode cX5_copyFrom 69 = .ok (.getfield 19, 3) := by decide +kernel
theorem dX5_copyFrom_72 : decode cX5_copyFrom 72 = .ok (.iload_n 2, 1) := by decide +kernel
theorem dX5_copyFrom_73 : decode cX5_copyFrom 73 = .ok (.iaload, 1) := by decide +kernel
theorem dX5_copyFrom_74 : decode cX5_copyFrom 74 = .ok (.iastore, 1) := by decide +kernel
theorem dX5_copyFrom_75 : decode cX5_copyFrom 75 = .ok (.aload_n 0, 1) := by decide +kernel
theorem dX5_copyFrom_76 : decode cX5_copyFrom 76 = .ok (.getfield 22, 3) := by decide +kernel
theorem dX5_copyFrom_79 : decode cX5_copyFrom 79 = .ok (.iload_n 2, 1) := by decide +kernel
theorem dX5_copyFrom_80 : decode cX5_copyFrom 80 = .ok (.aload_n 1, 1) := by decide +kernel
theorem dX5_copyFrom_81 : decode cX5_copyFrom 81 = .ok (.getfield 22, 3) := by decide +kernel
theorem dX5_copyFrom_84 : decode cX5_copyFrom 84 = .ok (.iload_n 2, 1) := by decide +kernel
theorem dX5_copyFrom_85 : decode cX5_copyFrom 85 = .ok (.iaload, 1) := by decide +kernel
theorem dX5_copyFrom_86 : decode cX5_copyFrom 86 = .ok (.iastore, 1) := by decide +kernel
theorem dX5_copyFrom_87 : decode cX5_copyFrom 87 = .ok (.iinc 2 1, 3) := by decide +kernel
theorem dX5_copyFrom_90 : decode cX5_copyFrom 90 = .ok (.goto (-48), 3) := by decide +kernel
theorem dX5_copyFrom_93 : decode cX5_copyFrom 93 = .ok (.iconst 0, 1) := by decide +kernel
theorem dX5_copyFrom_94 : decode cX5_copyFrom 94 = .ok (.istore_n 2, 1) := by decide +kernel
theorem dX5_copyFrom_95 : decode cX5_copyFrom 95 = .ok (.iload_n 2, 1) := by decide +kernel
theorem dX5_copyFrom_96 : decode cX5_copyFrom 96 = .ok (.iconst 4, 1) := by decide +kernel
theorem dX5_copyFrom_97 : decode cX5_copyFrom 97 = .ok (.if_icmp .ge 24, 3) := by decide +kernel
theorem dX5_copyFrom_100 : decode cX5_copyFrom 100 = .ok (.aload_n 0, 1) := by decide +kernel
theorem dX5_copyFrom_101 : decode cX5_copyFrom 101 = .ok (.getfield 27, 3) := by decide +kernel
theorem dX5_copyFrom_104 : decode cX5_copyFrom 104 = .ok (.iload_n 2, 1) := by decide +kernel
theorem dX5_copyFrom_105 : decode cX5_copyFrom 105 = .ok (.aaload, 1) := by decide +kernel
theorem dX5_copyFrom_106 : decode cX5_copyFrom 106 = .ok (.aload_n 1, 1) := by decide +kernel
theorem dX5_copyFrom_107 : decode cX5_copyFrom 107 = .ok (.getfield 27, 3) := by decide +kernel
theorem dX5_copyFrom_110 : decode cX5_copyFrom 110 = .ok (.iload_n 2, 1) := by decide +kernel
theorem dX5_copyFrom_111 : decode cX5_copyFrom 111 = .ok (.aaload, 1) := by decide +kernel
theorem dX5_copyFrom_112 : decode cX5_copyFrom 112 = .ok (.invokevirtual 44, 3) := by decide +kernel
theorem dX5_copyFrom_115 : decode cX5_copyFrom 115 = .ok (.iinc 2 1, 3) := by decide +kernel
theorem dX5_copyFrom_118 : decode cX5_copyFrom 118 = .ok (.goto (-23), 3) := by decide +kernel
theorem dX5_copyFrom_121 : decode cX5_copyFrom 121 = .ok (.return_, 1) := by decide +kernel
theorem dX5_forgetCounts_0 : decode cX5_forgetCounts 0 = .ok (.iconst 0, 1) := by decide +kernel
theorem dX5_forgetCounts_1 : decode cX5_forgetCounts 1 = .ok (.istore_n 1, 1) := by decide +kernel
theorem dX5_forgetCounts_2 : decode cX5_forgetCounts 2 = .ok (.iload_n 1, 1) := by decide +kernel
theorem dX5_forgetCounts_3 : decode cX5_forgetCounts 3 = .ok (.aload_n 0, 1) := by decide +kernel
theorem dX5_forgetCounts_4 : decode cX5_forgetCounts 4 = .ok (.getfield 19, 3) := by decide +kernel
theorem dX5_forgetCounts_7 : decode cX5_forgetCounts 7 = .ok (.arraylength, 1) := by decide +kernel
theorem dX5_forgetCounts_8 : decode cX5_forgetCounts 8 = .ok (.if_icmp .ge 23, 3) := by decide +kernel
theorem dX5_forgetCounts_11 : decode cX5_forgetCounts 11 = .ok (.aload_n 0, 1) := by decide +kernel
theorem dX5_forgetCounts_12 : decode cX5_forgetCounts 12 = .ok (.getfield 19, 3) := by decide +kernel
theorem dX5_forgetCounts_15 : decode cX5_forgetCounts 15 = .ok (.iload_n 1, 1) := by decide +kernel
theorem dX5_forgetCounts_16 : decode cX5_forgetCounts 16 = .ok (.iconst 0, 1) := by decide +kernel
theorem dX5_forgetCounts_17 : decode cX5_forgetCounts 17 = .ok (.iastore, 1) := by decide +kernel
theorem dX5_forgetCounts_18 : decode cX5_forgetCounts 18 = .ok (.aload_n 0, 1) := by decide +kernel
theorem dX5_forgetCounts_19 : decode cX5_forgetCounts 19 = .ok (.getfield 22, 3) := by decide +kernel
theorem dX5_forgetCounts_22 : decode cX5_forgetCounts 22 = .ok (.iload_n 1, 1) := by decide +kernel
theorem dX5_forgetCounts_23 : decode cX5_forgetCounts 23 = .ok (.iconst 0, 1) := by decide +kernel
theorem dX5_forgetCounts_24 : decode cX5_forgetCounts 24 = .ok (.iastore, 1) := by decide +kernel
theorem dX5_forgetCounts_25 : decode cX5_forgetCounts 25 = .ok (.iinc 1 1, 3) := by decide +kernel
theorem dX5_forgetCounts_28 : decode cX5_forgetCounts 28 = .ok (.goto (-26), 3) := by decide +kernel
theorem dX5_forgetCounts_31 : decode cX5_forgetCounts 31 = .ok (.return_, 1) := by decide +kernel
theorem dX5_delayOf_0 : decode cX5_delayOf 0 = .ok (.aload_n 0, 1) := by decide +kernel
theorem dX5_delayOf_1 : decode cX5_delayOf 1 = .ok (.getfield 15, 3) := by decide +kernel
theorem dX5_delayOf_4 : decode cX5_delayOf 4 = .ok (.iload_n 1, 1) := by decide +kernel
theorem dX5_delayOf_5 : decode cX5_delayOf 5 = .ok (.iconst 4, 1) := by decide +kernel
theorem dX5_delayOf_6 : decode cX5_delayOf 6 = .ok (.imul, 1) := by decide +kernel
theorem dX5_delayOf_7 : decode cX5_delayOf 7 = .ok (.iload_n 2, 1) := by decide +kernel
theorem dX5_delayOf_8 : decode cX5_delayOf 8 = .ok (.iadd, 1) := by decide +kernel
theorem dX5_delayOf_9 : decode cX5_delayOf 9 = .ok (.iaload, 1) := by decide +kernel
theorem dX5_delayOf_10 : decode cX5_delayOf 10 = .ok (.ireturn, 1) := by decide +kernel
theorem dX5_lag_0 : decode cX5_lag 0 = .ok (.iconst 1, 1) := by decide +kernel
theorem dX5_lag_1 : decode cX5_lag 1 = .ok (.aload_n 0, 1) := by decide +kernel
theorem dX5_lag_2 : decode cX5_lag 2 = .ok (.iload_n 1, 1) := by decide +kernel
theorem dX5_lag_3 : decode cX5_lag 3 = .ok (.iload_n 2, 1) := by decide +kernel
theorem dX5_lag_4 : decode cX5_lag 4 = .ok (.invokevirtual 48, 3) := by decide +kernel
theorem dX5_lag_7 : decode cX5_lag 7 = .ok (.iadd, 1) := by decide +kernel
theorem dX5_lag_8 : decode cX5_lag 8 = .ok (.ireturn, 1) := by decide +kernel
theorem dX5_pass_0 : decode cX5_pass 0 = .ok (.aload_n 0, 1) := by decide +kernel
theorem dX5_pass_1 : decode cX5_pass 1 = .ok (.getfield 38, 3) := by decide +kernel
theorem dX5_pass_4 : decode cX5_pass 4 = .ok (.istore 5, 2) := by decide +kernel
theorem dX5_pass_6 : decode cX5_pass 6 = .ok (.iconst 0, 1) := by decide +kernel
theorem dX5_pass_7 : decode cX5_pass 7 = .ok (.istore 6, 2) := by decide +kernel
theorem dX5_pass_9 : decode cX5_pass 9 = .ok (.iload 6, 2) := by decide +kernel
theorem dX5_pass_11 : decode cX5_pass 11 = .ok (.iload_n 1, 1) := by decide +kernel
theorem dX5_pass_12 : decode cX5_pass 12 = .ok (.if_icmp .ge 180, 3) := by decide +kernel
theorem dX5_pass_15 : decode cX5_pass 15 = .ok (.aload_n 0, 1) := by decide +kernel
theorem dX5_pass_16 : decode cX5_pass 16 = .ok (.dup, 1) := by decide +kernel
theorem dX5_pass_17 : decode cX5_pass 17 = .ok (.getfield 32, 3) := by decide +kernel
theorem dX5_pass_20 : decode cX5_pass 20 = .ok (.iconst 1, 1) := by decide +kernel
theorem dX5_pass_21 : decode cX5_pass 21 = .ok (.iadd, 1) := by decide +kernel
theorem dX5_pass_22 : decode cX5_pass 22 = .ok (.putfield 32, 3) := by decide +kernel
theorem dX5_pass_25 : decode cX5_pass 25 = .ok (.iconst 0, 1) := by decide +kernel
theorem dX5_pass_26 : decode cX5_pass 26 = .ok (.istore 7, 2) := by decide +kernel
theorem dX5_pass_28 : decode cX5_pass 28 = .ok (.iload 7, 2) := by decide +kernel
theorem dX5_pass_30 : decode cX5_pass 30 = .ok (.aload_n 2, 1) := by decide +kernel
theorem dX5_pass_31 : decode cX5_pass 31 = .ok (.getfield 52, 3) := by decide +kernel
theorem dX5_pass_34 : decode cX5_pass 34 = .ok (.if_icmp .ge 19, 3) := by decide +kernel
theorem dX5_pass_37 : decode cX5_pass 37 = .ok (.aload_n 0, 1) := by decide +kernel
theorem dX5_pass_38 : decode cX5_pass 38 = .ok (.iload 7, 2) := by decide +kernel
theorem dX5_pass_40 : decode cX5_pass 40 = .ok (.aload_n 2, 1) := by decide +kernel
theorem dX5_pass_41 : decode cX5_pass 41 = .ok (.getfield 52, 3) := by decide +kernel
theorem dX5_pass_44 : decode cX5_pass 44 = .ok (.invokevirtual 57, 3) := by decide +kernel
theorem dX5_pass_47 : decode cX5_pass 47 = .ok (.iinc 7 1, 3) := by decide +kernel
theorem dX5_pass_50 : decode cX5_pass 50 = .ok (.goto (-22), 3) := by decide +kernel
theorem dX5_pass_53 : decode cX5_pass 53 = .ok (.iconst 0, 1) := by decide +kernel
theorem dX5_pass_54 : decode cX5_pass 54 = .ok (.istore 7, 2) := by decide +kernel
theorem dX5_pass_56 : decode cX5_pass 56 = .ok (.iload 7, 2) := by decide +kernel
theorem dX5_pass_58 : decode cX5_pass 58 = .ok (.aload_n 2, 1) := by decide +kernel
theorem dX5_pass_59 : decode cX5_pass 59 = .ok (.getfield 52, 3) := by decide +kernel
theorem dX5_pass_62 : decode cX5_pass 62 = .ok (.if_icmp .ge 55, 3) := by decide +kernel
theorem dX5_pass_65 : decode cX5_pass 65 = .ok (.aload_n 0, 1) := by decide +kernel
theorem dX5_pass_66 : decode cX5_pass 66 = .ok (.getfield 27, 3) := by decide +kernel
theorem dX5_pass_69 : decode cX5_pass 69 = .ok (.iload 7, 2) := by decide +kernel
theorem dX5_pass_71 : decode cX5_pass 71 = .ok (.aaload, 1) := by decide +kernel
theorem dX5_pass_72 : decode cX5_pass 72 = .ok (.getfield 61, 3) := by decide +kernel
theorem dX5_pass_75 : decode cX5_pass 75 = .ok (.ifCond .eq 13, 3) := by decide +kernel
theorem dX5_pass_78 : decode cX5_pass 78 = .ok (.aload_n 0, 1) := by decide +kernel
theorem dX5_pass_79 : decode cX5_pass 79 = .ok (.iload 7, 2) := by decide +kernel
theorem dX5_pass_81 : decode cX5_pass 81 = .ok (.aload_n 2, 1) := by decide +kernel
theorem dX5_pass_82 : decode cX5_pass 82 = .ok (.aload_n 3, 1) := by decide +kernel
theorem dX5_pass_83 : decode cX5_pass 83 = .ok (.aload 4, 2) := by decide +kernel
theorem dX5_pass_85 : decode cX5_pass 85 = .ok (.invokevirtual 65, 3) := by decide +kernel
theorem dX5_pass_88 : decode cX5_pass 88 = .ok (.aload_n 0, 1) := by decide +kernel
theorem dX5_pass_89 : decode cX5_pass 89 = .ok (.getfield 27, 3) := by decide +kernel
theorem dX5_pass_92 : decode cX5_pass 92 = .ok (.iload 7, 2) := by decide +kernel
theorem dX5_pass_94 : decode cX5_pass 94 = .ok (.aaload, 1) := by decide +kernel
theorem dX5_pass_95 : decode cX5_pass 95 = .ok (.getfield 61, 3) := by decide +kernel
theorem dX5_pass_98 : decode cX5_pass 98 = .ok (.ifCond .ne 13, 3) := by decide +kernel
theorem dX5_pass_101 : decode cX5_pass 101 = .ok (.aload_n 0, 1) := by decide +kernel
theorem dX5_pass_102 : decode cX5_pass 102 = .ok (.iload 7, 2) := by decide +kernel
theorem dX5_pass_104 : decode cX5_pass 104 = .ok (.aload_n 2, 1) := by decide +kernel
theorem dX5_pass_105 : decode cX5_pass 105 = .ok (.aload_n 3, 1) := by decide +kernel
theorem dX5_pass_106 : decode cX5_pass 106 = .ok (.aload 4, 2) := by decide +kernel
theorem dX5_pass_108 : decode cX5_pass 108 = .ok (.invokevirtual 69, 3) := by decide +kernel
theorem dX5_pass_111 : decode cX5_pass 111 = .ok (.iinc 7 1, 3) := by decide +kernel
theorem dX5_pass_114 : decode cX5_pass 114 = .ok (.goto (-58), 3) := by decide +kernel
theorem dX5_pass_117 : decode cX5_pass 117 = .ok (.iconst 0, 1) := by decide +kernel
theorem dX5_pass_118 : decode cX5_pass 118 = .ok (.istore 7, 2) := by decide +kernel
theorem dX5_pass_120 : decode cX5_pass 120 = .ok (.iload 7, 2) := by decide +kernel
theorem dX5_pass_122 : decode cX5_pass 122 = .ok (.aload_n 2, 1) := by decide +kernel
theorem dX5_pass_123 : decode cX5_pass 123 = .ok (.getfield 52, 3) := by decide +kernel
theorem dX5_pass_126 : decode cX5_pass 126 = .ok (.if_icmp .ge 60, 3) := by decide +kernel
theorem dX5_pass_129 : decode cX5_pass 129 = .ok (.aload_n 0, 1) := by decide +kernel
theorem dX5_pass_130 : decode cX5_pass 130 = .ok (.iload 7, 2) := by decide +kernel
theorem dX5_pass_132 : decode cX5_pass 132 = .ok (.aload_n 2, 1) := by decide +kernel
theorem dX5_pass_133 : decode cX5_pass 133 = .ok (.getfield 52, 3) := by decide +kernel
theorem dX5_pass_136 : decode cX5_pass 136 = .ok (.invokevirtual 72, 3) := by decide +kernel
theorem dX5_pass_139 : decode cX5_pass 139 = .ok (.aload_n 0, 1) := by decide +kernel
theorem dX5_pass_140 : decode cX5_pass 140 = .ok (.getfield 27, 3) := by decide +kernel
theorem dX5_pass_143 : decode cX5_pass 143 = .ok (.iload 7, 2) := by decide +kernel
theorem dX5_pass_145 : decode cX5_pass 145 = .ok (.aaload, 1) := by decide +kernel
theorem dX5_pass_146 : decode cX5_pass 146 = .ok (.aload_n 0, 1) := by decide +kernel
theorem dX5_pass_147 : decode cX5_pass 147 = .ok (.getfield 27, 3) := by decide +kernel
theorem dX5_pass_150 : decode cX5_pass 150 = .ok (.iload 7, 2) := by decide +kernel
theorem dX5_pass_152 : decode cX5_pass 152 = .ok (.aaload, 1) := by decide +kernel
theorem dX5_pass_153 : decode cX5_pass 153 = .ok (.getfield 75, 3) := by decide +kernel
theorem dX5_pass_156 : decode cX5_pass 156 = .ok (.iconst 1, 1) := by decide +kernel
theorem dX5_pass_157 : decode cX5_pass 157 = .ok (.lshl, 1) := by decide +kernel
theorem dX5_pass_158 : decode cX5_pass 158 = .ok (.aload_n 0, 1) := by decide +kernel
theorem dX5_pass_159 : decode cX5_pass 159 = .ok (.getfield 27, 3) := by decide +kernel
theorem dX5_pass_162 : decode cX5_pass 162 = .ok (.iload 7, 2) := by decide +kernel
theorem dX5_pass_164 : decode cX5_pass 164 = .ok (.aaload, 1) := by decide +kernel
theorem dX5_pass_165 : decode cX5_pass 165 = .ok (.getfield 61, 3) := by decide +kernel
theorem dX5_pass_168 : decode cX5_pass 168 = .ok (.ifCond .eq 7, 3) := by decide +kernel
theorem dX5_pass_171 : decode cX5_pass 171 = .ok (.lconst 1, 1) := by decide +kernel
theorem dX5_pass_172 : decode cX5_pass 172 = .ok (.goto 4, 3) := by decide +kernel
theorem dX5_pass_175 : decode cX5_pass 175 = .ok (.lconst 0, 1) := by decide +kernel
theorem dX5_pass_176 : decode cX5_pass 176 = .ok (.lor, 1) := by decide +kernel
theorem dX5_pass_177 : decode cX5_pass 177 = .ok (.putfield 75, 3) := by decide +kernel
theorem dX5_pass_180 : decode cX5_pass 180 = .ok (.iinc 7 1, 3) := by decide +kernel
theorem dX5_pass_183 : decode cX5_pass 183 = .ok (.goto (-63), 3) := by decide +kernel
theorem dX5_pass_186 : decode cX5_pass 186 = .ok (.iinc 6 1, 3) := by decide +kernel
theorem dX5_pass_189 : decode cX5_pass 189 = .ok (.goto (-180), 3) := by decide +kernel
theorem dX5_pass_192 : decode cX5_pass 192 = .ok (.aload_n 0, 1) := by decide +kernel
theorem dX5_pass_193 : decode cX5_pass 193 = .ok (.getfield 38, 3) := by decide +kernel
theorem dX5_pass_196 : decode cX5_pass 196 = .ok (.iload 5, 2) := by decide +kernel
theorem dX5_pass_198 : decode cX5_pass 198 = .ok (.isub, 1) := by decide +kernel
theorem dX5_pass_199 : decode cX5_pass 199 = .ok (.ireturn, 1) := by decide +kernel
theorem dX5_listen_0 : decode cX5_listen 0 = .ok (.iconst 0, 1) := by decide +kernel
theorem dX5_listen_1 : decode cX5_listen 1 = .ok (.istore_n 3, 1) := by decide +kernel
theorem dX5_listen_2 : decode cX5_listen 2 = .ok (.iconst (-1), 1) := by decide +kernel
theorem dX5_listen_3 : decode cX5_listen 3 = .ok (.istore 4, 2) := by decide +kernel
theorem dX5_listen_5 : decode cX5_listen 5 = .ok (.iload_n 2, 1) := by decide +kernel
theorem dX5_listen_6 : decode cX5_listen 6 = .ok (.iconst 1, 1) := by decide +kernel
theorem dX5_listen_7 : decode cX5_listen 7 = .ok (.isub, 1) := by decide +kernel
theorem dX5_listen_8 : decode cX5_listen 8 = .ok (.istore 5, 2) := by decide +kernel
theorem dX5_listen_10 : decode cX5_listen 10 = .ok (.iload 5, 2) := by decide +kernel
theorem dX5_listen_12 : decode cX5_listen 12 = .ok (.ifCond .lt 46, 3) := by decide +kernel
theorem dX5_listen_15 : decode cX5_listen 15 = .ok (.iload 5, 2) := by decide +kernel
theorem dX5_listen_17 : decode cX5_listen 17 = .ok (.iload_n 1, 1) := by decide +kernel
theorem dX5_listen_18 : decode cX5_listen 18 = .ok (.if_icmp .eq 34, 3) := by decide +kernel
theorem dX5_listen_21 : decode cX5_listen 21 = .ok (.aload_n 0, 1) := by decide +kernel
theorem dX5_listen_22 : decode cX5_listen 22 = .ok (.getfield 27, 3) := by decide +kernel
theorem dX5_listen_25 : decode cX5_listen 25 = .ok (.iload 5, 2) := by decide +kernel
theorem dX5_listen_27 : decode cX5_listen 27 = .ok (.aaload, 1) := by decide +kernel
theorem dX5_listen_28 : decode cX5_listen 28 = .ok (.aload_n 0, 1) := by decide +kernel
theorem dX5_listen_29 : decode cX5_listen 29 = .ok (.iload 5, 2) := by decide +kernel
theorem dX5_listen_31 : decode cX5_listen 31 = .ok (.iload_n 1, 1) := by decide +kernel
theorem dX5_listen_32 : decode cX5_listen 32 = .ok (.invokevirtual 48, 3) := by decide +kernel
theorem dX5_listen_35 : decode cX5_listen 35 = .ok (.invokevirtual 79, 3) := by decide +kernel
theorem dX5_listen_38 : decode cX5_listen 38 = .ok (.ifCond .eq 14, 3) := by decide +kernel
theorem dX5_listen_41 : decode cX5_listen 41 = .ok (.iload_n 3, 1) := by decide +kernel
theorem dX5_listen_42 : decode cX5_listen 42 = .ok (.iconst 1, 1) := by decide +kernel
theorem dX5_listen_43 : decode cX5_listen 43 = .ok (.iload 5, 2) := by decide +kernel
theorem dX5_listen_45 : decode cX5_listen 45 = .ok (.ishl, 1) := by decide +kernel
theorem dX5_listen_46 : decode cX5_listen 46 = .ok (.ior, 1) := by decide +kernel
theorem dX5_listen_47 : decode cX5_listen 47 = .ok (.istore_n 3, 1) := by decide +kernel
theorem dX5_listen_48 : decode cX5_listen 48 = .ok (.iload 5, 2) := by decide +kernel
theorem dX5_listen_50 : decode cX5_listen 50 = .ok (.istore 4, 2) := by decide +kernel
theorem dX5_listen_52 : decode cX5_listen 52 = .ok (.iinc 5 (-1), 3) := by decide +kernel
theorem dX5_listen_55 : decode cX5_listen 55 = .ok (.goto (-45), 3) := by decide +kernel
theorem dX5_listen_58 : decode cX5_listen 58 = .ok (.aload_n 0, 1) := by decide +kernel
theorem dX5_listen_59 : decode cX5_listen 59 = .ok (.getfield 27, 3) := by decide +kernel
theorem dX5_listen_62 : decode cX5_listen 62 = .ok (.iload_n 1, 1) := by decide +kernel
theorem dX5_listen_63 : decode cX5_listen 63 = .ok (.aaload, 1) := by decide +kernel
theorem dX5_listen_64 : decode cX5_listen 64 = .ok (.iload_n 3, 1) := by decide +kernel
theorem dX5_listen_65 : decode cX5_listen 65 = .ok (.putfield 83, 3) := by decide +kernel
theorem dX5_listen_68 : decode cX5_listen 68 = .ok (.iload_n 3, 1) := by decide +kernel
theorem dX5_listen_69 : decode cX5_listen 69 = .ok (.ifCond .eq 27, 3) := by decide +kernel
theorem dX5_listen_72 : decode cX5_listen 72 = .ok (.aload_n 0, 1) := by decide +kernel
theorem dX5_listen_73 : decode cX5_listen 73 = .ok (.getfield 27, 3) := by decide +kernel
theorem dX5_listen_76 : decode cX5_listen 76 = .ok (.iload_n 1, 1) := by decide +kernel
theorem dX5_listen_77 : decode cX5_listen 77 = .ok (.aaload, 1) := by decide +kernel
theorem dX5_listen_78 : decode cX5_listen 78 = .ok (.iload 4, 2) := by decide +kernel
theorem dX5_listen_80 : decode cX5_listen 80 = .ok (.putfield 86, 3) := by decide +kernel
theorem dX5_listen_83 : decode cX5_listen 83 = .ok (.aload_n 0, 1) := by decide +kernel
theorem dX5_listen_84 : decode cX5_listen 84 = .ok (.getfield 27, 3) := by decide +kernel
theorem dX5_listen_87 : decode cX5_listen 87 = .ok (.iload_n 1, 1) := by decide +kernel
theorem dX5_listen_88 : decode cX5_listen 88 = .ok (.aaload, 1) := by decide +kernel
theorem dX5_listen_89 : decode cX5_listen 89 = .ok (.aload_n 0, 1) := by decide +kernel
theorem dX5_listen_90 : decode cX5_listen 90 = .ok (.getfield 32, 3) := by decide +kernel
theorem dX5_listen_93 : decode cX5_listen 93 = .ok (.putfield 89, 3) := by decide +kernel
theorem dX5_listen_96 : decode cX5_listen 96 = .ok (.return_, 1) := by decide +kernel
theorem dX5_speakOn_0 : decode cX5_speakOn 0 = .ok (.aload_n 0, 1) := by decide +kernel
theorem dX5_speakOn_1 : decode cX5_speakOn 1 = .ok (.getfield 27, 3) := by decide +kernel
theorem dX5_speakOn_4 : decode cX5_speakOn 4 = .ok (.iload_n 1, 1) := by decide +kernel
theorem dX5_speakOn_5 : decode cX5_speakOn 5 = .ok (.aaload, 1) := by decide +kernel
theorem dX5_speakOn_6 : decode cX5_speakOn 6 = .ok (.astore 5, 2) := by decide +kernel
theorem dX5_speakOn_8 : decode cX5_speakOn 8 = .ok (.aload 5, 2) := by decide +kernel
theorem dX5_speakOn_10 : decode cX5_speakOn 10 = .ok (.aload 5, 2) := by decide +kernel
theorem dX5_speakOn_12 : decode cX5_speakOn 12 = .ok (.getfield 83, 3) := by decide +kernel
theorem dX5_speakOn_15 : decode cX5_speakOn 15 = .ok (.ifCond .eq 13, 3) := by decide +kernel
theorem dX5_speakOn_18 : decode cX5_speakOn 18 = .ok (.aload 5, 2) := by decide +kernel
theorem dX5_speakOn_20 : decode cX5_speakOn 20 = .ok (.getfield 92, 3) := by decide +kernel
theorem dX5_speakOn_23 : decode cX5_speakOn 23 = .ok (.iconst 1, 1) := by decide +kernel
theorem dX5_speakOn_24 : decode cX5_speakOn 24 = .ok (.iadd, 1) := by decide +kernel
theorem dX5_speakOn_25 : decode cX5_speakOn 25 = .ok (.goto 4, 3) := by decide +kernel
theorem dX5_speakOn_28 : decode cX5_speakOn 28 = .ok (.iconst 0, 1) := by decide +kernel
theorem dX5_speakOn_29 : decode cX5_speakOn 29 = .ok (.putfield 92, 3) := by decide +kernel
theorem dX5_speakOn_32 : decode cX5_speakOn 32 = .ok (.aload 5, 2) := by decide +kernel
theorem dX5_speakOn_34 : decode cX5_speakOn 34 = .ok (.getfield 92, 3) := by decide +kernel
theorem dX5_speakOn_37 : decode cX5_speakOn 37 = .ok (.ifCond .le 34, 3) := by decide +kernel
theorem dX5_speakOn_40 : decode cX5_speakOn 40 = .ok (.aload 5, 2) := by decide +kernel
theorem dX5_speakOn_42 : decode cX5_speakOn 42 = .ok (.getfield 92, 3) := by decide +kernel
theorem dX5_speakOn_45 : decode cX5_speakOn 45 = .ok (.aload_n 3, 1) := by decide +kernel
theorem dX5_speakOn_46 : decode cX5_speakOn 46 = .ok (.iconst 1, 1) := by decide +kernel
theorem dX5_speakOn_47 : decode cX5_speakOn 47 = .ok (.iload_n 1, 1) := by decide +kernel
theorem dX5_speakOn_48 : decode cX5_speakOn 48 = .ok (.aload_n 2, 1) := by decide +kernel
theorem dX5_speakOn_49 : decode cX5_speakOn 49 = .ok (.aload_n 0, 1) := by decide +kernel
theorem dX5_speakOn_50 : decode cX5_speakOn 50 = .ok (.invokevirtual 97, 3) := by decide +kernel
theorem dX5_speakOn_53 : decode cX5_speakOn 53 = .ok (.if_icmp .ne 18, 3) := by decide +kernel
theorem dX5_speakOn_56 : decode cX5_speakOn 56 = .ok (.aload_n 0, 1) := by decide +kernel
theorem dX5_speakOn_57 : decode cX5_speakOn 57 = .ok (.iload_n 1, 1) := by decide +kernel
theorem dX5_speakOn_58 : decode cX5_speakOn 58 = .ok (.aload_n 0, 1) := by decide +kernel
theorem dX5_speakOn_59 : decode cX5_speakOn 59 = .ok (.getfield 32, 3) := by decide +kernel
theorem dX5_speakOn_62 : decode cX5_speakOn 62 = .ok (.iconst 2, 1) := by decide +kernel
theorem dX5_speakOn_63 : decode cX5_speakOn 63 = .ok (.aload 4, 2) := by decide +kernel
theorem dX5_speakOn_65 : decode cX5_speakOn 65 = .ok (.invokevirtual 103, 3) := by decide +kernel
theorem dX5_speakOn_68 : decode cX5_speakOn 68 = .ok (.goto 42, 3) := by decide +kernel
theorem dX5_speakOn_71 : decode cX5_speakOn 71 = .ok (.aload 5, 2) := by decide +kernel
theorem dX5_speakOn_73 : decode cX5_speakOn 73 = .ok (.getfield 107, 3) := by decide +kernel
theorem dX5_speakOn_76 : decode cX5_speakOn 76 = .ok (.aload 5, 2) := by decide +kernel
theorem dX5_speakOn_78 : decode cX5_speakOn 78 = .ok (.getfield 110, 3) := by decide +kernel
theorem dX5_speakOn_81 : decode cX5_speakOn 81 = .ok (.if_icmp .lt 18, 3) := by decide +kernel
theorem dX5_speakOn_84 : decode cX5_speakOn 84 = .ok (.aload_n 0, 1) := by decide +kernel
theorem dX5_speakOn_85 : decode cX5_speakOn 85 = .ok (.iload_n 1, 1) := by decide +kernel
theorem dX5_speakOn_86 : decode cX5_speakOn 86 = .ok (.aload_n 0, 1) := by decide +kernel
theorem dX5_speakOn_87 : decode cX5_speakOn 87 = .ok (.getfield 32, 3) := by decide +kernel
theorem dX5_speakOn_90 : decode cX5_speakOn 90 = .ok (.iconst 1, 1) := by decide +kernel
theorem dX5_speakOn_91 : decode cX5_speakOn 91 = .ok (.aload 4, 2) := by decide +kernel
theorem dX5_speakOn_93 : decode cX5_speakOn 93 = .ok (.invokevirtual 103, 3) := by decide +kernel
theorem dX5_speakOn_96 : decode cX5_speakOn 96 = .ok (.goto 14, 3) := by decide +kernel
theorem dX5_speakOn_99 : decode cX5_speakOn 99 = .ok (.aload 5, 2) := by decide +kernel
theorem dX5_speakOn_101 : decode cX5_speakOn 101 = .ok (.dup, 1) := by decide +kernel
theorem dX5_speakOn_102 : decode cX5_speakOn 102 = .ok (.getfield 107, 3) := by decide +kernel
theorem dX5_speakOn_105 : decode cX5_speakOn 105 = .ok (.iconst 1, 1) := by decide +kernel
theorem dX5_speakOn_106 : decode cX5_speakOn 106 = .ok (.iadd, 1) := by decide +kernel
theorem dX5_speakOn_107 : decode cX5_speakOn 107 = .ok (.putfield 107, 3) := by decide +kernel
theorem dX5_speakOn_110 : decode cX5_speakOn 110 = .ok (.return_, 1) := by decide +kernel
theorem dX5_keepSilence_0 : decode cX5_keepSilence 0 = .ok (.aload_n 0, 1) := by decide +kernel
theorem dX5_keepSilence_1 : decode cX5_keepSilence 1 = .ok (.getfield 27, 3) := by decide +kernel
theorem dX5_keepSilence_4 : decode cX5_keepSilence 4 = .ok (.iload_n 1, 1) := by decide +kernel
theorem dX5_keepSilence_5 : decode cX5_keepSilence 5 = .ok (.aaload, 1) := by decide +kernel
theorem dX5_keepSilence_6 : decode cX5_keepSilence 6 = .ok (.astore 5, 2) := by decide +kernel
theorem dX5_keepSilence_8 : decode cX5_keepSilence 8 = .ok (.aload 5, 2) := by decide +kernel
theorem dX5_keepSilence_10 : decode cX5_keepSilence 10 = .ok (.getfield 83, 3) := by decide +kernel
theorem dX5_keepSilence_13 : decode cX5_keepSilence 13 = .ok (.ifCond .eq 10, 3) := by decide +kernel
theorem dX5_keepSilence_16 : decode cX5_keepSilence 16 = .ok (.aload 5, 2) := by decide +kernel
theorem dX5_keepSilence_18 : decode cX5_keepSilence 18 = .ok (.iconst 0, 1) := by decide +kernel
theorem dX5_keepSilence_19 : decode cX5_keepSilence 19 = .ok (.putfield 113, 3) := by decide +kernel
theorem dX5_keepSilence_22 : decode cX5_keepSilence 22 = .ok (.return_, 1) := by decide +kernel
theorem dX5_keepSilence_23 : decode cX5_keepSilence 23 = .ok (.aload 5, 2) := by decide +kernel
theorem dX5_keepSilence_25 : decode cX5_keepSilence 25 = .ok (.getfield 113, 3) := by decide +kernel
theorem dX5_keepSilence_28 : decode cX5_keepSilence 28 = .ok (.ifCond .ne 26, 3) := by decide +kernel
theorem dX5_keepSilence_31 : decode cX5_keepSilence 31 = .ok (.aload_n 3, 1) := by decide +kernel
theorem dX5_keepSilence_32 : decode cX5_keepSilence 32 = .ok (.iconst 0, 1) := by decide +kernel
theorem dX5_keepSilence_33 : decode cX5_keepSilence 33 = .ok (.iload_n 1, 1) := by decide +kernel
theorem dX5_keepSilence_34 : decode cX5_keepSilence 34 = .ok (.aload_n 2, 1) := by decide +kernel
theorem dX5_keepSilence_35 : decode cX5_keepSilence 35 = .ok (.aload_n 0, 1) := by decide +kernel
theorem dX5_keepSilence_36 : decode cX5_keepSilence 36 = .ok (.invokevirtual 97, 3) := by decide +kernel
theorem dX5_keepSilence_39 : decode cX5_keepSilence 39 = .ok (.istore 6, 2) := by decide +kernel
theorem dX5_keepSilence_41 : decode cX5_keepSilence 41 = .ok (.aload 5, 2) := by decide +kernel
theorem dX5_keepSilence_43 : decode cX5_keepSilence 43 = .ok (.aload_n 0, 1) := by decide +kernel
theorem dX5_keepSilence_44 : decode cX5_keepSilence 44 = .ok (.iload_n 1, 1) := by decide +kernel
theorem dX5_keepSilence_45 : decode cX5_keepSilence 45 = .ok (.iload 6, 2) := by decide +kernel
theorem dX5_keepSilence_47 : decode cX5_keepSilence 47 = .ok (.aload_n 2, 1) := by decide +kernel
theorem dX5_keepSilence_48 : decode cX5_keepSilence 48 = .ok (.invokevirtual 116, 3) := by decide +kernel
theorem dX5_keepSilence_51 : decode cX5_keepSilence 51 = .ok (.putfield 120, 3) := by decide +kernel
theorem dX5_keepSilence_54 : decode cX5_keepSilence 54 = .ok (.aload 5, 2) := by decide +kernel
theorem dX5_keepSilence_56 : decode cX5_keepSilence 56 = .ok (.getfield 113, 3) := by decide +kernel
theorem dX5_keepSilence_59 : decode cX5_keepSilence 59 = .ok (.iconst 1, 1) := by decide +kernel
theorem dX5_keepSilence_60 : decode cX5_keepSilence 60 = .ok (.iadd, 1) := by decide +kernel
theorem dX5_keepSilence_61 : decode cX5_keepSilence 61 = .ok (.aload 5, 2) := by decide +kernel
theorem dX5_keepSilence_63 : decode cX5_keepSilence 63 = .ok (.getfield 120, 3) := by decide +kernel
theorem dX5_keepSilence_66 : decode cX5_keepSilence 66 = .ok (.if_icmp .le 7, 3) := by decide +kernel
theorem dX5_keepSilence_69 : decode cX5_keepSilence 69 = .ok (.iconst 1, 1) := by decide +kernel
theorem dX5_keepSilence_70 : decode cX5_keepSilence 70 = .ok (.goto 4, 3) := by decide +kernel
theorem dX5_keepSilence_73 : decode cX5_keepSilence 73 = .ok (.iconst 0, 1) := by decide +kernel
theorem dX5_keepSilence_74 : decode cX5_keepSilence 74 = .ok (.istore 6, 2) := by decide +kernel
theorem dX5_keepSilence_76 : decode cX5_keepSilence 76 = .ok (.iload 6, 2) := by decide +kernel
theorem dX5_keepSilence_78 : decode cX5_keepSilence 78 = .ok (.ifCond .eq 16, 3) := by decide +kernel
theorem dX5_keepSilence_81 : decode cX5_keepSilence 81 = .ok (.aload 4, 2) := by decide +kernel
theorem dX5_keepSilence_83 : decode cX5_keepSilence 83 = .ok (.aload_n 0, 1) := by decide +kernel
theorem dX5_keepSilence_84 : decode cX5_keepSilence 84 = .ok (.getfield 38, 3) := by decide +kernel
theorem dX5_keepSilence_87 : decode cX5_keepSilence 87 = .ok (.invokevirtual 123, 3) := by decide +kernel
theorem dX5_keepSilence_90 : decode cX5_keepSilence 90 = .ok (.ifCond .eq 4, 3) := by decide +kernel
theorem dX5_keepSilence_93 : decode cX5_keepSilence 93 = .ok (.return_, 1) := by decide +kernel
theorem dX5_keepSilence_94 : decode cX5_keepSilence 94 = .ok (.aload 5, 2) := by decide +kernel
theorem dX5_keepSilence_96 : decode cX5_keepSilence 96 = .ok (.dup, 1) := by decide +kernel
theorem dX5_keepSilence_97 : decode cX5_keepSilence 97 = .ok (.getfield 113, 3) := by decide +kernel
theorem dX5_keepSilence_100 : decode cX5_keepSilence 100 = .ok (.iconst 1, 1) := by decide +kernel
theorem dX5_keepSilence_101 : decode cX5_keepSilence 101 = .ok (.iadd, 1) := by decide +kernel
theorem dX5_keepSilence_102 : decode cX5_keepSilence 102 = .ok (.putfield 113, 3) := by decide +kernel
theorem dX5_keepSilence_105 : decode cX5_keepSilence 105 = .ok (.iload 6, 2) := by decide +kernel
theorem dX5_keepSilence_107 : decode cX5_keepSilence 107 = .ok (.ifCond .eq 28, 3) := by decide +kernel
theorem dX5_keepSilence_110 : decode cX5_keepSilence 110 = .ok (.aload_n 0, 1) := by decide +kernel
theorem dX5_keepSilence_111 : decode cX5_keepSilence 111 = .ok (.iload_n 1, 1) := by decide +kernel
theorem dX5_keepSilence_112 : decode cX5_keepSilence 112 = .ok (.aload_n 0, 1) := by decide +kernel
theorem dX5_keepSilence_113 : decode cX5_keepSilence 113 = .ok (.getfield 32, 3) := by decide +kernel
theorem dX5_keepSilence_116 : decode cX5_keepSilence 116 = .ok (.aload_n 3, 1) := by decide +kernel
theorem dX5_keepSilence_117 : decode cX5_keepSilence 117 = .ok (.iconst 2, 1) := by decide +kernel
theorem dX5_keepSilence_118 : decode cX5_keepSilence 118 = .ok (.iload_n 1, 1) := by decide +kernel
theorem dX5_keepSilence_119 : decode cX5_keepSilence 119 = .ok (.aload_n 2, 1) := by decide +kernel
theorem dX5_keepSilence_120 : decode cX5_keepSilence 120 = .ok (.aload_n 0, 1) := by decide +kernel
theorem dX5_keepSilence_121 : decode cX5_keepSilence 121 = .ok (.invokevirtual 97, 3) := by decide +kernel
theorem dX5_keepSilence_124 : decode cX5_keepSilence 124 = .ok (.aload 4, 2) := by decide +kernel
theorem dX5_keepSilence_126 : decode cX5_keepSilence 126 = .ok (.invokevirtual 128, 3) := by decide +kernel
theorem dX5_keepSilence_129 : decode cX5_keepSilence 129 = .ok (.aload 5, 2) := by decide +kernel
theorem dX5_keepSilence_131 : decode cX5_keepSilence 131 = .ok (.iconst 1, 1) := by decide +kernel
theorem dX5_keepSilence_132 : decode cX5_keepSilence 132 = .ok (.putfield 107, 3) := by decide +kernel
theorem dX5_keepSilence_135 : decode cX5_keepSilence 135 = .ok (.return_, 1) := by decide +kernel
theorem dX5_findPatience_0 : decode cX5_findPatience 0 = .ok (.aload_n 3, 1) := by decide +kernel
theorem dX5_findPatience_1 : decode cX5_findPatience 1 = .ok (.getfield 131, 3) := by decide +kernel
theorem dX5_findPatience_4 : decode cX5_findPatience 4 = .ok (.iload_n 1, 1) := by decide +kernel
theorem dX5_findPatience_5 : decode cX5_findPatience 5 = .ok (.iaload, 1) := by decide +kernel
theorem dX5_findPatience_6 : decode cX5_findPatience 6 = .ok (.ifCond .le 20, 3) := by decide +kernel
theorem dX5_findPatience_9 : decode cX5_findPatience 9 = .ok (.iload_n 2, 1) := by decide +kernel
theorem dX5_findPatience_10 : decode cX5_findPatience 10 = .ok (.aload_n 0, 1) := by decide +kernel
theorem dX5_findPatience_11 : decode cX5_findPatience 11 = .ok (.aload_n 3, 1) := by decide +kernel
theorem dX5_findPatience_12 : decode cX5_findPatience 12 = .ok (.getfield 131, 3) := by decide +kernel
theorem dX5_findPatience_15 : decode cX5_findPatience 15 = .ok (.iload_n 1, 1) := by decide +kernel
theorem dX5_findPatience_16 : decode cX5_findPatience 16 = .ok (.iaload, 1) := by decide +kernel
theorem dX5_findPatience_17 : decode cX5_findPatience 17 = .ok (.iconst 1, 1) := by decide +kernel
theorem dX5_findPatience_18 : decode cX5_findPatience 18 = .ok (.iadd, 1) := by decide +kernel
theorem dX5_findPatience_19 : decode cX5_findPatience 19 = .ok (.invokevirtual 134, 3) := by decide +kernel
theorem dX5_findPatience_22 : decode cX5_findPatience 22 = .ok (.iadd, 1) := by decide +kernel
theorem dX5_findPatience_23 : decode cX5_findPatience 23 = .ok (.goto 4, 3) := by decide +kernel
theorem dX5_findPatience_26 : decode cX5_findPatience 26 = .ok (.iload_n 2, 1) := by decide +kernel
theorem dX5_findPatience_27 : decode cX5_findPatience 27 = .ok (.istore 4, 2) := by decide +kernel
theorem dX5_findPatience_29 : decode cX5_findPatience 29 = .ok (.aload_n 0, 1) := by decide +kernel
theorem dX5_findPatience_30 : decode cX5_findPatience 30 = .ok (.getfield 35, 3) := by decide +kernel
theorem dX5_findPatience_33 : decode cX5_findPatience 33 = .ok (.tableswitch 89 1 3 #[27, 35, 60], 27) := by decide +kernel
theorem dX5_findPatience_60 : decode cX5_findPatience 60 = .ok (.iload 4, 2) := by decide +kernel
theorem dX5_findPatience_62 : decode cX5_findPatience 62 = .ok (.bipush 10, 2) := by decide +kernel
theorem dX5_findPatience_64 : decode cX5_findPatience 64 = .ok (.iload_n 1, 1) := by decide +kernel
theorem dX5_findPatience_65 : decode cX5_findPatience 65 = .ok (.imul, 1) := by decide +kernel
theorem dX5_findPatience_66 : decode cX5_findPatience 66 = .ok (.iadd, 1) := by decide +kernel
theorem dX5_findPatience_67 : decode cX5_findPatience 67 = .ok (.ireturn, 1) := by decide +kernel
theorem dX5_findPatience_68 : decode cX5_findPatience 68 = .ok (.iload_n 1, 1) := by decide +kernel
theorem dX5_findPatience_69 : decode cX5_findPatience 69 = .ok (.ifCond .eq 15, 3) := by decide +kernel
theorem dX5_findPatience_72 : decode cX5_findPatience 72 = .ok (.aload_n 0, 1) := by decide +kernel
theorem dX5_findPatience_73 : decode cX5_findPatience 73 = .ok (.getfield 27, 3) := by decide +kernel
theorem dX5_findPatience_76 : decode cX5_findPatience 76 = .ok (.iload_n 1, 1) := by decide +kernel
theorem dX5_findPatience_77 : decode cX5_findPatience 77 = .ok (.aaload, 1) := by decide +kernel
theorem dX5_findPatience_78 : decode cX5_findPatience 78 = .ok (.invokevirtual 138, 3) := by decide +kernel
theorem dX5_findPatience_81 : decode cX5_findPatience 81 = .ok (.ifCond .eq 8, 3) := by decide +kernel
theorem dX5_findPatience_84 : decode cX5_findPatience 84 = .ok (.iload 4, 2) := by decide +kernel
theorem dX5_findPatience_86 : decode cX5_findPatience 86 = .ok (.goto 6, 3) := by decide +kernel
theorem dX5_findPatience_89 : decode cX5_findPatience 89 = .ok (.sipush 9999, 3) := by decide +kernel
theorem dX5_findPatience_92 : decode cX5_findPatience 92 = .ok (.ireturn, 1) := by decide +kernel
theorem dX5_findPatience_93 : decode cX5_findPatience 93 = .ok (.aload_n 0, 1) := by decide +kernel
theorem dX5_findPatience_94 : decode cX5_findPatience 94 = .ok (.getfield 27, 3) := by decide +kernel
theorem dX5_findPatience_97 : decode cX5_findPatience 97 = .ok (.iload_n 1, 1) := by decide +kernel
theorem dX5_findPatience_98 : decode cX5_findPatience 98 = .ok (.aaload, 1) := by decide +kernel
theorem dX5_findPatience_99 : decode cX5_findPatience 99 = .ok (.getfield 86, 3) := by decide +kernel
theorem dX5_findPatience_102 : decode cX5_findPatience 102 = .ok (.iload_n 1, 1) := by decide +kernel
theorem dX5_findPatience_103 : decode cX5_findPatience 103 = .ok (.aload_n 3, 1) := by decide +kernel
theorem dX5_findPatience_104 : decode cX5_findPatience 104 = .ok (.getfield 52, 3) := by decide +kernel
theorem dX5_findPatience_107 : decode cX5_findPatience 107 = .ok (.invokestatic 142, 3) := by decide +kernel
theorem dX5_findPatience_110 : decode cX5_findPatience 110 = .ok (.ifCond .eq 7, 3) := by decide +kernel
theorem dX5_findPatience_113 : decode cX5_findPatience 113 = .ok (.iconst 0, 1) := by decide +kernel
theorem dX5_findPatience_114 : decode cX5_findPatience 114 = .ok (.goto 7, 3) := by decide +kernel
theorem dX5_findPatience_117 : decode cX5_findPatience 117 = .ok (.iconst 3, 1) := by decide +kernel
theorem dX5_findPatience_118 : decode cX5_findPatience 118 = .ok (.iload 4, 2) := by decide +kernel
theorem dX5_findPatience_120 : decode cX5_findPatience 120 = .ok (.imul, 1) := by decide +kernel
theorem dX5_findPatience_121 : decode cX5_findPatience 121 = .ok (.ireturn, 1) := by decide +kernel
theorem dX5_findPatience_122 : decode cX5_findPatience 122 = .ok (.iload 4, 2) := by decide +kernel
theorem dX5_findPatience_124 : decode cX5_findPatience 124 = .ok (.ireturn, 1) := by decide +kernel
theorem dX5_draw_0 : decode cX5_draw 0 = .ok (.iload_n 1, 1) := by decide +kernel
theorem dX5_draw_1 : decode cX5_draw 1 = .ok (.ifCond .le 12, 3) := by decide +kernel
theorem dX5_draw_4 : decode cX5_draw 4 = .ok (.aload_n 0, 1) := by decide +kernel
theorem dX5_draw_5 : decode cX5_draw 5 = .ok (.getfield 9, 3) := by decide +kernel
theorem dX5_draw_8 : decode cX5_draw 8 = .ok (.iload_n 1, 1) := by decide +kernel
theorem dX5_draw_9 : decode cX5_draw 9 = .ok (.irem, 1) := by decide +kernel
theorem dX5_draw_10 : decode cX5_draw 10 = .ok (.goto 4, 3) := by decide +kernel
theorem dX5_draw_13 : decode cX5_draw 13 = .ok (.iconst 0, 1) := by decide +kernel
theorem dX5_draw_14 : decode cX5_draw 14 = .ok (.istore_n 2, 1) := by decide +kernel
theorem dX5_draw_15 : decode cX5_draw 15 = .ok (.aload_n 0, 1) := by decide +kernel
theorem dX5_draw_16 : decode cX5_draw 16 = .ok (.aload_n 0, 1) := by decide +kernel
theorem dX5_draw_17 : decode cX5_draw 17 = .ok (.getfield 9, 3) := by decide +kernel
theorem dX5_draw_20 : decode cX5_draw 20 = .ok (.sipush 197, 3) := by decide +kernel
theorem dX5_draw_23 : decode cX5_draw 23 = .ok (.imul, 1) := by decide +kernel
theorem dX5_draw_24 : decode cX5_draw 24 = .ok (.bipush 113, 2) := by decide +kernel
theorem dX5_draw_26 : decode cX5_draw 26 = .ok (.iadd, 1) := by decide +kernel
theorem dX5_draw_27 : decode cX5_draw 27 = .ok (.sipush 30091, 3) := by decide +kernel
theorem dX5_draw_30 : decode cX5_draw 30 = .ok (.irem, 1) := by decide +kernel
theorem dX5_draw_31 : decode cX5_draw 31 = .ok (.putfield 9, 3) := by decide +kernel
theorem dX5_draw_34 : decode cX5_draw 34 = .ok (.iload_n 2, 1) := by decide +kernel
theorem dX5_draw_35 : decode cX5_draw 35 = .ok (.ireturn, 1) := by decide +kernel
theorem dX5_isNextTo_0 : decode cX5_isNextTo 0 = .ok (.iload_n 0, 1) := by decide +kernel
theorem dX5_isNextTo_1 : decode cX5_isNextTo 1 = .ok (.iconst (-1), 1) := by decide +kernel
theorem dX5_isNextTo_2 : decode cX5_isNextTo 2 = .ok (.if_icmp .eq 25, 3) := by decide +kernel
theorem dX5_isNextTo_5 : decode cX5_isNextTo 5 = .ok (.iload_n 1, 1) := by decide +kernel
theorem dX5_isNextTo_6 : decode cX5_isNextTo 6 = .ok (.iload_n 0, 1) := by decide +kernel
theorem dX5_isNextTo_7 : decode cX5_isNextTo 7 = .ok (.iconst 1, 1) := by decide +kernel
theorem dX5_isNextTo_8 : decode cX5_isNextTo 8 = .ok (.iadd, 1) := by decide +kernel
theorem dX5_isNextTo_9 : decode cX5_isNextTo 9 = .ok (.iload_n 2, 1) := by decide +kernel
theorem dX5_isNextTo_10 : decode cX5_isNextTo 10 = .ok (.if_icmp .ge 9, 3) := by decide +kernel
theorem dX5_isNextTo_13 : decode cX5_isNextTo 13 = .ok (.iload_n 0, 1) := by decide +kernel
theorem dX5_isNextTo_14 : decode cX5_isNextTo 14 = .ok (.iconst 1, 1) := by decide +kernel
theorem dX5_isNextTo_15 : decode cX5_isNextTo 15 = .ok (.iadd, 1) := by decide +kernel
theorem dX5_isNextTo_16 : decode cX5_isNextTo 16 = .ok (.goto 4, 3) := by decide +kernel
theorem dX5_isNextTo_19 : decode cX5_isNextTo 19 = .ok (.iconst 0, 1) := by decide +kernel
theorem dX5_isNextTo_20 : decode cX5_isNextTo 20 = .ok (.if_icmp .ne 7, 3) := by decide +kernel
theorem dX5_isNextTo_23 : decode cX5_isNextTo 23 = .ok (.iconst 1, 1) := by decide +kernel
theorem dX5_isNextTo_24 : decode cX5_isNextTo 24 = .ok (.goto 4, 3) := by decide +kernel
theorem dX5_isNextTo_27 : decode cX5_isNextTo 27 = .ok (.iconst 0, 1) := by decide +kernel
theorem dX5_isNextTo_28 : decode cX5_isNextTo 28 = .ok (.ireturn, 1) := by decide +kernel
theorem dX5_countHeard_0 : decode cX5_countHeard 0 = .ok (.aload_n 0, 1) := by decide +kernel
theorem dX5_countHeard_1 : decode cX5_countHeard 1 = .ok (.getfield 27, 3) := by decide +kernel
theorem dX5_countHeard_4 : decode cX5_countHeard 4 = .ok (.iload_n 1, 1) := by decide +kernel
theorem dX5_countHeard_5 : decode cX5_countHeard 5 = .ok (.aaload, 1) := by decide +kernel
theorem dX5_countHeard_6 : decode cX5_countHeard 6 = .ok (.getfield 83, 3) := by decide +kernel
theorem dX5_countHeard_9 : decode cX5_countHeard 9 = .ok (.istore_n 3, 1) := by decide +kernel
theorem dX5_countHeard_10 : decode cX5_countHeard 10 = .ok (.iload_n 3, 1) := by decide +kernel
theorem dX5_countHeard_11 : decode cX5_countHeard 11 = .ok (.iload_n 3, 1) := by decide +kernel
theorem dX5_countHeard_12 : decode cX5_countHeard 12 = .ok (.iconst 1, 1) := by decide +kernel
theorem dX5_countHeard_13 : decode cX5_countHeard 13 = .ok (.isub, 1) := by decide +kernel
theorem dX5_countHeard_14 : decode cX5_countHeard 14 = .ok (.iand, 1) := by decide +kernel
theorem dX5_countHeard_15 : decode cX5_countHeard 15 = .ok (.ifCond .ne 7, 3) := by decide +kernel
theorem dX5_countHeard_18 : decode cX5_countHeard 18 = .ok (.iconst 1, 1) := by decide +kernel
theorem dX5_countHeard_19 : decode cX5_countHeard 19 = .ok (.goto 4, 3) := by decide +kernel
theorem dX5_countHeard_22 : decode cX5_countHeard 22 = .ok (.iconst 0, 1) := by decide +kernel
theorem dX5_countHeard_23 : decode cX5_countHeard 23 = .ok (.istore 4, 2) := by decide +kernel
theorem dX5_countHeard_25 : decode cX5_countHeard 25 = .ok (.iload 4, 2) := by decide +kernel
theorem dX5_countHeard_27 : decode cX5_countHeard 27 = .ok (.ifCond .eq 22, 3) := by decide +kernel
theorem dX5_countHeard_30 : decode cX5_countHeard 30 = .ok (.aload_n 0, 1) := by decide +kernel
theorem dX5_countHeard_31 : decode cX5_countHeard 31 = .ok (.getfield 27, 3) := by decide +kernel
theorem dX5_countHeard_34 : decode cX5_countHeard 34 = .ok (.iload_n 1, 1) := by decide +kernel
theorem dX5_countHeard_35 : decode cX5_countHeard 35 = .ok (.aaload, 1) := by decide +kernel
theorem dX5_countHeard_36 : decode cX5_countHeard 36 = .ok (.getfield 61, 3) := by decide +kernel
theorem dX5_countHeard_39 : decode cX5_countHeard 39 = .ok (.ifCond .ne 10, 3) := by decide +kernel
theorem dX5_countHeard_42 : decode cX5_countHeard 42 = .ok (.aload_n 0, 1) := by decide +kernel
theorem dX5_countHeard_43 : decode cX5_countHeard 43 = .ok (.getfield 19, 3) := by decide +kernel
theorem dX5_countHeard_46 : decode cX5_countHeard 46 = .ok (.goto 7, 3) := by decide +kernel
theorem dX5_countHeard_49 : decode cX5_countHeard 49 = .ok (.aload_n 0, 1) := by decide +kernel
theorem dX5_countHeard_50 : decode cX5_countHeard 50 = .ok (.getfield 22, 3) := by decide +kernel
theorem dX5_countHeard_53 : decode cX5_countHeard 53 = .ok (.astore 5, 2) := by decide +kernel
theorem dX5_countHeard_55 : decode cX5_countHeard 55 = .ok (.iconst 0, 1) := by decide +kernel
theorem dX5_countHeard_56 : decode cX5_countHeard 56 = .ok (.istore 6, 2) := by decide +kernel
theorem dX5_countHeard_58 : decode cX5_countHeard 58 = .ok (.iload_n 3, 1) := by decide +kernel
theorem dX5_countHeard_59 : decode cX5_countHeard 59 = .ok (.ifCond .eq 37, 3) := by decide +kernel
theorem dX5_countHeard_62 : decode cX5_countHeard 62 = .ok (.iload 6, 2) := by decide +kernel
theorem dX5_countHeard_64 : decode cX5_countHeard 64 = .ok (.iload_n 2, 1) := by decide +kernel
theorem dX5_countHeard_65 : decode cX5_countHeard 65 = .ok (.if_icmp .ge 31, 3) := by decide +kernel
theorem dX5_countHeard_68 : decode cX5_countHeard 68 = .ok (.iload_n 3, 1) := by decide +kernel
theorem dX5_countHeard_69 : decode cX5_countHeard 69 = .ok (.iload 6, 2) := by decide +kernel
theorem dX5_countHeard_71 : decode cX5_countHeard 71 = .ok (.ishr, 1) := by decide +kernel
theorem dX5_countHeard_72 : decode cX5_countHeard 72 = .ok (.iconst 1, 1) := by decide +kernel
theorem dX5_countHeard_73 : decode cX5_countHeard 73 = .ok (.iand, 1) := by decide +kernel
theorem dX5_countHeard_74 : decode cX5_countHeard 74 = .ok (.ifCond .eq 16, 3) := by decide +kernel
theorem dX5_countHeard_77 : decode cX5_countHeard 77 = .ok (.aload 5, 2) := by decide +kernel
theorem dX5_countHeard_79 : decode cX5_countHeard 79 = .ok (.iload 6, 2) := by decide +kernel
theorem dX5_countHeard_81 : decode cX5_countHeard 81 = .ok (.iconst 4, 1) := by decide +kernel
theorem dX5_countHeard_82 : decode cX5_countHeard 82 = .ok (.imul, 1) := by decide +kernel
theorem dX5_countHeard_83 : decode cX5_countHeard 83 = .ok (.iload_n 1, 1) := by decide +kernel
theorem dX5_countHeard_84 : decode cX5_countHeard 84 = .ok (.iadd, 1) := by decide +kernel
theorem dX5_countHeard_85 : decode cX5_countHeard 85 = .ok (.dup2, 1) := by decide +kernel
theorem dX5_countHeard_86 : decode cX5_countHeard 86 = .ok (.iaload, 1) := by decide +kernel
theorem dX5_countHeard_87 : decode cX5_countHeard 87 = .ok (.iconst 1, 1) := by decide +kernel
theorem dX5_countHeard_88 : decode cX5_countHeard 88 = .ok (.iadd, 1) := by decide +kernel
theorem dX5_countHeard_89 : decode cX5_countHeard 89 = .ok (.iastore, 1) := by decide +kernel
theorem dX5_countHeard_90 : decode cX5_countHeard 90 = .ok (.iinc 6 1, 3) := by decide +kernel
theorem dX5_countHeard_93 : decode cX5_countHeard 93 = .ok (.goto (-35), 3) := by decide +kernel
theorem dX5_countHeard_96 : decode cX5_countHeard 96 = .ok (.return_, 1) := by decide +kernel
theorem dX5_openTurn_0 : decode cX5_openTurn 0 = .ok (.aload_n 0, 1) := by decide +kernel
theorem dX5_openTurn_1 : decode cX5_openTurn 1 = .ok (.getfield 27, 3) := by decide +kernel
theorem dX5_openTurn_4 : decode cX5_openTurn 4 = .ok (.iload_n 1, 1) := by decide +kernel
theorem dX5_openTurn_5 : decode cX5_openTurn 5 = .ok (.aaload, 1) := by decide +kernel
theorem dX5_openTurn_6 : decode cX5_openTurn 6 = .ok (.astore 5, 2) := by decide +kernel
theorem dX5_openTurn_8 : decode cX5_openTurn 8 = .ok (.aload 5, 2) := by decide +kernel
theorem dX5_openTurn_10 : decode cX5_openTurn 10 = .ok (.iconst 1, 1) := by decide +kernel
theorem dX5_openTurn_11 : decode cX5_openTurn 11 = .ok (.putfield 61, 3) := by decide +kernel
theorem dX5_openTurn_14 : decode cX5_openTurn 14 = .ok (.aload 5, 2) := by decide +kernel
theorem dX5_openTurn_16 : decode cX5_openTurn 16 = .ok (.iconst 0, 1) := by decide +kernel
theorem dX5_openTurn_17 : decode cX5_openTurn 17 = .ok (.putfield 92, 3) := by decide +kernel
theorem dX5_openTurn_20 : decode cX5_openTurn 20 = .ok (.aload 5, 2) := by decide +kernel
theorem dX5_openTurn_22 : decode cX5_openTurn 22 = .ok (.aload_n 0, 1) := by decide +kernel
theorem dX5_openTurn_23 : decode cX5_openTurn 23 = .ok (.getfield 38, 3) := by decide +kernel
theorem dX5_openTurn_26 : decode cX5_openTurn 26 = .ok (.putfield 146, 3) := by decide +kernel
theorem dX5_openTurn_29 : decode cX5_openTurn 29 = .ok (.aload 5, 2) := by decide +kernel
theorem dX5_openTurn_31 : decode cX5_openTurn 31 = .ok (.iload_n 3, 1) := by decide +kernel
theorem dX5_openTurn_32 : decode cX5_openTurn 32 = .ok (.putfield 110, 3) := by decide +kernel
theorem dX5_openTurn_35 : decode cX5_openTurn 35 = .ok (.aload 5, 2) := by decide +kernel
theorem dX5_openTurn_37 : decode cX5_openTurn 37 = .ok (.iconst 0, 1) := by decide +kernel
theorem dX5_openTurn_38 : decode cX5_openTurn 38 = .ok (.putfield 107, 3) := by decide +kernel
theorem dX5_openTurn_41 : decode cX5_openTurn 41 = .ok (.aload 5, 2) := by decide +kernel
theorem dX5_openTurn_43 : decode cX5_openTurn 43 = .ok (.dup, 1) := by decide +kernel
theorem dX5_openTurn_44 : decode cX5_openTurn 44 = .ok (.getfield 149, 3) := by decide +kernel
theorem dX5_openTurn_47 : decode cX5_openTurn 47 = .ok (.iconst 1, 1) := by decide +kernel
theorem dX5_openTurn_48 : decode cX5_openTurn 48 = .ok (.iadd, 1) := by decide +kernel
theorem dX5_openTurn_49 : decode cX5_openTurn 49 = .ok (.putfield 149, 3) := by decide +kernel
theorem dX5_openTurn_52 : decode cX5_openTurn 52 = .ok (.aload 4, 2) := by decide +kernel
theorem dX5_openTurn_54 : decode cX5_openTurn 54 = .ok (.aload_n 0, 1) := by decide +kernel
theorem dX5_openTurn_55 : decode cX5_openTurn 55 = .ok (.getfield 38, 3) := by decide +kernel
theorem dX5_openTurn_58 : decode cX5_openTurn 58 = .ok (.iload_n 1, 1) := by decide +kernel
theorem dX5_openTurn_59 : decode cX5_openTurn 59 = .ok (.iload_n 2, 1) := by decide +kernel
theorem dX5_openTurn_60 : decode cX5_openTurn 60 = .ok (.iload_n 3, 1) := by decide +kernel
theorem dX5_openTurn_61 : decode cX5_openTurn 61 = .ok (.invokevirtual 150, 3) := by decide +kernel
theorem dX5_openTurn_64 : decode cX5_openTurn 64 = .ok (.aload_n 0, 1) := by decide +kernel
theorem dX5_openTurn_65 : decode cX5_openTurn 65 = .ok (.dup, 1) := by decide +kernel
theorem dX5_openTurn_66 : decode cX5_openTurn 66 = .ok (.getfield 38, 3) := by decide +kernel
theorem dX5_openTurn_69 : decode cX5_openTurn 69 = .ok (.iconst 1, 1) := by decide +kernel
theorem dX5_openTurn_70 : decode cX5_openTurn 70 = .ok (.iadd, 1) := by decide +kernel
theorem dX5_openTurn_71 : decode cX5_openTurn 71 = .ok (.putfield 38, 3) := by decide +kernel
theorem dX5_openTurn_74 : decode cX5_openTurn 74 = .ok (.return_, 1) := by decide +kernel
theorem dX5_closeTurn_0 : decode cX5_closeTurn 0 = .ok (.aload_n 0, 1) := by decide +kernel
theorem dX5_closeTurn_1 : decode cX5_closeTurn 1 = .ok (.getfield 27, 3) := by decide +kernel
theorem dX5_closeTurn_4 : decode cX5_closeTurn 4 = .ok (.iload_n 1, 1) := by decide +kernel
theorem dX5_closeTurn_5 : decode cX5_closeTurn 5 = .ok (.aaload, 1) := by decide +kernel
theorem dX5_closeTurn_6 : decode cX5_closeTurn 6 = .ok (.astore 5, 2) := by decide +kernel
theorem dX5_closeTurn_8 : decode cX5_closeTurn 8 = .ok (.aload 5, 2) := by decide +kernel
theorem dX5_closeTurn_10 : decode cX5_closeTurn 10 = .ok (.iconst 0, 1) := by decide +kernel
theorem dX5_closeTurn_11 : decode cX5_closeTurn 11 = .ok (.putfield 61, 3) := by decide +kernel
theorem dX5_closeTurn_14 : decode cX5_closeTurn 14 = .ok (.aload 5, 2) := by decide +kernel
theorem dX5_closeTurn_16 : decode cX5_closeTurn 16 = .ok (.iconst 0, 1) := by decide +kernel
theorem dX5_closeTurn_17 : decode cX5_closeTurn 17 = .ok (.putfield 113, 3) := by decide +kernel
theorem dX5_closeTurn_20 : decode cX5_closeTurn 20 = .ok (.aload 5, 2) := by decide +kernel
theorem dX5_closeTurn_22 : decode cX5_closeTurn 22 = .ok (.getfield 107, 3) := by decide +kernel
theorem dX5_closeTurn_25 : decode cX5_closeTurn 25 = .ok (.ifCond .le 9, 3) := by decide +kernel
theorem dX5_closeTurn_28 : decode cX5_closeTurn 28 = .ok (.aload 5, 2) := by decide +kernel
theorem dX5_closeTurn_30 : decode cX5_closeTurn 30 = .ok (.iload_n 2, 1) := by decide +kernel
theorem dX5_closeTurn_31 : decode cX5_closeTurn 31 = .ok (.putfield 153, 3) := by decide +kernel
theorem dX5_closeTurn_34 : decode cX5_closeTurn 34 = .ok (.iload_n 3, 1) := by decide +kernel
theorem dX5_closeTurn_35 : decode cX5_closeTurn 35 = .ok (.iconst 2, 1) := by decide +kernel
theorem dX5_closeTurn_36 : decode cX5_closeTurn 36 = .ok (.if_icmp .ne 14, 3) := by decide +kernel
theorem dX5_closeTurn_39 : decode cX5_closeTurn 39 = .ok (.aload 5, 2) := by decide +kernel
theorem dX5_closeTurn_41 : decode cX5_closeTurn 41 = .ok (.dup, 1) := by decide +kernel
theorem dX5_closeTurn_42 : decode cX5_closeTurn 42 = .ok (.getfield 156, 3) := by decide +kernel
theorem dX5_closeTurn_45 : decode cX5_closeTurn 45 = .ok (.iconst 1, 1) := by decide +kernel
theorem dX5_closeTurn_46 : decode cX5_closeTurn 46 = .ok (.iadd, 1) := by decide +kernel
theorem dX5_closeTurn_47 : decode cX5_closeTurn 47 = .ok (.putfield 156, 3) := by decide +kernel
theorem dX5_closeTurn_50 : decode cX5_closeTurn 50 = .ok (.aload 4, 2) := by decide +kernel
theorem dX5_closeTurn_52 : decode cX5_closeTurn 52 = .ok (.aload 5, 2) := by decide +kernel
theorem dX5_closeTurn_54 : decode cX5_closeTurn 54 = .ok (.getfield 146, 3) := by decide +kernel
theorem dX5_closeTurn_57 : decode cX5_closeTurn 57 = .ok (.iload_n 2, 1) := by decide +kernel
theorem dX5_closeTurn_58 : decode cX5_closeTurn 58 = .ok (.iload_n 3, 1) := by decide +kernel
theorem dX5_closeTurn_59 : decode cX5_closeTurn 59 = .ok (.invokevirtual 159, 3) := by decide +kernel
theorem dX5_closeTurn_62 : decode cX5_closeTurn 62 = .ok (.return_, 1) := by decide +kernel
theorem dX6_init_0 : decode cX6_init 0 = .ok (.aload_n 0, 1) := by decide +kernel
theorem dX6_init_1 : decode cX6_init 1 = .ok (.invokespecial 3, 3) := by decide +kernel
theorem dX6_init_4 : decode cX6_init 4 = .ok (.aload_n 0, 1) := by decide +kernel
theorem dX6_init_5 : decode cX6_init 5 = .ok (.iconst 2, 1) := by decide +kernel
theorem dX6_init_6 : decode cX6_init 6 = .ok (.newarray .int, 2) := by decide +kernel
theorem dX6_init_8 : decode cX6_init 8 = .ok (.putfield 9, 3) := by decide +kernel
theorem dX6_init_11 : decode cX6_init 11 = .ok (.aload_n 0, 1) := by decide +kernel
theorem dX6_init_12 : decode cX6_init 12 = .ok (.iconst 2, 1) := by decide +kernel
theorem dX6_init_13 : decode cX6_init 13 = .ok (.newarray .int, 2) := by decide +kernel
theorem dX6_init_15 : decode cX6_init 15 = .ok (.putfield 15, 3) := by decide +kernel
theorem dX6_init_18 : decode cX6_init 18 = .ok (.aload_n 0, 1) := by decide +kernel
theorem dX6_init_19 : decode cX6_init 19 = .ok (.iconst 2, 1) := by decide +kernel
theorem dX6_init_20 : decode cX6_init 20 = .ok (.sipush 1001, 3) := by decide +kernel
theorem dX6_init_23 : decode cX6_init 23 = .ok (.multianewarray 18 2, 4) := by decide +kernel
theorem dX6_init_27 : decode cX6_init 27 = .ok (.putfield 20, 3) := by decide +kernel
theorem dX6_init_30 : decode cX6_init 30 = .ok (.aload_n 0, 1) := by decide +kernel
theorem dX6_init_31 : decode cX6_init 31 = .ok (.iconst 2, 1) := by decide +kernel
theorem dX6_init_32 : decode cX6_init 32 = .ok (.sipush 1001, 3) := by decide +kernel
theorem dX6_init_35 : decode cX6_init 35 = .ok (.multianewarray 18 2, 4) := by decide +kernel
theorem dX6_init_39 : decode cX6_init 39 = .ok (.putfield 23, 3) := by decide +kernel
theorem dX6_init_42 : decode cX6_init 42 = .ok (.aload_n 0, 1) := by decide +kernel
theorem dX6_init_43 : decode cX6_init 43 = .ok (.iconst 2, 1) := by decide +kernel
theorem dX6_init_44 : decode cX6_init 44 = .ok (.sipush 1001, 3) := by decide +kernel
theorem dX6_init_47 : decode cX6_init 47 = .ok (.multianewarray 18 2, 4) := by decide +kernel
theorem dX6_init_51 : decode cX6_init 51 = .ok (.putfield 26, 3) := by decide +kernel
theorem dX6_init_54 : decode cX6_init 54 = .ok (.aload_n 0, 1) := by decide +kernel
theorem dX6_init_55 : decode cX6_init 55 = .ok (.iconst 2, 1) := by decide +kernel
theorem dX6_init_56 : decode cX6_init 56 = .ok (.newarray .int, 2) := by decide +kernel
theorem dX6_init_58 : decode cX6_init 58 = .ok (.putfield 29, 3) := by decide +kernel
theorem dX6_init_61 : decode cX6_init 61 = .ok (.aload_n 0, 1) := by decide +kernel
theorem dX6_init_62 : decode cX6_init 62 = .ok (.iconst 2, 1) := by decide +kernel
theorem dX6_init_63 : decode cX6_init 63 = .ok (.newarray .int, 2) := by decide +kernel
theorem dX6_init_65 : decode cX6_init 65 = .ok (.putfield 32, 3) := by decide +kernel
theorem dX6_init_68 : decode cX6_init 68 = .ok (.aload_n 0, 1) := by decide +kernel
theorem dX6_init_69 : decode cX6_init 69 = .ok (.iconst 2, 1) := by decide +kernel
theorem dX6_init_70 : decode cX6_init 70 = .ok (.newarray .int, 2) := by decide +kernel
theorem dX6_init_72 : decode cX6_init 72 = .ok (.putfield 35, 3) := by decide +kernel
theorem dX6_init_75 : decode cX6_init 75 = .ok (.aload_n 0, 1) := by decide +kernel
theorem dX6_init_76 : decode cX6_init 76 = .ok (.sipush 625, 3) := by decide +kernel
theorem dX6_init_79 : decode cX6_init 79 = .ok (.newarray .int, 2) := by decide +kernel
theorem dX6_init_81 : decode cX6_init 81 = .ok (.putfield 38, 3) := by decide +kernel
theorem dX6_init_84 : decode cX6_init 84 = .ok (.aload_n 0, 1) := by decide +kernel
theorem dX6_init_85 : decode cX6_init 85 = .ok (.iconst (-1), 1) := by decide +kernel
theorem dX6_init_86 : decode cX6_init 86 = .ok (.putfield 41, 3) := by decide +kernel
theorem dX6_init_89 : decode cX6_init 89 = .ok (.return_, 1) := by decide +kernel
theorem dX6_set_0 : decode cX6_set 0 = .ok (.aload_n 0, 1) := by decide +kernel
theorem dX6_set_1 : decode cX6_set 1 = .ok (.getfield 15, 3) := by decide +kernel
theorem dX6_set_4 : decode cX6_set 4 = .ok (.iconst 0, 1) := by decide +kernel
theorem dX6_set_5 : decode cX6_set 5 = .ok (.iaload, 1) := by decide +kernel
theorem dX6_set_6 : decode cX6_set 6 = .ok (.iconst 1, 1) := by decide +kernel
theorem dX6_set_7 : decode cX6_set 7 = .ok (.iload_n 1, 1) := by decide +kernel
theorem dX6_set_8 : decode cX6_set 8 = .ok (.iadd, 1) := by decide +kernel
theorem dX6_set_9 : decode cX6_set 9 = .ok (.if_icmp .ne 32, 3) := by decide +kernel
theorem dX6_set_12 : decode cX6_set 12 = .ok (.aload_n 0, 1) := by decide +kernel
theorem dX6_set_13 : decode cX6_set 13 = .ok (.getfield 15, 3) := by decide +kernel
theorem dX6_set_16 : decode cX6_set 16 = .ok (.iconst 1, 1) := by decide +kernel
theorem dX6_set_17 : decode cX6_set 17 = .ok (.iaload, 1) := by decide +kernel
theorem dX6_set_18 : decode cX6_set 18 = .ok (.iconst 1, 1) := by decide +kernel
theorem dX6_set_19 : decode cX6_set 19 = .ok (.iload_n 2, 1) := by decide +kernel
theorem dX6_set_20 : decode cX6_set 20 = .ok (.iadd, 1) := by decide +kernel
theorem dX6_set_21 : decode cX6_set 21 = .ok (.if_icmp .ne 20, 3) := by decide +kernel
theorem dX6_set_24 : decode cX6_set 24 = .ok (.aload_n 0, 1) := by decide +kernel
theorem dX6_set_25 : decode cX6_set 25 = .ok (.getfield 45, 3) := by decide +kernel
theorem dX6_set_28 : decode cX6_set 28 = .ok (.iload_n 3, 1) := by decide +kernel
theorem dX6_set_29 : decode cX6_set 29 = .ok (.if_icmp .ne 12, 3) := by decide +kernel
theorem dX6_set_32 : decode cX6_set 32 = .ok (.aload_n 0, 1) := by decide +kernel
theorem dX6_set_33 : decode cX6_set 33 = .ok (.getfield 48, 3) := by decide +kernel
theorem dX6_set_36 : decode cX6_set 36 = .ok (.iload 4, 2) := by decide +kernel
theorem dX6_set_38 : decode cX6_set 38 = .ok (.if_icmp .eq 8, 3) := by decide +kernel
theorem dX6_set_41 : decode cX6_set 41 = .ok (.aload_n 0, 1) := by decide +kernel
theorem dX6_set_42 : decode cX6_set 42 = .ok (.iconst (-1), 1) := by decide +kernel
theorem dX6_set_43 : decode cX6_set 43 = .ok (.putfield 41, 3) := by decide +kernel
theorem dX6_set_46 : decode cX6_set 46 = .ok (.aload_n 0, 1) := by decide +kernel
theorem dX6_set_47 : decode cX6_set 47 = .ok (.getfield 15, 3) := by decide +kernel
theorem dX6_set_50 : decode cX6_set 50 = .ok (.iconst 0, 1) := by decide +kernel
theorem dX6_set_51 : decode cX6_set 51 = .ok (.iconst 1, 1) := by decide +kernel
theorem dX6_set_52 : decode cX6_set 52 = .ok (.iload_n 1, 1) := by decide +kernel
theorem dX6_set_53 : decode cX6_set 53 = .ok (.iadd, 1) := by decide +kernel
theorem dX6_set_54 : decode cX6_set 54 = .ok (.iastore, 1) := by decide +kernel
theorem dX6_set_55 : decode cX6_set 55 = .ok (.aload_n 0, 1) := by decide +kernel
theorem dX6_set_56 : decode cX6_set 56 = .ok (.getfield 15, 3) := by decide +kernel
theorem dX6_set_59 : decode cX6_set 59 = .ok (.iconst 1, 1) := by decide +kernel
theorem dX6_set_60 : decode cX6_set 60 = .ok (.iconst 1, 1) := by decide +kernel
theorem dX6_set_61 : decode cX6_set 61 = .ok (.iload_n 2, 1) := by decide +kernel
theorem dX6_set_62 : decode cX6_set 62 = .ok (.iadd, 1) := by decide +kernel
theorem dX6_set_63 : decode cX6_set 63 = .ok (.iastore, 1) := by decide +kernel
theorem dX6_set_64 : decode cX6_set 64 = .ok (.aload_n 0, 1) := by decide +kernel
theorem dX6_set_65 : decode cX6_set 65 = .ok (.iload_n 3, 1) := by decide +kernel
theorem dX6_set_66 : decode cX6_set 66 = .ok (.putfield 45, 3) := by decide +kernel
theorem dX6_set_69 : decode cX6_set 69 = .ok (.aload_n 0, 1) := by decide +kernel
theorem dX6_set_70 : decode cX6_set 70 = .ok (.iload 4, 2) := by decide +kernel
theorem dX6_set_72 : decode cX6_set 72 = .ok (.putfield 48, 3) := by decide +kernel
theorem dX6_set_75 : decode cX6_set 75 = .ok (.return_, 1) := by decide +kernel
theorem dX6_findApart_0 : decode cX6_findApart 0 = .ok (.aload_n 0, 1) := by decide +kernel
theorem dX6_findApart_1 : decode cX6_findApart 1 = .ok (.getfield 41, 3) := by decide +kernel
theorem dX6_findApart_4 : decode cX6_findApart 4 = .ok (.iconst (-1), 1) := by decide +kernel
theorem dX6_findApart_5 : decode cX6_findApart 5 = .ok (.if_icmp .eq 4, 3) := by decide +kernel
theorem dX6_findApart_8 : decode cX6_findApart 8 = .ok (.return_, 1) := by decide +kernel
theorem dX6_findApart_9 : decode cX6_findApart 9 = .ok (.aload_n 0, 1) := by decide +kernel
theorem dX6_findApart_10 : decode cX6_findApart 10 = .ok (.iconst 0, 1) := by decide +kernel
theorem dX6_findApart_11 : decode cX6_findApart 11 = .ok (.putfield 41, 3) := by decide +kernel
theorem dX6_findApart_14 : decode cX6_findApart 14 = .ok (.iconst 0, 1) := by decide +kernel
theorem dX6_findApart_15 : decode cX6_findApart 15 = .ok (.istore_n 1, 1) := by decide +kernel
theorem dX6_findApart_16 : decode cX6_findApart 16 = .ok (.iload_n 1, 1) := by decide +kernel
theorem dX6_findApart_17 : decode cX6_findApart 17 = .ok (.sipush 625, 3) := by decide +kernel
theorem dX6_findApart_20 : decode cX6_findApart 20 = .ok (.if_icmp .ge 45, 3) := by decide +kernel
theorem dX6_findApart_23 : decode cX6_findApart 23 = .ok (.aload_n 0, 1) := by decide +kernel
theorem dX6_findApart_24 : decode cX6_findApart 24 = .ok (.iload_n 1, 1) := by decide +kernel
theorem dX6_findApart_25 : decode cX6_findApart 25 = .ok (.bipush 25, 2) := by decide +kernel
theorem dX6_findApart_27 : decode cX6_findApart 27 = .ok (.idiv, 1) := by decide +kernel
theorem dX6_findApart_28 : decode cX6_findApart 28 = .ok (.iload_n 1, 1) := by decide +kernel
theorem dX6_findApart_29 : decode cX6_findApart 29 = .ok (.bipush 25, 2) := by decide +kernel
theorem dX6_findApart_31 : decode cX6_findApart 31 = .ok (.irem, 1) := by decide +kernel
theorem dX6_findApart_32 : decode cX6_findApart 32 = .ok (.invokevirtual 51, 3) := by decide +kernel
theorem dX6_findApart_35 : decode cX6_findApart 35 = .ok (.iconst (-1), 1) := by decide +kernel
theorem dX6_findApart_36 : decode cX6_findApart 36 = .ok (.if_icmp .eq 23, 3) := by decide +kernel
theorem dX6_findApart_39 : decode cX6_findApart 39 = .ok (.aload_n 0, 1) := by decide +kernel
theorem dX6_findApart_40 : decode cX6_findApart 40 = .ok (.getfield 38, 3) := by decide +kernel
theorem dX6_findApart_43 : decode cX6_findApart 43 = .ok (.aload_n 0, 1) := by decide +kernel
theorem dX6_findApart_44 : decode cX6_findApart 44 = .ok (.getfield 41, 3) := by decide +kernel
theorem dX6_findApart_47 : decode cX6_findApart 47 = .ok (.iload_n 1, 1) := by decide +kernel
theorem dX6_findApart_48 : decode cX6_findApart 48 = .ok (.iastore, 1) := by decide +kernel
theorem dX6_findApart_49 : decode cX6_findApart 49 = .ok (.aload_n 0, 1) := by decide +kernel
theorem dX6_findApart_50 : decode cX6_findApart 50 = .ok (.dup, 1) := by decide +kernel
theorem dX6_findApart_51 : decode cX6_findApart 51 = .ok (.getfield 41, 3) := by decide +kernel
theorem dX6_findApart_54 : decode cX6_findApart 54 = .ok (.iconst 1, 1) := by decide +kernel
theorem dX6_findApart_55 : decode cX6_findApart 55 = .ok (.iadd, 1) := by decide +kernel
theorem dX6_findApart_56 : decode cX6_findApart 56 = .ok (.putfield 41, 3) := by decide +kernel
theorem dX6_findApart_59 : decode cX6_findApart 59 = .ok (.iinc 1 1, 3) := by decide +kernel
theorem dX6_findApart_62 : decode cX6_findApart 62 = .ok (.goto (-46), 3) := by decide +kernel
theorem dX6_findApart_65 : decode cX6_findApart 65 = .ok (.return_, 1) := by decide +kernel
theorem dX6_comesAt_0 : decode cX6_comesAt 0 = .ok (.aload_n 0, 1) := by decide +kernel
theorem dX6_comesAt_1 : decode cX6_comesAt 1 = .ok (.getfield 9, 3) := by decide +kernel
theorem dX6_comesAt_4 : decode cX6_comesAt 4 = .ok (.iconst 0, 1) := by decide +kernel
theorem dX6_comesAt_5 : decode cX6_comesAt 5 = .ok (.iload_n 1, 1) := by decide +kernel
theorem dX6_comesAt_6 : decode cX6_comesAt 6 = .ok (.iastore, 1) := by decide +kernel
theorem dX6_comesAt_7 : decode cX6_comesAt 7 = .ok (.aload_n 0, 1) := by decide +kernel
theorem dX6_comesAt_8 : decode cX6_comesAt 8 = .ok (.getfield 9, 3) := by decide +kernel
theorem dX6_comesAt_11 : decode cX6_comesAt 11 = .ok (.iconst 1, 1) := by decide +kernel
theorem dX6_comesAt_12 : decode cX6_comesAt 12 = .ok (.iload_n 2, 1) := by decide +kernel
theorem dX6_comesAt_13 : decode cX6_comesAt 13 = .ok (.iastore, 1) := by decide +kernel
theorem dX6_comesAt_14 : decode cX6_comesAt 14 = .ok (.aload_n 0, 1) := by decide +kernel
theorem dX6_comesAt_15 : decode cX6_comesAt 15 = .ok (.iconst (-1), 1) := by decide +kernel
theorem dX6_comesAt_16 : decode cX6_comesAt 16 = .ok (.putfield 55, 3) := by decide +kernel
theorem dX6_comesAt_19 : decode cX6_comesAt 19 = .ok (.iconst 0, 1) := by decide +kernel
theorem dX6_comesAt_20 : decode cX6_comesAt 20 = .ok (.istore_n 3, 1) := by decide +kernel
theorem dX6_comesAt_21 : decode cX6_comesAt 21 = .ok (.iload_n 3, 1) := by decide +kernel
theorem dX6_comesAt_22 : decode cX6_comesAt 22 = .ok (.iconst 2, 1) := by decide +kernel
theorem dX6_comesAt_23 : decode cX6_comesAt 23 = .ok (.if_icmp .ge 36, 3) := by decide +kernel
theorem dX6_comesAt_26 : decode cX6_comesAt 26 = .ok (.aload_n 0, 1) := by decide +kernel
theorem dX6_comesAt_27 : decode cX6_comesAt 27 = .ok (.getfield 29, 3) := by decide +kernel
theorem dX6_comesAt_30 : decode cX6_comesAt 30 = .ok (.iload_n 3, 1) := by decide +kernel
theorem dX6_comesAt_31 : decode cX6_comesAt 31 = .ok (.iconst 0, 1) := by decide +kernel
theorem dX6_comesAt_32 : decode cX6_comesAt 32 = .ok (.iastore, 1) := by decide +kernel
theorem dX6_comesAt_33 : decode cX6_comesAt 33 = .ok (.aload_n 0, 1) := by decide +kernel
theorem dX6_comesAt_34 : decode cX6_comesAt 34 = .ok (.getfield 32, 3) := by decide +kernel
theorem dX6_comesAt_37 : decode cX6_comesAt 37 = .ok (.iload_n 3, 1) := by decide +kernel
theorem dX6_comesAt_38 : decode cX6_comesAt 38 = .ok (.iconst 0, 1) := by decide +kernel
theorem dX6_comesAt_39 : decode cX6_comesAt 39 = .ok (.iastore, 1) := by decide +kernel
theorem dX6_comesAt_40 : decode cX6_comesAt 40 = .ok (.aload_n 0, 1) := by decide +kernel
theorem dX6_comesAt_41 : decode cX6_comesAt 41 = .ok (.getfield 35, 3) := by decide +kernel
theorem dX6_comesAt_44 : decode cX6_comesAt 44 = .ok (.iload_n 3, 1) := by decide +kernel
theorem dX6_comesAt_45 : decode cX6_comesAt 45 = .ok (.iconst 0, 1) := by decide +kernel
theorem dX6_comesAt_46 : decode cX6_comesAt 46 = .ok (.iastore, 1) := by decide +kernel
theorem dX6_comesAt_47 : decode cX6_comesAt 47 = .ok (.aload_n 0, 1) := by decide +kernel
theorem dX6_comesAt_48 : decode cX6_comesAt 48 = .ok (.iload_n 3, 1) := by decide +kernel
theorem dX6_comesAt_49 : decode cX6_comesAt 49 = .ok (.iconst 0, 1) := by decide +kernel
theorem dX6_comesAt_50 : decode cX6_comesAt 50 = .ok (.invokevirtual 58, 3) := by decide +kernel
theorem dX6_comesAt_53 : decode cX6_comesAt 53 = .ok (.iinc 3 1, 3) := by decide +kernel
theorem dX6_comesAt_56 : decode cX6_comesAt 56 = .ok (.goto (-35), 3) := by decide +kernel
theorem dX6_comesAt_59 : decode cX6_comesAt 59 = .ok (.iconst 0, 1) := by decide +kernel
theorem dX6_comesAt_60 : decode cX6_comesAt 60 = .ok (.istore_n 3, 1) := by decide +kernel
theorem dX6_comesAt_61 : decode cX6_comesAt 61 = .ok (.iload_n 3, 1) := by decide +kernel
theorem dX6_comesAt_62 : decode cX6_comesAt 62 = .ok (.sipush 4000, 3) := by decide +kernel
theorem dX6_comesAt_65 : decode cX6_comesAt 65 = .ok (.if_icmp .ge 90, 3) := by decide +kernel
theorem dX6_comesAt_68 : decode cX6_comesAt 68 = .ok (.aload_n 0, 1) := by decide +kernel
theorem dX6_comesAt_69 : decode cX6_comesAt 69 = .ok (.invokevirtual 62, 3) := by decide +kernel
theorem dX6_comesAt_72 : decode cX6_comesAt 72 = .ok (.ifCond .ne 83, 3) := by decide +kernel
theorem dX6_comesAt_75 : decode cX6_comesAt 75 = .ok (.aload_n 0, 1) := by decide +kernel
theorem dX6_comesAt_76 : decode cX6_comesAt 76 = .ok (.iconst 0, 1) := by decide +kernel
theorem dX6_comesAt_77 : decode cX6_comesAt 77 = .ok (.invokevirtual 66, 3) := by decide +kernel
theorem dX6_comesAt_80 : decode cX6_comesAt 80 = .ok (.istore 4, 2) := by decide +kernel
theorem dX6_comesAt_82 : decode cX6_comesAt 82 = .ok (.aload_n 0, 1) := by decide +kernel
theorem dX6_comesAt_83 : decode cX6_comesAt 83 = .ok (.iconst 1, 1) := by decide +kernel
theorem dX6_comesAt_84 : decode cX6_comesAt 84 = .ok (.invokevirtual 66, 3) := by decide +kernel
theorem dX6_comesAt_87 : decode cX6_comesAt 87 = .ok (.istore 5, 2) := by decide +kernel
theorem dX6_comesAt_89 : decode cX6_comesAt 89 = .ok (.sipush 1000, 3) := by decide +kernel
theorem dX6_comesAt_92 : decode cX6_comesAt 92 = .ok (.iload 4, 2) := by decide +kernel
theorem dX6_comesAt_94 : decode cX6_comesAt 94 = .ok (.iload 5, 2) := by decide +kernel
theorem dX6_comesAt_96 : decode cX6_comesAt 96 = .ok (.invokestatic 70, 3) := by decide +kernel
theorem dX6_comesAt_99 : decode cX6_comesAt 99 = .ok (.invokestatic 70, 3) := by decide +kernel
theorem dX6_comesAt_102 : decode cX6_comesAt 102 = .ok (.istore 6, 2) := by decide +kernel
theorem dX6_comesAt_104 : decode cX6_comesAt 104 = .ok (.aload_n 0, 1) := by decide +kernel
theorem dX6_comesAt_105 : decode cX6_comesAt 105 = .ok (.iconst 0, 1) := by decide +kernel
theorem dX6_comesAt_106 : decode cX6_comesAt 106 = .ok (.iload 6, 2) := by decide +kernel
theorem dX6_comesAt_108 : decode cX6_comesAt 108 = .ok (.invokevirtual 75, 3) := by decide +kernel
theorem dX6_comesAt_111 : decode cX6_comesAt 111 = .ok (.aload_n 0, 1) := by decide +kernel
theorem dX6_comesAt_112 : decode cX6_comesAt 112 = .ok (.iconst 1, 1) := by decide +kernel
theorem dX6_comesAt_113 : decode cX6_comesAt 113 = .ok (.iload 6, 2) := by decide +kernel
theorem dX6_comesAt_115 : decode cX6_comesAt 115 = .ok (.invokevirtual 75, 3) := by decide +kernel
theorem dX6_comesAt_118 : decode cX6_comesAt 118 = .ok (.iload 6, 2) := by decide +kernel
theorem dX6_comesAt_120 : decode cX6_comesAt 120 = .ok (.sipush 1000, 3) := by decide +kernel
theorem dX6_comesAt_123 : decode cX6_comesAt 123 = .ok (.if_icmp .lt 8, 3) := by decide +kernel
theorem dX6_comesAt_126 : decode cX6_comesAt 126 = .ok (.aload_n 0, 1) := by decide +kernel
theorem dX6_comesAt_127 : decode cX6_comesAt 127 = .ok (.getfield 55, 3) := by decide +kernel
theorem dX6_comesAt_130 : decode cX6_comesAt 130 = .ok (.ireturn, 1) := by decide +kernel
theorem dX6_comesAt_131 : decode cX6_comesAt 131 = .ok (.aload_n 0, 1) := by decide +kernel
theorem dX6_comesAt_132 : decode cX6_comesAt 132 = .ok (.iload 4, 2) := by decide +kernel
theorem dX6_comesAt_134 : decode cX6_comesAt 134 = .ok (.iload 5, 2) := by decide +kernel
theorem dX6_comesAt_136 : decode cX6_comesAt 136 = .ok (.if_icmp .gt 7, 3) := by decide +kernel
theorem dX6_comesAt_139 : decode cX6_comesAt 139 = .ok (.iconst 0, 1) := by decide +kernel
theorem dX6_comesAt_140 : decode cX6_comesAt 140 = .ok (.goto 4, 3) := by decide +kernel
theorem dX6_comesAt_143 : decode cX6_comesAt 143 = .ok (.iconst 1, 1) := by decide +kernel
theorem dX6_comesAt_144 : decode cX6_comesAt 144 = .ok (.iload 6, 2) := by decide +kernel
theorem dX6_comesAt_146 : decode cX6_comesAt 146 = .ok (.invokevirtual 78, 3) := by decide +kernel
theorem dX6_comesAt_149 : decode cX6_comesAt 149 = .ok (.iinc 3 1, 3) := by decide +kernel
theorem dX6_comesAt_152 : decode cX6_comesAt 152 = .ok (.goto (-91), 3) := by decide +kernel
theorem dX6_comesAt_155 : decode cX6_comesAt 155 = .ok (.aload_n 0, 1) := by decide +kernel
theorem dX6_comesAt_156 : decode cX6_comesAt 156 = .ok (.getfield 55, 3) := by decide +kernel
theorem dX6_comesAt_159 : decode cX6_comesAt 159 = .ok (.ireturn, 1) := by decide +kernel
theorem dX6_isSpeaking_0 : decode cX6_isSpeaking 0 = .ok (.aload_n 0, 1) := by decide +kernel
theorem dX6_isSpeaking_1 : decode cX6_isSpeaking 1 = .ok (.getfield 29, 3) := by decide +kernel
theorem dX6_isSpeaking_4 : decode cX6_isSpeaking 4 = .ok (.iload_n 1, 1) := by decide +kernel
theorem dX6_isSpeaking_5 : decode cX6_isSpeaking 5 = .ok (.iaload, 1) := by decide +kernel
theorem dX6_isSpeaking_6 : decode cX6_isSpeaking 6 = .ok (.ifCond .le 26, 3) := by decide +kernel
theorem dX6_isSpeaking_9 : decode cX6_isSpeaking 9 = .ok (.aload_n 0, 1) := by decide +kernel
theorem dX6_isSpeaking_10 : decode cX6_isSpeaking 10 = .ok (.getfield 23, 3) := by decide +kernel
theorem dX6_isSpeaking_13 : decode cX6_isSpeaking 13 = .ok (.iload_n 1, 1) := by decide +kernel
theorem dX6_isSpeaking_14 : decode cX6_isSpeaking 14 = .ok (.aaload, 1) := by decide +kernel
theorem dX6_isSpeaking_15 : decode cX6_isSpeaking 15 = .ok (.aload_n 0, 1) := by decide +kernel
theorem dX6_isSpeaking_16 : decode cX6_isSpeaking 16 = .ok (.getfield 29, 3) := by decide +kernel
theorem dX6_isSpeaking_19 : decode cX6_isSpeaking 19 = .ok (.iload_n 1, 1) := by decide +kernel
theorem dX6_isSpeaking_20 : decode cX6_isSpeaking 20 = .ok (.iaload, 1) := by decide +kernel
theorem dX6_isSpeaking_21 : decode cX6_isSpeaking 21 = .ok (.iconst 1, 1) := by decide +kernel
theorem dX6_isSpeaking_22 : decode cX6_isSpeaking 22 = .ok (.isub, 1) := by decide +kernel
theorem dX6_isSpeaking_23 : decode cX6_isSpeaking 23 = .ok (.iaload, 1) := by decide +kernel
theorem dX6_isSpeaking_24 : decode cX6_isSpeaking 24 = .ok (.iconst (-1), 1) := by decide +kernel
theorem dX6_isSpeaking_25 : decode cX6_isSpeaking 25 = .ok (.if_icmp .ne 7, 3) := by decide +kernel
theorem dX6_isSpeaking_28 : decode cX6_isSpeaking 28 = .ok (.iconst 1, 1) := by decide +kernel
theorem dX6_isSpeaking_29 : decode cX6_isSpeaking 29 = .ok (.goto 4, 3) := by decide +kernel
theorem dX6_isSpeaking_32 : decode cX6_isSpeaking 32 = .ok (.iconst 0, 1) := by decide +kernel
theorem dX6_isSpeaking_33 : decode cX6_isSpeaking 33 = .ok (.ireturn, 1) := by decide +kernel
theorem dX6_begin_0 : decode cX6_begin 0 = .ok (.aload_n 0, 1) := by decide +kernel
theorem dX6_begin_1 : decode cX6_begin 1 = .ok (.getfield 29, 3) := by decide +kernel
theorem dX6_begin_4 : decode cX6_begin 4 = .ok (.iload_n 1, 1) := by decide +kernel
theorem dX6_begin_5 : decode cX6_begin 5 = .ok (.iaload, 1) := by decide +kernel
theorem dX6_begin_6 : decode cX6_begin 6 = .ok (.sipush 1000, 3) := by decide +kernel
theorem dX6_begin_9 : decode cX6_begin 9 = .ok (.if_icmp .gt 55, 3) := by decide +kernel
theorem dX6_begin_12 : decode cX6_begin 12 = .ok (.aload_n 0, 1) := by decide +kernel
theorem dX6_begin_13 : decode cX6_begin 13 = .ok (.getfield 20, 3) := by decide +kernel
theorem dX6_begin_16 : decode cX6_begin 16 = .ok (.iload_n 1, 1) := by decide +kernel
theorem dX6_begin_17 : decode cX6_begin 17 = .ok (.aaload, 1) := by decide +kernel
theorem dX6_begin_18 : decode cX6_begin 18 = .ok (.aload_n 0, 1) := by decide +kernel
theorem dX6_begin_19 : decode cX6_begin 19 = .ok (.getfield 29, 3) := by decide +kernel
theorem dX6_begin_22 : decode cX6_begin 22 = .ok (.iload_n 1, 1) := by decide +kernel
theorem dX6_begin_23 : decode cX6_begin 23 = .ok (.iaload, 1) := by decide +kernel
theorem dX6_begin_24 : decode cX6_begin 24 = .ok (.iload_n 2, 1) := by decide +kernel
theorem dX6_begin_25 : decode cX6_begin 25 = .ok (.iastore, 1) := by decide +kernel
theorem dX6_begin_26 : decode cX6_begin 26 = .ok (.aload_n 0, 1) := by decide +kernel
theorem dX6_begin_27 : decode cX6_begin 27 = .ok (.getfield 23, 3) := by decide +kernel
theorem dX6_begin_30 : decode cX6_begin 30 = .ok (.iload_n 1, 1) := by decide +kernel
theorem dX6_begin_31 : decode cX6_begin 31 = .ok (.aaload, 1) := by decide +kernel
theorem dX6_begin_32 : decode cX6_begin 32 = .ok (.aload_n 0, 1) := by decide +kernel
theorem dX6_begin_33 : decode cX6_begin 33 = .ok (.getfield 29, 3) := by decide +kernel
theorem dX6_begin_36 : decode cX6_begin 36 = .ok (.iload_n 1, 1) := by decide +kernel
theorem dX6_begin_37 : decode cX6_begin 37 = .ok (.iaload, 1) := by decide +kernel
theorem dX6_begin_38 : decode cX6_begin 38 = .ok (.iconst (-1), 1) := by decide +kernel
theorem dX6_begin_39 : decode cX6_begin 39 = .ok (.iastore, 1) := by decide +kernel
theorem dX6_begin_40 : decode cX6_begin 40 = .ok (.aload_n 0, 1) := by decide +kernel
theorem dX6_begin_41 : decode cX6_begin 41 = .ok (.getfield 26, 3) := by decide +kernel
theorem dX6_begin_44 : decode cX6_begin 44 = .ok (.iload_n 1, 1) := by decide +kernel
theorem dX6_begin_45 : decode cX6_begin 45 = .ok (.aaload, 1) := by decide +kernel
theorem dX6_begin_46 : decode cX6_begin 46 = .ok (.aload_n 0, 1) := by decide +kernel
theorem dX6_begin_47 : decode cX6_begin 47 = .ok (.getfield 29, 3) := by decide +kernel
theorem dX6_begin_50 : decode cX6_begin 50 = .ok (.iload_n 1, 1) := by decide +kernel
theorem dX6_begin_51 : decode cX6_begin 51 = .ok (.iaload, 1) := by decide +kernel
theorem dX6_begin_52 : decode cX6_begin 52 = .ok (.iconst 0, 1) := by decide +kernel
theorem dX6_begin_53 : decode cX6_begin 53 = .ok (.iastore, 1) := by decide +kernel
theorem dX6_begin_54 : decode cX6_begin 54 = .ok (.aload_n 0, 1) := by decide +kernel
theorem dX6_begin_55 : decode cX6_begin 55 = .ok (.getfield 29, 3) := by decide +kernel
theorem dX6_begin_58 : decode cX6_begin 58 = .ok (.iload_n 1, 1) := by decide +kernel
theorem dX6_begin_59 : decode cX6_begin 59 = .ok (.dup2, 1) := by decide +kernel
theorem dX6_begin_60 : decode cX6_begin 60 = .ok (.iaload, 1) := by decide +kernel
theorem dX6_begin_61 : decode cX6_begin 61 = .ok (.iconst 1, 1) := by decide +kernel
theorem dX6_begin_62 : decode cX6_begin 62 = .ok (.iadd, 1) := by decide +kernel
theorem dX6_begin_63 : decode cX6_begin 63 = .ok (.iastore, 1) := by decide +kernel
theorem dX6_begin_64 : decode cX6_begin 64 = .ok (.return_, 1) := by decide +kernel
theorem dX6_change_0 : decode cX6_change 0 = .ok (.aload_n 0, 1) := by decide +kernel
theorem dX6_change_1 : decode cX6_change 1 = .ok (.iload_n 1, 1) := by decide +kernel
theorem dX6_change_2 : decode cX6_change 2 = .ok (.invokevirtual 81, 3) := by decide +kernel
theorem dX6_change_5 : decode cX6_change 5 = .ok (.ifCond .ne 10, 3) := by decide +kernel
theorem dX6_change_8 : decode cX6_change 8 = .ok (.aload_n 0, 1) := by decide +kernel
theorem dX6_change_9 : decode cX6_change 9 = .ok (.iload_n 1, 1) := by decide +kernel
theorem dX6_change_10 : decode cX6_change 10 = .ok (.iload_n 2, 1) := by decide +kernel
