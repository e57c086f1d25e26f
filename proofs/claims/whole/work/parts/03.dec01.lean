theorem dX6_change_11 : decode cX6_change 11 = .ok (.invokevirtual 58, 3) := by decide +kernel
theorem dX6_change_14 : decode cX6_change 14 = .ok (.return_, 1) := by decide +kernel
theorem dX6_change_15 : decode cX6_change 15 = .ok (.aload_n 0, 1) := by decide +kernel
theorem dX6_change_16 : decode cX6_change 16 = .ok (.getfield 29, 3) := by decide +kernel
theorem dX6_change_19 : decode cX6_change 19 = .ok (.iload_n 1, 1) := by decide +kernel
theorem dX6_change_20 : decode cX6_change 20 = .ok (.iaload, 1) := by decide +kernel
theorem dX6_change_21 : decode cX6_change 21 = .ok (.iconst 1, 1) := by decide +kernel
theorem dX6_change_22 : decode cX6_change 22 = .ok (.isub, 1) := by decide +kernel
theorem dX6_change_23 : decode cX6_change 23 = .ok (.istore_n 3, 1) := by decide +kernel
theorem dX6_change_24 : decode cX6_change 24 = .ok (.aload_n 0, 1) := by decide +kernel
theorem dX6_change_25 : decode cX6_change 25 = .ok (.getfield 26, 3) := by decide +kernel
theorem dX6_change_28 : decode cX6_change 28 = .ok (.iload_n 1, 1) := by decide +kernel
theorem dX6_change_29 : decode cX6_change 29 = .ok (.aaload, 1) := by decide +kernel
theorem dX6_change_30 : decode cX6_change 30 = .ok (.iload_n 3, 1) := by decide +kernel
theorem dX6_change_31 : decode cX6_change 31 = .ok (.aload_n 0, 1) := by decide +kernel
theorem dX6_change_32 : decode cX6_change 32 = .ok (.iload_n 1, 1) := by decide +kernel
theorem dX6_change_33 : decode cX6_change 33 = .ok (.invokevirtual 85, 3) := by decide +kernel
theorem dX6_change_36 : decode cX6_change 36 = .ok (.iload_n 2, 1) := by decide +kernel
theorem dX6_change_37 : decode cX6_change 37 = .ok (.if_icmp .ne 7, 3) := by decide +kernel
theorem dX6_change_40 : decode cX6_change 40 = .ok (.iconst 2, 1) := by decide +kernel
theorem dX6_change_41 : decode cX6_change 41 = .ok (.goto 4, 3) := by decide +kernel
theorem dX6_change_44 : decode cX6_change 44 = .ok (.iconst 1, 1) := by decide +kernel
theorem dX6_change_45 : decode cX6_change 45 = .ok (.iastore, 1) := by decide +kernel
theorem dX6_change_46 : decode cX6_change 46 = .ok (.aload_n 0, 1) := by decide +kernel
theorem dX6_change_47 : decode cX6_change 47 = .ok (.getfield 23, 3) := by decide +kernel
theorem dX6_change_50 : decode cX6_change 50 = .ok (.iload_n 1, 1) := by decide +kernel
theorem dX6_change_51 : decode cX6_change 51 = .ok (.aaload, 1) := by decide +kernel
theorem dX6_change_52 : decode cX6_change 52 = .ok (.iload_n 3, 1) := by decide +kernel
theorem dX6_change_53 : decode cX6_change 53 = .ok (.iload_n 2, 1) := by decide +kernel
theorem dX6_change_54 : decode cX6_change 54 = .ok (.iastore, 1) := by decide +kernel
theorem dX6_change_55 : decode cX6_change 55 = .ok (.return_, 1) := by decide +kernel
theorem dX6_nextChange_0 : decode cX6_nextChange 0 = .ok (.aload_n 0, 1) := by decide +kernel
theorem dX6_nextChange_1 : decode cX6_nextChange 1 = .ok (.getfield 29, 3) := by decide +kernel
theorem dX6_nextChange_4 : decode cX6_nextChange 4 = .ok (.iload_n 1, 1) := by decide +kernel
theorem dX6_nextChange_5 : decode cX6_nextChange 5 = .ok (.iaload, 1) := by decide +kernel
theorem dX6_nextChange_6 : decode cX6_nextChange 6 = .ok (.iconst 1, 1) := by decide +kernel
theorem dX6_nextChange_7 : decode cX6_nextChange 7 = .ok (.isub, 1) := by decide +kernel
theorem dX6_nextChange_8 : decode cX6_nextChange 8 = .ok (.istore_n 2, 1) := by decide +kernel
theorem dX6_nextChange_9 : decode cX6_nextChange 9 = .ok (.aload_n 0, 1) := by decide +kernel
theorem dX6_nextChange_10 : decode cX6_nextChange 10 = .ok (.iload_n 1, 1) := by decide +kernel
theorem dX6_nextChange_11 : decode cX6_nextChange 11 = .ok (.invokevirtual 81, 3) := by decide +kernel
theorem dX6_nextChange_14 : decode cX6_nextChange 14 = .ok (.ifCond .eq 14, 3) := by decide +kernel
theorem dX6_nextChange_17 : decode cX6_nextChange 17 = .ok (.aload_n 0, 1) := by decide +kernel
theorem dX6_nextChange_18 : decode cX6_nextChange 18 = .ok (.getfield 20, 3) := by decide +kernel
theorem dX6_nextChange_21 : decode cX6_nextChange 21 = .ok (.iload_n 1, 1) := by decide +kernel
theorem dX6_nextChange_22 : decode cX6_nextChange 22 = .ok (.aaload, 1) := by decide +kernel
theorem dX6_nextChange_23 : decode cX6_nextChange 23 = .ok (.iload_n 2, 1) := by decide +kernel
theorem dX6_nextChange_24 : decode cX6_nextChange 24 = .ok (.iaload, 1) := by decide +kernel
theorem dX6_nextChange_25 : decode cX6_nextChange 25 = .ok (.goto 11, 3) := by decide +kernel
theorem dX6_nextChange_28 : decode cX6_nextChange 28 = .ok (.aload_n 0, 1) := by decide +kernel
theorem dX6_nextChange_29 : decode cX6_nextChange 29 = .ok (.getfield 23, 3) := by decide +kernel
theorem dX6_nextChange_32 : decode cX6_nextChange 32 = .ok (.iload_n 1, 1) := by decide +kernel
theorem dX6_nextChange_33 : decode cX6_nextChange 33 = .ok (.aaload, 1) := by decide +kernel
theorem dX6_nextChange_34 : decode cX6_nextChange 34 = .ok (.iload_n 2, 1) := by decide +kernel
theorem dX6_nextChange_35 : decode cX6_nextChange 35 = .ok (.iaload, 1) := by decide +kernel
theorem dX6_nextChange_36 : decode cX6_nextChange 36 = .ok (.istore_n 3, 1) := by decide +kernel
theorem dX6_nextChange_37 : decode cX6_nextChange 37 = .ok (.aload_n 0, 1) := by decide +kernel
theorem dX6_nextChange_38 : decode cX6_nextChange 38 = .ok (.iload_n 1, 1) := by decide +kernel
theorem dX6_nextChange_39 : decode cX6_nextChange 39 = .ok (.iload_n 3, 1) := by decide +kernel
theorem dX6_nextChange_40 : decode cX6_nextChange 40 = .ok (.invokevirtual 88, 3) := by decide +kernel
theorem dX6_nextChange_43 : decode cX6_nextChange 43 = .ok (.aload_n 0, 1) := by decide +kernel
theorem dX6_nextChange_44 : decode cX6_nextChange 44 = .ok (.iload_n 1, 1) := by decide +kernel
theorem dX6_nextChange_45 : decode cX6_nextChange 45 = .ok (.invokevirtual 81, 3) := by decide +kernel
theorem dX6_nextChange_48 : decode cX6_nextChange 48 = .ok (.ifCond .eq 18, 3) := by decide +kernel
theorem dX6_nextChange_51 : decode cX6_nextChange 51 = .ok (.iload_n 3, 1) := by decide +kernel
theorem dX6_nextChange_52 : decode cX6_nextChange 52 = .ok (.aload_n 0, 1) := by decide +kernel
theorem dX6_nextChange_53 : decode cX6_nextChange 53 = .ok (.getfield 45, 3) := by decide +kernel
theorem dX6_nextChange_56 : decode cX6_nextChange 56 = .ok (.iadd, 1) := by decide +kernel
theorem dX6_nextChange_57 : decode cX6_nextChange 57 = .ok (.aload_n 0, 1) := by decide +kernel
theorem dX6_nextChange_58 : decode cX6_nextChange 58 = .ok (.iload_n 1, 1) := by decide +kernel
theorem dX6_nextChange_59 : decode cX6_nextChange 59 = .ok (.invokevirtual 85, 3) := by decide +kernel
theorem dX6_nextChange_62 : decode cX6_nextChange 62 = .ok (.invokestatic 70, 3) := by decide +kernel
theorem dX6_nextChange_65 : decode cX6_nextChange 65 = .ok (.ireturn, 1) := by decide +kernel
theorem dX6_nextChange_66 : decode cX6_nextChange 66 = .ok (.aload_n 0, 1) := by decide +kernel
theorem dX6_nextChange_67 : decode cX6_nextChange 67 = .ok (.iload_n 1, 1) := by decide +kernel
theorem dX6_nextChange_68 : decode cX6_nextChange 68 = .ok (.iload_n 3, 1) := by decide +kernel
theorem dX6_nextChange_69 : decode cX6_nextChange 69 = .ok (.invokevirtual 91, 3) := by decide +kernel
theorem dX6_nextChange_72 : decode cX6_nextChange 72 = .ok (.ireturn, 1) := by decide +kernel
theorem dX6_passBy_0 : decode cX6_passBy 0 = .ok (.iconst 1, 1) := by decide +kernel
theorem dX6_passBy_1 : decode cX6_passBy 1 = .ok (.iload_n 1, 1) := by decide +kernel
theorem dX6_passBy_2 : decode cX6_passBy 2 = .ok (.isub, 1) := by decide +kernel
theorem dX6_passBy_3 : decode cX6_passBy 3 = .ok (.istore_n 3, 1) := by decide +kernel
theorem dX6_passBy_4 : decode cX6_passBy 4 = .ok (.aload_n 0, 1) := by decide +kernel
theorem dX6_passBy_5 : decode cX6_passBy 5 = .ok (.getfield 32, 3) := by decide +kernel
theorem dX6_passBy_8 : decode cX6_passBy 8 = .ok (.iload_n 1, 1) := by decide +kernel
theorem dX6_passBy_9 : decode cX6_passBy 9 = .ok (.iaload, 1) := by decide +kernel
theorem dX6_passBy_10 : decode cX6_passBy 10 = .ok (.aload_n 0, 1) := by decide +kernel
theorem dX6_passBy_11 : decode cX6_passBy 11 = .ok (.getfield 29, 3) := by decide +kernel
theorem dX6_passBy_14 : decode cX6_passBy 14 = .ok (.iload_n 3, 1) := by decide +kernel
theorem dX6_passBy_15 : decode cX6_passBy 15 = .ok (.iaload, 1) := by decide +kernel
theorem dX6_passBy_16 : decode cX6_passBy 16 = .ok (.if_icmp .ge 57, 3) := by decide +kernel
theorem dX6_passBy_19 : decode cX6_passBy 19 = .ok (.aload_n 0, 1) := by decide +kernel
theorem dX6_passBy_20 : decode cX6_passBy 20 = .ok (.getfield 23, 3) := by decide +kernel
theorem dX6_passBy_23 : decode cX6_passBy 23 = .ok (.iload_n 3, 1) := by decide +kernel
theorem dX6_passBy_24 : decode cX6_passBy 24 = .ok (.aaload, 1) := by decide +kernel
theorem dX6_passBy_25 : decode cX6_passBy 25 = .ok (.aload_n 0, 1) := by decide +kernel
theorem dX6_passBy_26 : decode cX6_passBy 26 = .ok (.getfield 32, 3) := by decide +kernel
theorem dX6_passBy_29 : decode cX6_passBy 29 = .ok (.iload_n 1, 1) := by decide +kernel
theorem dX6_passBy_30 : decode cX6_passBy 30 = .ok (.iaload, 1) := by decide +kernel
theorem dX6_passBy_31 : decode cX6_passBy 31 = .ok (.iaload, 1) := by decide +kernel
theorem dX6_passBy_32 : decode cX6_passBy 32 = .ok (.iconst (-1), 1) := by decide +kernel
theorem dX6_passBy_33 : decode cX6_passBy 33 = .ok (.if_icmp .eq 40, 3) := by decide +kernel
theorem dX6_passBy_36 : decode cX6_passBy 36 = .ok (.aload_n 0, 1) := by decide +kernel
theorem dX6_passBy_37 : decode cX6_passBy 37 = .ok (.getfield 23, 3) := by decide +kernel
theorem dX6_passBy_40 : decode cX6_passBy 40 = .ok (.iload_n 3, 1) := by decide +kernel
theorem dX6_passBy_41 : decode cX6_passBy 41 = .ok (.aaload, 1) := by decide +kernel
theorem dX6_passBy_42 : decode cX6_passBy 42 = .ok (.aload_n 0, 1) := by decide +kernel
theorem dX6_passBy_43 : decode cX6_passBy 43 = .ok (.getfield 32, 3) := by decide +kernel
theorem dX6_passBy_46 : decode cX6_passBy 46 = .ok (.iload_n 1, 1) := by decide +kernel
theorem dX6_passBy_47 : decode cX6_passBy 47 = .ok (.iaload, 1) := by decide +kernel
theorem dX6_passBy_48 : decode cX6_passBy 48 = .ok (.iaload, 1) := by decide +kernel
theorem dX6_passBy_49 : decode cX6_passBy 49 = .ok (.aload_n 0, 1) := by decide +kernel
theorem dX6_passBy_50 : decode cX6_passBy 50 = .ok (.getfield 15, 3) := by decide +kernel
theorem dX6_passBy_53 : decode cX6_passBy 53 = .ok (.iload_n 3, 1) := by decide +kernel
theorem dX6_passBy_54 : decode cX6_passBy 54 = .ok (.iaload, 1) := by decide +kernel
theorem dX6_passBy_55 : decode cX6_passBy 55 = .ok (.iadd, 1) := by decide +kernel
theorem dX6_passBy_56 : decode cX6_passBy 56 = .ok (.iload_n 2, 1) := by decide +kernel
theorem dX6_passBy_57 : decode cX6_passBy 57 = .ok (.if_icmp .gt 16, 3) := by decide +kernel
theorem dX6_passBy_60 : decode cX6_passBy 60 = .ok (.aload_n 0, 1) := by decide +kernel
theorem dX6_passBy_61 : decode cX6_passBy 61 = .ok (.getfield 32, 3) := by decide +kernel
theorem dX6_passBy_64 : decode cX6_passBy 64 = .ok (.iload_n 1, 1) := by decide +kernel
theorem dX6_passBy_65 : decode cX6_passBy 65 = .ok (.dup2, 1) := by decide +kernel
theorem dX6_passBy_66 : decode cX6_passBy 66 = .ok (.iaload, 1) := by decide +kernel
theorem dX6_passBy_67 : decode cX6_passBy 67 = .ok (.iconst 1, 1) := by decide +kernel
theorem dX6_passBy_68 : decode cX6_passBy 68 = .ok (.iadd, 1) := by decide +kernel
theorem dX6_passBy_69 : decode cX6_passBy 69 = .ok (.iastore, 1) := by decide +kernel
theorem dX6_passBy_70 : decode cX6_passBy 70 = .ok (.goto (-66), 3) := by decide +kernel
theorem dX6_passBy_73 : decode cX6_passBy 73 = .ok (.return_, 1) := by decide +kernel
theorem dX6_yieldsIn_0 : decode cX6_yieldsIn 0 = .ok (.iconst 1, 1) := by decide +kernel
theorem dX6_yieldsIn_1 : decode cX6_yieldsIn 1 = .ok (.iload_n 1, 1) := by decide +kernel
theorem dX6_yieldsIn_2 : decode cX6_yieldsIn 2 = .ok (.isub, 1) := by decide +kernel
theorem dX6_yieldsIn_3 : decode cX6_yieldsIn 3 = .ok (.istore_n 2, 1) := by decide +kernel
theorem dX6_yieldsIn_4 : decode cX6_yieldsIn 4 = .ok (.aload_n 0, 1) := by decide +kernel
theorem dX6_yieldsIn_5 : decode cX6_yieldsIn 5 = .ok (.getfield 48, 3) := by decide +kernel
theorem dX6_yieldsIn_8 : decode cX6_yieldsIn 8 = .ok (.ifCond .eq 18, 3) := by decide +kernel
theorem dX6_yieldsIn_11 : decode cX6_yieldsIn 11 = .ok (.aload_n 0, 1) := by decide +kernel
theorem dX6_yieldsIn_12 : decode cX6_yieldsIn 12 = .ok (.getfield 32, 3) := by decide +kernel
theorem dX6_yieldsIn_15 : decode cX6_yieldsIn 15 = .ok (.iload_n 1, 1) := by decide +kernel
theorem dX6_yieldsIn_16 : decode cX6_yieldsIn 16 = .ok (.iaload, 1) := by decide +kernel
theorem dX6_yieldsIn_17 : decode cX6_yieldsIn 17 = .ok (.aload_n 0, 1) := by decide +kernel
theorem dX6_yieldsIn_18 : decode cX6_yieldsIn 18 = .ok (.getfield 29, 3) := by decide +kernel
theorem dX6_yieldsIn_21 : decode cX6_yieldsIn 21 = .ok (.iload_n 2, 1) := by decide +kernel
theorem dX6_yieldsIn_22 : decode cX6_yieldsIn 22 = .ok (.iaload, 1) := by decide +kernel
theorem dX6_yieldsIn_23 : decode cX6_yieldsIn 23 = .ok (.if_icmp .lt 7, 3) := by decide +kernel
theorem dX6_yieldsIn_26 : decode cX6_yieldsIn 26 = .ok (.sipush 1000, 3) := by decide +kernel
theorem dX6_yieldsIn_29 : decode cX6_yieldsIn 29 = .ok (.ireturn, 1) := by decide +kernel
theorem dX6_yieldsIn_30 : decode cX6_yieldsIn 30 = .ok (.aload_n 0, 1) := by decide +kernel
theorem dX6_yieldsIn_31 : decode cX6_yieldsIn 31 = .ok (.getfield 20, 3) := by decide +kernel
theorem dX6_yieldsIn_34 : decode cX6_yieldsIn 34 = .ok (.iload_n 2, 1) := by decide +kernel
theorem dX6_yieldsIn_35 : decode cX6_yieldsIn 35 = .ok (.aaload, 1) := by decide +kernel
theorem dX6_yieldsIn_36 : decode cX6_yieldsIn 36 = .ok (.aload_n 0, 1) := by decide +kernel
theorem dX6_yieldsIn_37 : decode cX6_yieldsIn 37 = .ok (.getfield 32, 3) := by decide +kernel
theorem dX6_yieldsIn_40 : decode cX6_yieldsIn 40 = .ok (.iload_n 1, 1) := by decide +kernel
theorem dX6_yieldsIn_41 : decode cX6_yieldsIn 41 = .ok (.iaload, 1) := by decide +kernel
theorem dX6_yieldsIn_42 : decode cX6_yieldsIn 42 = .ok (.iaload, 1) := by decide +kernel
theorem dX6_yieldsIn_43 : decode cX6_yieldsIn 43 = .ok (.aload_n 0, 1) := by decide +kernel
theorem dX6_yieldsIn_44 : decode cX6_yieldsIn 44 = .ok (.getfield 15, 3) := by decide +kernel
theorem dX6_yieldsIn_47 : decode cX6_yieldsIn 47 = .ok (.iload_n 2, 1) := by decide +kernel
theorem dX6_yieldsIn_48 : decode cX6_yieldsIn 48 = .ok (.iaload, 1) := by decide +kernel
theorem dX6_yieldsIn_49 : decode cX6_yieldsIn 49 = .ok (.iadd, 1) := by decide +kernel
theorem dX6_yieldsIn_50 : decode cX6_yieldsIn 50 = .ok (.aload_n 0, 1) := by decide +kernel
theorem dX6_yieldsIn_51 : decode cX6_yieldsIn 51 = .ok (.getfield 48, 3) := by decide +kernel
theorem dX6_yieldsIn_54 : decode cX6_yieldsIn 54 = .ok (.iadd, 1) := by decide +kernel
theorem dX6_yieldsIn_55 : decode cX6_yieldsIn 55 = .ok (.iconst 1, 1) := by decide +kernel
theorem dX6_yieldsIn_56 : decode cX6_yieldsIn 56 = .ok (.isub, 1) := by decide +kernel
theorem dX6_yieldsIn_57 : decode cX6_yieldsIn 57 = .ok (.ireturn, 1) := by decide +kernel
theorem dX6_beginsIn_0 : decode cX6_beginsIn 0 = .ok (.iconst 1, 1) := by decide +kernel
theorem dX6_beginsIn_1 : decode cX6_beginsIn 1 = .ok (.iload_n 1, 1) := by decide +kernel
theorem dX6_beginsIn_2 : decode cX6_beginsIn 2 = .ok (.isub, 1) := by decide +kernel
theorem dX6_beginsIn_3 : decode cX6_beginsIn 3 = .ok (.istore_n 3, 1) := by decide +kernel
theorem dX6_beginsIn_4 : decode cX6_beginsIn 4 = .ok (.iload_n 2, 1) := by decide +kernel
theorem dX6_beginsIn_5 : decode cX6_beginsIn 5 = .ok (.istore 4, 2) := by decide +kernel
theorem dX6_beginsIn_7 : decode cX6_beginsIn 7 = .ok (.aload_n 0, 1) := by decide +kernel
theorem dX6_beginsIn_8 : decode cX6_beginsIn 8 = .ok (.getfield 32, 3) := by decide +kernel
theorem dX6_beginsIn_11 : decode cX6_beginsIn 11 = .ok (.iload_n 1, 1) := by decide +kernel
theorem dX6_beginsIn_12 : decode cX6_beginsIn 12 = .ok (.iaload, 1) := by decide +kernel
theorem dX6_beginsIn_13 : decode cX6_beginsIn 13 = .ok (.istore 5, 2) := by decide +kernel
theorem dX6_beginsIn_15 : decode cX6_beginsIn 15 = .ok (.iload 5, 2) := by decide +kernel
theorem dX6_beginsIn_17 : decode cX6_beginsIn 17 = .ok (.aload_n 0, 1) := by decide +kernel
theorem dX6_beginsIn_18 : decode cX6_beginsIn 18 = .ok (.getfield 29, 3) := by decide +kernel
theorem dX6_beginsIn_21 : decode cX6_beginsIn 21 = .ok (.iload_n 3, 1) := by decide +kernel
theorem dX6_beginsIn_22 : decode cX6_beginsIn 22 = .ok (.iaload, 1) := by decide +kernel
theorem dX6_beginsIn_23 : decode cX6_beginsIn 23 = .ok (.if_icmp .ge 87, 3) := by decide +kernel
theorem dX6_beginsIn_26 : decode cX6_beginsIn 26 = .ok (.iload 4, 2) := by decide +kernel
theorem dX6_beginsIn_28 : decode cX6_beginsIn 28 = .ok (.aload_n 0, 1) := by decide +kernel
theorem dX6_beginsIn_29 : decode cX6_beginsIn 29 = .ok (.getfield 9, 3) := by decide +kernel
theorem dX6_beginsIn_32 : decode cX6_beginsIn 32 = .ok (.iload_n 1, 1) := by decide +kernel
theorem dX6_beginsIn_33 : decode cX6_beginsIn 33 = .ok (.iaload, 1) := by decide +kernel
theorem dX6_beginsIn_34 : decode cX6_beginsIn 34 = .ok (.iadd, 1) := by decide +kernel
theorem dX6_beginsIn_35 : decode cX6_beginsIn 35 = .ok (.aload_n 0, 1) := by decide +kernel
theorem dX6_beginsIn_36 : decode cX6_beginsIn 36 = .ok (.getfield 20, 3) := by decide +kernel
theorem dX6_beginsIn_39 : decode cX6_beginsIn 39 = .ok (.iload_n 3, 1) := by decide +kernel
theorem dX6_beginsIn_40 : decode cX6_beginsIn 40 = .ok (.aaload, 1) := by decide +kernel
theorem dX6_beginsIn_41 : decode cX6_beginsIn 41 = .ok (.iload 5, 2) := by decide +kernel
theorem dX6_beginsIn_43 : decode cX6_beginsIn 43 = .ok (.iaload, 1) := by decide +kernel
theorem dX6_beginsIn_44 : decode cX6_beginsIn 44 = .ok (.aload_n 0, 1) := by decide +kernel
theorem dX6_beginsIn_45 : decode cX6_beginsIn 45 = .ok (.getfield 15, 3) := by decide +kernel
theorem dX6_beginsIn_48 : decode cX6_beginsIn 48 = .ok (.iload_n 3, 1) := by decide +kernel
theorem dX6_beginsIn_49 : decode cX6_beginsIn 49 = .ok (.iaload, 1) := by decide +kernel
theorem dX6_beginsIn_50 : decode cX6_beginsIn 50 = .ok (.iadd, 1) := by decide +kernel
theorem dX6_beginsIn_51 : decode cX6_beginsIn 51 = .ok (.if_icmp .ge 13, 3) := by decide +kernel
theorem dX6_beginsIn_54 : decode cX6_beginsIn 54 = .ok (.iload 4, 2) := by decide +kernel
theorem dX6_beginsIn_56 : decode cX6_beginsIn 56 = .ok (.aload_n 0, 1) := by decide +kernel
theorem dX6_beginsIn_57 : decode cX6_beginsIn 57 = .ok (.getfield 9, 3) := by decide +kernel
theorem dX6_beginsIn_60 : decode cX6_beginsIn 60 = .ok (.iload_n 1, 1) := by decide +kernel
theorem dX6_beginsIn_61 : decode cX6_beginsIn 61 = .ok (.iaload, 1) := by decide +kernel
theorem dX6_beginsIn_62 : decode cX6_beginsIn 62 = .ok (.iadd, 1) := by decide +kernel
theorem dX6_beginsIn_63 : decode cX6_beginsIn 63 = .ok (.ireturn, 1) := by decide +kernel
theorem dX6_beginsIn_64 : decode cX6_beginsIn 64 = .ok (.aload_n 0, 1) := by decide +kernel
theorem dX6_beginsIn_65 : decode cX6_beginsIn 65 = .ok (.getfield 23, 3) := by decide +kernel
theorem dX6_beginsIn_68 : decode cX6_beginsIn 68 = .ok (.iload_n 3, 1) := by decide +kernel
theorem dX6_beginsIn_69 : decode cX6_beginsIn 69 = .ok (.aaload, 1) := by decide +kernel
theorem dX6_beginsIn_70 : decode cX6_beginsIn 70 = .ok (.iload 5, 2) := by decide +kernel
theorem dX6_beginsIn_72 : decode cX6_beginsIn 72 = .ok (.iaload, 1) := by decide +kernel
theorem dX6_beginsIn_73 : decode cX6_beginsIn 73 = .ok (.iconst (-1), 1) := by decide +kernel
theorem dX6_beginsIn_74 : decode cX6_beginsIn 74 = .ok (.if_icmp .ne 7, 3) := by decide +kernel
theorem dX6_beginsIn_77 : decode cX6_beginsIn 77 = .ok (.sipush 1000, 3) := by decide +kernel
theorem dX6_beginsIn_80 : decode cX6_beginsIn 80 = .ok (.ireturn, 1) := by decide +kernel
theorem dX6_beginsIn_81 : decode cX6_beginsIn 81 = .ok (.iload 4, 2) := by decide +kernel
theorem dX6_beginsIn_83 : decode cX6_beginsIn 83 = .ok (.aload_n 0, 1) := by decide +kernel
theorem dX6_beginsIn_84 : decode cX6_beginsIn 84 = .ok (.getfield 23, 3) := by decide +kernel
theorem dX6_beginsIn_87 : decode cX6_beginsIn 87 = .ok (.iload_n 3, 1) := by decide +kernel
theorem dX6_beginsIn_88 : decode cX6_beginsIn 88 = .ok (.aaload, 1) := by decide +kernel
theorem dX6_beginsIn_89 : decode cX6_beginsIn 89 = .ok (.iload 5, 2) := by decide +kernel
theorem dX6_beginsIn_91 : decode cX6_beginsIn 91 = .ok (.iaload, 1) := by decide +kernel
theorem dX6_beginsIn_92 : decode cX6_beginsIn 92 = .ok (.aload_n 0, 1) := by decide +kernel
theorem dX6_beginsIn_93 : decode cX6_beginsIn 93 = .ok (.getfield 15, 3) := by decide +kernel
theorem dX6_beginsIn_96 : decode cX6_beginsIn 96 = .ok (.iload_n 3, 1) := by decide +kernel
theorem dX6_beginsIn_97 : decode cX6_beginsIn 97 = .ok (.iaload, 1) := by decide +kernel
theorem dX6_beginsIn_98 : decode cX6_beginsIn 98 = .ok (.iadd, 1) := by decide +kernel
theorem dX6_beginsIn_99 : decode cX6_beginsIn 99 = .ok (.invokestatic 94, 3) := by decide +kernel
theorem dX6_beginsIn_102 : decode cX6_beginsIn 102 = .ok (.istore 4, 2) := by decide +kernel
theorem dX6_beginsIn_104 : decode cX6_beginsIn 104 = .ok (.iinc 5 1, 3) := by decide +kernel
theorem dX6_beginsIn_107 : decode cX6_beginsIn 107 = .ok (.goto (-92), 3) := by decide +kernel
theorem dX6_beginsIn_110 : decode cX6_beginsIn 110 = .ok (.iload 4, 2) := by decide +kernel
theorem dX6_beginsIn_112 : decode cX6_beginsIn 112 = .ok (.aload_n 0, 1) := by decide +kernel
theorem dX6_beginsIn_113 : decode cX6_beginsIn 113 = .ok (.getfield 9, 3) := by decide +kernel
theorem dX6_beginsIn_116 : decode cX6_beginsIn 116 = .ok (.iload_n 1, 1) := by decide +kernel
theorem dX6_beginsIn_117 : decode cX6_beginsIn 117 = .ok (.iaload, 1) := by decide +kernel
theorem dX6_beginsIn_118 : decode cX6_beginsIn 118 = .ok (.iadd, 1) := by decide +kernel
theorem dX6_beginsIn_119 : decode cX6_beginsIn 119 = .ok (.ireturn, 1) := by decide +kernel
theorem dX6_judge_0 : decode cX6_judge 0 = .ok (.aload_n 0, 1) := by decide +kernel
theorem dX6_judge_1 : decode cX6_judge 1 = .ok (.getfield 35, 3) := by decide +kernel
theorem dX6_judge_4 : decode cX6_judge 4 = .ok (.iload_n 1, 1) := by decide +kernel
theorem dX6_judge_5 : decode cX6_judge 5 = .ok (.iaload, 1) := by decide +kernel
theorem dX6_judge_6 : decode cX6_judge 6 = .ok (.aload_n 0, 1) := by decide +kernel
theorem dX6_judge_7 : decode cX6_judge 7 = .ok (.getfield 29, 3) := by decide +kernel
theorem dX6_judge_10 : decode cX6_judge 10 = .ok (.iload_n 1, 1) := by decide +kernel
theorem dX6_judge_11 : decode cX6_judge 11 = .ok (.iaload, 1) := by decide +kernel
theorem dX6_judge_12 : decode cX6_judge 12 = .ok (.if_icmp .ge 136, 3) := by decide +kernel
theorem dX6_judge_15 : decode cX6_judge 15 = .ok (.aload_n 0, 1) := by decide +kernel
theorem dX6_judge_16 : decode cX6_judge 16 = .ok (.getfield 23, 3) := by decide +kernel
theorem dX6_judge_19 : decode cX6_judge 19 = .ok (.iload_n 1, 1) := by decide +kernel
theorem dX6_judge_20 : decode cX6_judge 20 = .ok (.aaload, 1) := by decide +kernel
theorem dX6_judge_21 : decode cX6_judge 21 = .ok (.aload_n 0, 1) := by decide +kernel
theorem dX6_judge_22 : decode cX6_judge 22 = .ok (.getfield 35, 3) := by decide +kernel
theorem dX6_judge_25 : decode cX6_judge 25 = .ok (.iload_n 1, 1) := by decide +kernel
theorem dX6_judge_26 : decode cX6_judge 26 = .ok (.iaload, 1) := by decide +kernel
theorem dX6_judge_27 : decode cX6_judge 27 = .ok (.iaload, 1) := by decide +kernel
theorem dX6_judge_28 : decode cX6_judge 28 = .ok (.iconst (-1), 1) := by decide +kernel
theorem dX6_judge_29 : decode cX6_judge 29 = .ok (.if_icmp .eq 119, 3) := by decide +kernel
theorem dX6_judge_32 : decode cX6_judge 32 = .ok (.aload_n 0, 1) := by decide +kernel
theorem dX6_judge_33 : decode cX6_judge 33 = .ok (.getfield 35, 3) := by decide +kernel
theorem dX6_judge_36 : decode cX6_judge 36 = .ok (.iload_n 1, 1) := by decide +kernel
theorem dX6_judge_37 : decode cX6_judge 37 = .ok (.iaload, 1) := by decide +kernel
theorem dX6_judge_38 : decode cX6_judge 38 = .ok (.istore_n 3, 1) := by decide +kernel
theorem dX6_judge_39 : decode cX6_judge 39 = .ok (.aload_n 0, 1) := by decide +kernel
theorem dX6_judge_40 : decode cX6_judge 40 = .ok (.getfield 20, 3) := by decide +kernel
theorem dX6_judge_43 : decode cX6_judge 43 = .ok (.iload_n 1, 1) := by decide +kernel
theorem dX6_judge_44 : decode cX6_judge 44 = .ok (.aaload, 1) := by decide +kernel
theorem dX6_judge_45 : decode cX6_judge 45 = .ok (.iload_n 3, 1) := by decide +kernel
theorem dX6_judge_46 : decode cX6_judge 46 = .ok (.iaload, 1) := by decide +kernel
theorem dX6_judge_47 : decode cX6_judge 47 = .ok (.aload_n 0, 1) := by decide +kernel
theorem dX6_judge_48 : decode cX6_judge 48 = .ok (.getfield 15, 3) := by decide +kernel
theorem dX6_judge_51 : decode cX6_judge 51 = .ok (.iload_n 1, 1) := by decide +kernel
theorem dX6_judge_52 : decode cX6_judge 52 = .ok (.iaload, 1) := by decide +kernel
theorem dX6_judge_53 : decode cX6_judge 53 = .ok (.iadd, 1) := by decide +kernel
theorem dX6_judge_54 : decode cX6_judge 54 = .ok (.istore 4, 2) := by decide +kernel
theorem dX6_judge_56 : decode cX6_judge 56 = .ok (.iload 4, 2) := by decide +kernel
theorem dX6_judge_58 : decode cX6_judge 58 = .ok (.aload_n 0, 1) := by decide +kernel
theorem dX6_judge_59 : decode cX6_judge 59 = .ok (.getfield 45, 3) := by decide +kernel
theorem dX6_judge_62 : decode cX6_judge 62 = .ok (.iadd, 1) := by decide +kernel
theorem dX6_judge_63 : decode cX6_judge 63 = .ok (.iconst 1, 1) := by decide +kernel
theorem dX6_judge_64 : decode cX6_judge 64 = .ok (.isub, 1) := by decide +kernel
theorem dX6_judge_65 : decode cX6_judge 65 = .ok (.istore 5, 2) := by decide +kernel
theorem dX6_judge_67 : decode cX6_judge 67 = .ok (.aload_n 0, 1) := by decide +kernel
theorem dX6_judge_68 : decode cX6_judge 68 = .ok (.getfield 26, 3) := by decide +kernel
theorem dX6_judge_71 : decode cX6_judge 71 = .ok (.iload_n 1, 1) := by decide +kernel
theorem dX6_judge_72 : decode cX6_judge 72 = .ok (.aaload, 1) := by decide +kernel
theorem dX6_judge_73 : decode cX6_judge 73 = .ok (.iload_n 3, 1) := by decide +kernel
theorem dX6_judge_74 : decode cX6_judge 74 = .ok (.iaload, 1) := by decide +kernel
theorem dX6_judge_75 : decode cX6_judge 75 = .ok (.iconst 1, 1) := by decide +kernel
theorem dX6_judge_76 : decode cX6_judge 76 = .ok (.if_icmp .ne 59, 3) := by decide +kernel
theorem dX6_judge_79 : decode cX6_judge 79 = .ok (.iload 5, 2) := by decide +kernel
theorem dX6_judge_81 : decode cX6_judge 81 = .ok (.iload_n 2, 1) := by decide +kernel
theorem dX6_judge_82 : decode cX6_judge 82 = .ok (.if_icmp .lt 4, 3) := by decide +kernel
theorem dX6_judge_85 : decode cX6_judge 85 = .ok (.return_, 1) := by decide +kernel
theorem dX6_judge_86 : decode cX6_judge 86 = .ok (.aload_n 0, 1) := by decide +kernel
theorem dX6_judge_87 : decode cX6_judge 87 = .ok (.iconst 1, 1) := by decide +kernel
theorem dX6_judge_88 : decode cX6_judge 88 = .ok (.iload_n 1, 1) := by decide +kernel
theorem dX6_judge_89 : decode cX6_judge 89 = .ok (.isub, 1) := by decide +kernel
theorem dX6_judge_90 : decode cX6_judge 90 = .ok (.iload 4, 2) := by decide +kernel
theorem dX6_judge_92 : decode cX6_judge 92 = .ok (.iload 5, 2) := by decide +kernel
theorem dX6_judge_94 : decode cX6_judge 94 = .ok (.invokevirtual 97, 3) := by decide +kernel
theorem dX6_judge_97 : decode cX6_judge 97 = .ok (.ifCond .eq 38, 3) := by decide +kernel
theorem dX6_judge_100 : decode cX6_judge 100 = .ok (.aload_n 0, 1) := by decide +kernel
theorem dX6_judge_101 : decode cX6_judge 101 = .ok (.getfield 55, 3) := by decide +kernel
theorem dX6_judge_104 : decode cX6_judge 104 = .ok (.iconst (-1), 1) := by decide +kernel
theorem dX6_judge_105 : decode cX6_judge 105 = .ok (.if_icmp .eq 18, 3) := by decide +kernel
theorem dX6_judge_108 : decode cX6_judge 108 = .ok (.aload_n 0, 1) := by decide +kernel
theorem dX6_judge_109 : decode cX6_judge 109 = .ok (.getfield 20, 3) := by decide +kernel
theorem dX6_judge_112 : decode cX6_judge 112 = .ok (.iload_n 1, 1) := by decide +kernel
theorem dX6_judge_113 : decode cX6_judge 113 = .ok (.aaload, 1) := by decide +kernel
theorem dX6_judge_114 : decode cX6_judge 114 = .ok (.iload_n 3, 1) := by decide +kernel
theorem dX6_judge_115 : decode cX6_judge 115 = .ok (.iaload, 1) := by decide +kernel
theorem dX6_judge_116 : decode cX6_judge 116 = .ok (.aload_n 0, 1) := by decide +kernel
theorem dX6_judge_117 : decode cX6_judge 117 = .ok (.getfield 55, 3) := by decide +kernel
theorem dX6_judge_120 : decode cX6_judge 120 = .ok (.if_icmp .ge 15, 3) := by decide +kernel
theorem dX6_judge_123 : decode cX6_judge 123 = .ok (.aload_n 0, 1) := by decide +kernel
theorem dX6_judge_124 : decode cX6_judge 124 = .ok (.aload_n 0, 1) := by decide +kernel
theorem dX6_judge_125 : decode cX6_judge 125 = .ok (.getfield 20, 3) := by decide +kernel
theorem dX6_judge_128 : decode cX6_judge 128 = .ok (.iload_n 1, 1) := by decide +kernel
theorem dX6_judge_129 : decode cX6_judge 129 = .ok (.aaload, 1) := by decide +kernel
theorem dX6_judge_130 : decode cX6_judge 130 = .ok (.iload_n 3, 1) := by decide +kernel
theorem dX6_judge_131 : decode cX6_judge 131 = .ok (.iaload, 1) := by decide +kernel
theorem dX6_judge_132 : decode cX6_judge 132 = .ok (.putfield 55, 3) := by decide +kernel
theorem dX6_judge_135 : decode cX6_judge 135 = .ok (.aload_n 0, 1) := by decide +kernel
theorem dX6_judge_136 : decode cX6_judge 136 = .ok (.getfield 35, 3) := by decide +kernel
theorem dX6_judge_139 : decode cX6_judge 139 = .ok (.iload_n 1, 1) := by decide +kernel
theorem dX6_judge_140 : decode cX6_judge 140 = .ok (.dup2, 1) := by decide +kernel
theorem dX6_judge_141 : decode cX6_judge 141 = .ok (.iaload, 1) := by decide +kernel
theorem dX6_judge_142 : decode cX6_judge 142 = .ok (.iconst 1, 1) := by decide +kernel
theorem dX6_judge_143 : decode cX6_judge 143 = .ok (.iadd, 1) := by decide +kernel
theorem dX6_judge_144 : decode cX6_judge 144 = .ok (.iastore, 1) := by decide +kernel
theorem dX6_judge_145 : decode cX6_judge 145 = .ok (.goto (-145), 3) := by decide +kernel
theorem dX6_judge_148 : decode cX6_judge 148 = .ok (.return_, 1) := by decide +kernel
theorem dX6_isSilent_0 : decode cX6_isSilent 0 = .ok (.aload_n 0, 1) := by decide +kernel
theorem dX6_isSilent_1 : decode cX6_isSilent 1 = .ok (.getfield 29, 3) := by decide +kernel
theorem dX6_isSilent_4 : decode cX6_isSilent 4 = .ok (.iload_n 1, 1) := by decide +kernel
theorem dX6_isSilent_5 : decode cX6_isSilent 5 = .ok (.iaload, 1) := by decide +kernel
theorem dX6_isSilent_6 : decode cX6_isSilent 6 = .ok (.iconst 1, 1) := by decide +kernel
theorem dX6_isSilent_7 : decode cX6_isSilent 7 = .ok (.isub, 1) := by decide +kernel
theorem dX6_isSilent_8 : decode cX6_isSilent 8 = .ok (.istore 4, 2) := by decide +kernel
theorem dX6_isSilent_10 : decode cX6_isSilent 10 = .ok (.iload 4, 2) := by decide +kernel
theorem dX6_isSilent_12 : decode cX6_isSilent 12 = .ok (.ifCond .lt 52, 3) := by decide +kernel
theorem dX6_isSilent_15 : decode cX6_isSilent 15 = .ok (.aload_n 0, 1) := by decide +kernel
theorem dX6_isSilent_16 : decode cX6_isSilent 16 = .ok (.getfield 23, 3) := by decide +kernel
theorem dX6_isSilent_19 : decode cX6_isSilent 19 = .ok (.iload_n 1, 1) := by decide +kernel
theorem dX6_isSilent_20 : decode cX6_isSilent 20 = .ok (.aaload, 1) := by decide +kernel
theorem dX6_isSilent_21 : decode cX6_isSilent 21 = .ok (.iload 4, 2) := by decide +kernel
theorem dX6_isSilent_23 : decode cX6_isSilent 23 = .ok (.iaload, 1) := by decide +kernel
theorem dX6_isSilent_24 : decode cX6_isSilent 24 = .ok (.iconst (-1), 1) := by decide +kernel
theorem dX6_isSilent_25 : decode cX6_isSilent 25 = .ok (.if_icmp .eq 18, 3) := by decide +kernel
theorem dX6_isSilent_28 : decode cX6_isSilent 28 = .ok (.aload_n 0, 1) := by decide +kernel
theorem dX6_isSilent_29 : decode cX6_isSilent 29 = .ok (.getfield 23, 3) := by decide +kernel
theorem dX6_isSilent_32 : decode cX6_isSilent 32 = .ok (.iload_n 1, 1) := by decide +kernel
theorem dX6_isSilent_33 : decode cX6_isSilent 33 = .ok (.aaload, 1) := by decide +kernel
theorem dX6_isSilent_34 : decode cX6_isSilent 34 = .ok (.iload 4, 2) := by decide +kernel
theorem dX6_isSilent_36 : decode cX6_isSilent 36 = .ok (.iaload, 1) := by decide +kernel
theorem dX6_isSilent_37 : decode cX6_isSilent 37 = .ok (.iload_n 2, 1) := by decide +kernel
theorem dX6_isSilent_38 : decode cX6_isSilent 38 = .ok (.if_icmp .gt 5, 3) := by decide +kernel
theorem dX6_isSilent_41 : decode cX6_isSilent 41 = .ok (.iconst 1, 1) := by decide +kernel
theorem dX6_isSilent_42 : decode cX6_isSilent 42 = .ok (.ireturn, 1) := by decide +kernel
theorem dX6_isSilent_43 : decode cX6_isSilent 43 = .ok (.aload_n 0, 1) := by decide +kernel
theorem dX6_isSilent_44 : decode cX6_isSilent 44 = .ok (.getfield 20, 3) := by decide +kernel
theorem dX6_isSilent_47 : decode cX6_isSilent 47 = .ok (.iload_n 1, 1) := by decide +kernel
theorem dX6_isSilent_48 : decode cX6_isSilent 48 = .ok (.aaload, 1) := by decide +kernel
theorem dX6_isSilent_49 : decode cX6_isSilent 49 = .ok (.iload 4, 2) := by decide +kernel
theorem dX6_isSilent_51 : decode cX6_isSilent 51 = .ok (.iaload, 1) := by decide +kernel
theorem dX6_isSilent_52 : decode cX6_isSilent 52 = .ok (.iload_n 3, 1) := by decide +kernel
theorem dX6_isSilent_53 : decode cX6_isSilent 53 = .ok (.if_icmp .gt 5, 3) := by decide +kernel
theorem dX6_isSilent_56 : decode cX6_isSilent 56 = .ok (.iconst 0, 1) := by decide +kernel
theorem dX6_isSilent_57 : decode cX6_isSilent 57 = .ok (.ireturn, 1) := by decide +kernel
theorem dX6_isSilent_58 : decode cX6_isSilent 58 = .ok (.iinc 4 (-1), 3) := by decide +kernel
theorem dX6_isSilent_61 : decode cX6_isSilent 61 = .ok (.goto (-51), 3) := by decide +kernel
theorem dX6_isSilent_64 : decode cX6_isSilent 64 = .ok (.iconst 1, 1) := by decide +kernel
theorem dX6_isSilent_65 : decode cX6_isSilent 65 = .ok (.ireturn, 1) := by decide +kernel
theorem dX6_isSettled_0 : decode cX6_isSettled 0 = .ok (.aload_n 0, 1) := by decide +kernel
theorem dX6_isSettled_1 : decode cX6_isSettled 1 = .ok (.getfield 55, 3) := by decide +kernel
theorem dX6_isSettled_4 : decode cX6_isSettled 4 = .ok (.iconst (-1), 1) := by decide +kernel
theorem dX6_isSettled_5 : decode cX6_isSettled 5 = .ok (.if_icmp .eq 31, 3) := by decide +kernel
theorem dX6_isSettled_8 : decode cX6_isSettled 8 = .ok (.aload_n 0, 1) := by decide +kernel
theorem dX6_isSettled_9 : decode cX6_isSettled 9 = .ok (.iconst 0, 1) := by decide +kernel
theorem dX6_isSettled_10 : decode cX6_isSettled 10 = .ok (.aload_n 0, 1) := by decide +kernel
theorem dX6_isSettled_11 : decode cX6_isSettled 11 = .ok (.getfield 55, 3) := by decide +kernel
theorem dX6_isSettled_14 : decode cX6_isSettled 14 = .ok (.invokevirtual 101, 3) := by decide +kernel
theorem dX6_isSettled_17 : decode cX6_isSettled 17 = .ok (.ifCond .eq 19, 3) := by decide +kernel
theorem dX6_isSettled_20 : decode cX6_isSettled 20 = .ok (.aload_n 0, 1) := by decide +kernel
theorem dX6_isSettled_21 : decode cX6_isSettled 21 = .ok (.iconst 1, 1) := by decide +kernel
theorem dX6_isSettled_22 : decode cX6_isSettled 22 = .ok (.aload_n 0, 1) := by decide +kernel
theorem dX6_isSettled_23 : decode cX6_isSettled 23 = .ok (.getfield 55, 3) := by decide +kernel
theorem dX6_isSettled_26 : decode cX6_isSettled 26 = .ok (.invokevirtual 101, 3) := by decide +kernel
theorem dX6_isSettled_29 : decode cX6_isSettled 29 = .ok (.ifCond .eq 7, 3) := by decide +kernel
theorem dX6_isSettled_32 : decode cX6_isSettled 32 = .ok (.iconst 1, 1) := by decide +kernel
theorem dX6_isSettled_33 : decode cX6_isSettled 33 = .ok (.goto 4, 3) := by decide +kernel
theorem dX6_isSettled_36 : decode cX6_isSettled 36 = .ok (.iconst 0, 1) := by decide +kernel
theorem dX6_isSettled_37 : decode cX6_isSettled 37 = .ok (.ireturn, 1) := by decide +kernel
theorem dX6_isJudgedTo_0 : decode cX6_isJudgedTo 0 = .ok (.aload_n 0, 1) := by decide +kernel
theorem dX6_isJudgedTo_1 : decode cX6_isJudgedTo 1 = .ok (.getfield 35, 3) := by decide +kernel
theorem dX6_isJudgedTo_4 : decode cX6_isJudgedTo 4 = .ok (.iload_n 1, 1) := by decide +kernel
theorem dX6_isJudgedTo_5 : decode cX6_isJudgedTo 5 = .ok (.iaload, 1) := by decide +kernel
theorem dX6_isJudgedTo_6 : decode cX6_isJudgedTo 6 = .ok (.aload_n 0, 1) := by decide +kernel
theorem dX6_isJudgedTo_7 : decode cX6_isJudgedTo 7 = .ok (.getfield 29, 3) := by decide +kernel
theorem dX6_isJudgedTo_10 : decode cX6_isJudgedTo 10 = .ok (.iload_n 1, 1) := by decide +kernel
theorem dX6_isJudgedTo_11 : decode cX6_isJudgedTo 11 = .ok (.iaload, 1) := by decide +kernel
theorem dX6_isJudgedTo_12 : decode cX6_isJudgedTo 12 = .ok (.if_icmp .ge 20, 3) := by decide +kernel
theorem dX6_isJudgedTo_15 : decode cX6_isJudgedTo 15 = .ok (.aload_n 0, 1) := by decide +kernel
theorem dX6_isJudgedTo_16 : decode cX6_isJudgedTo 16 = .ok (.getfield 20, 3) := by decide +kernel
theorem dX6_isJudgedTo_19 : decode cX6_isJudgedTo 19 = .ok (.iload_n 1, 1) := by decide +kernel
theorem dX6_isJudgedTo_20 : decode cX6_isJudgedTo 20 = .ok (.aaload, 1) := by decide +kernel
theorem dX6_isJudgedTo_21 : decode cX6_isJudgedTo 21 = .ok (.aload_n 0, 1) := by decide +kernel
theorem dX6_isJudgedTo_22 : decode cX6_isJudgedTo 22 = .ok (.getfield 35, 3) := by decide +kernel
theorem dX6_isJudgedTo_25 : decode cX6_isJudgedTo 25 = .ok (.iload_n 1, 1) := by decide +kernel
theorem dX6_isJudgedTo_26 : decode cX6_isJudgedTo 26 = .ok (.iaload, 1) := by decide +kernel
theorem dX6_isJudgedTo_27 : decode cX6_isJudgedTo 27 = .ok (.iaload, 1) := by decide +kernel
theorem dX6_isJudgedTo_28 : decode cX6_isJudgedTo 28 = .ok (.iload_n 2, 1) := by decide +kernel
theorem dX6_isJudgedTo_29 : decode cX6_isJudgedTo 29 = .ok (.if_icmp .lt 7, 3) := by decide +kernel
theorem dX6_isJudgedTo_32 : decode cX6_isJudgedTo 32 = .ok (.iconst 1, 1) := by decide +kernel
theorem dX6_isJudgedTo_33 : decode cX6_isJudgedTo 33 = .ok (.goto 4, 3) := by decide +kernel
theorem dX6_isJudgedTo_36 : decode cX6_isJudgedTo 36 = .ok (.iconst 0, 1) := by decide +kernel
theorem dX6_isJudgedTo_37 : decode cX6_isJudgedTo 37 = .ok (.ireturn, 1) := by decide +kernel
theorem dX7_init_0 : decode cX7_init 0 = .ok (.aload_n 0, 1) := by decide +kernel
theorem dX7_init_1 : decode cX7_init 1 = .ok (.invokespecial 3, 3) := by decide +kernel
theorem dX7_init_4 : decode cX7_init 4 = .ok (.aload_n 0, 1) := by decide +kernel
theorem dX7_init_5 : decode cX7_init 5 = .ok (.sipush 300, 3) := by decide +kernel
theorem dX7_init_8 : decode cX7_init 8 = .ok (.newarray .int, 2) := by decide +kernel
theorem dX7_init_10 : decode cX7_init 10 = .ok (.putfield 9, 3) := by decide +kernel
theorem dX7_init_13 : decode cX7_init 13 = .ok (.aload_n 0, 1) := by decide +kernel
theorem dX7_init_14 : decode cX7_init 14 = .ok (.iconst (-1), 1) := by decide +kernel
theorem dX7_init_15 : decode cX7_init 15 = .ok (.putfield 15, 3) := by decide +kernel
theorem dX7_init_18 : decode cX7_init 18 = .ok (.aload_n 0, 1) := by decide +kernel
theorem dX7_init_19 : decode cX7_init 19 = .ok (.iconst (-1), 1) := by decide +kernel
theorem dX7_init_20 : decode cX7_init 20 = .ok (.putfield 19, 3) := by decide +kernel
theorem dX7_init_23 : decode cX7_init 23 = .ok (.aload_n 0, 1) := by decide +kernel
theorem dX7_init_24 : decode cX7_init 24 = .ok (.sipush 301, 3) := by decide +kernel
theorem dX7_init_27 : decode cX7_init 27 = .ok (.newarray .int, 2) := by decide +kernel
theorem dX7_init_29 : decode cX7_init 29 = .ok (.putfield 22, 3) := by decide +kernel
theorem dX7_init_32 : decode cX7_init 32 = .ok (.aload_n 0, 1) := by decide +kernel
theorem dX7_init_33 : decode cX7_init 33 = .ok (.sipush 301, 3) := by decide +kernel
theorem dX7_init_36 : decode cX7_init 36 = .ok (.newarray .int, 2) := by decide +kernel
theorem dX7_init_38 : decode cX7_init 38 = .ok (.putfield 25, 3) := by decide +kernel
theorem dX7_init_41 : decode cX7_init 41 = .ok (.aload_n 0, 1) := by decide +kernel
theorem dX7_init_42 : decode cX7_init 42 = .ok (.sipush 301, 3) := by decide +kernel
theorem dX7_init_45 : decode cX7_init 45 = .ok (.newarray .int, 2) := by decide +kernel
theorem dX7_init_47 : decode cX7_init 47 = .ok (.putfield 28, 3) := by decide +kernel
theorem dX7_init_50 : decode cX7_init 50 = .ok (.return_, 1) := by decide +kernel
theorem dX7_take_0 : decode cX7_take 0 = .ok (.bipush 24, 2) := by decide +kernel
theorem dX7_take_2 : decode cX7_take 2 = .ok (.istore_n 2, 1) := by decide +kernel
theorem dX7_take_3 : decode cX7_take 3 = .ok (.iload_n 2, 1) := by decide +kernel
theorem dX7_take_4 : decode cX7_take 4 = .ok (.ifCond .lt 45, 3) := by decide +kernel
theorem dX7_take_7 : decode cX7_take 7 = .ok (.aload_n 0, 1) := by decide +kernel
theorem dX7_take_8 : decode cX7_take 8 = .ok (.getfield 31, 3) := by decide +kernel
theorem dX7_take_11 : decode cX7_take 11 = .ok (.sipush 300, 3) := by decide +kernel
theorem dX7_take_14 : decode cX7_take 14 = .ok (.if_icmp .ge 35, 3) := by decide +kernel
theorem dX7_take_17 : decode cX7_take 17 = .ok (.aload_n 0, 1) := by decide +kernel
theorem dX7_take_18 : decode cX7_take 18 = .ok (.getfield 9, 3) := by decide +kernel
theorem dX7_take_21 : decode cX7_take 21 = .ok (.aload_n 0, 1) := by decide +kernel
theorem dX7_take_22 : decode cX7_take 22 = .ok (.getfield 31, 3) := by decide +kernel
theorem dX7_take_25 : decode cX7_take 25 = .ok (.iload_n 1, 1) := by decide +kernel
theorem dX7_take_26 : decode cX7_take 26 = .ok (.iload_n 2, 1) := by decide +kernel
theorem dX7_take_27 : decode cX7_take 27 = .ok (.iushr, 1) := by decide +kernel
theorem dX7_take_28 : decode cX7_take 28 = .ok (.sipush 255, 3) := by decide +kernel
theorem dX7_take_31 : decode cX7_take 31 = .ok (.iand, 1) := by decide +kernel
theorem dX7_take_32 : decode cX7_take 32 = .ok (.iastore, 1) := by decide +kernel
theorem dX7_take_33 : decode cX7_take 33 = .ok (.aload_n 0, 1) := by decide +kernel
theorem dX7_take_34 : decode cX7_take 34 = .ok (.dup, 1) := by decide +kernel
theorem dX7_take_35 : decode cX7_take 35 = .ok (.getfield 31, 3) := by decide +kernel
theorem dX7_take_38 : decode cX7_take 38 = .ok (.iconst 1, 1) := by decide +kernel
theorem dX7_take_39 : decode cX7_take 39 = .ok (.iadd, 1) := by decide +kernel
theorem dX7_take_40 : decode cX7_take 40 = .ok (.putfield 31, 3) := by decide +kernel
theorem dX7_take_43 : decode cX7_take 43 = .ok (.iinc 2 (-8), 3) := by decide +kernel
theorem dX7_take_46 : decode cX7_take 46 = .ok (.goto (-43), 3) := by decide +kernel
theorem dX7_take_49 : decode cX7_take 49 = .ok (.return_, 1) := by decide +kernel
theorem dX7_readInto_0 : decode cX7_readInto 0 = .ok (.aload_n 0, 1) := by decide +kernel
theorem dX7_readInto_1 : decode cX7_readInto 1 = .ok (.aload_n 1, 1) := by decide +kernel
theorem dX7_readInto_2 : decode cX7_readInto 2 = .ok (.putfield 34, 3) := by decide +kernel
theorem dX7_readInto_5 : decode cX7_readInto 5 = .ok (.aload_n 0, 1) := by decide +kernel
theorem dX7_readInto_6 : decode cX7_readInto 6 = .ok (.getfield 34, 3) := by decide +kernel
theorem dX7_readInto_9 : decode cX7_readInto 9 = .ok (.invokevirtual 38, 3) := by decide +kernel
theorem dX7_readInto_12 : decode cX7_readInto 12 = .ok (.aload_n 0, 1) := by decide +kernel
theorem dX7_readInto_13 : decode cX7_readInto 13 = .ok (.iconst 0, 1) := by decide +kernel
theorem dX7_readInto_14 : decode cX7_readInto 14 = .ok (.putfield 15, 3) := by decide +kernel
theorem dX7_readInto_17 : decode cX7_readInto 17 = .ok (.aload_n 0, 1) := by decide +kernel
theorem dX7_readInto_18 : decode cX7_readInto 18 = .ok (.iconst (-1), 1) := by decide +kernel
theorem dX7_readInto_19 : decode cX7_readInto 19 = .ok (.putfield 19, 3) := by decide +kernel
theorem dX7_readInto_22 : decode cX7_readInto 22 = .ok (.aload_n 0, 1) := by decide +kernel
theorem dX7_readInto_23 : decode cX7_readInto 23 = .ok (.invokevirtual 43, 3) := by decide +kernel
theorem dX7_readInto_26 : decode cX7_readInto 26 = .ok (.aload_n 0, 1) := by decide +kernel
theorem dX7_readInto_27 : decode cX7_readInto 27 = .ok (.iconst 0, 1) := by decide +kernel
theorem dX7_readInto_28 : decode cX7_readInto 28 = .ok (.putfield 46, 3) := by decide +kernel
theorem dX7_readInto_31 : decode cX7_readInto 31 = .ok (.aload_n 0, 1) := by decide +kernel
theorem dX7_readInto_32 : decode cX7_readInto 32 = .ok (.invokevirtual 49, 3) := by decide +kernel
theorem dX7_readInto_35 : decode cX7_readInto 35 = .ok (.iconst 0, 1) := by decide +kernel
theorem dX7_readInto_36 : decode cX7_readInto 36 = .ok (.istore_n 2, 1) := by decide +kernel
theorem dX7_readInto_37 : decode cX7_readInto 37 = .ok (.iload_n 2, 1) := by decide +kernel
theorem dX7_readInto_38 : decode cX7_readInto 38 = .ok (.bipush 24, 2) := by decide +kernel
theorem dX7_readInto_40 : decode cX7_readInto 40 = .ok (.if_icmp .gt 20, 3) := by decide +kernel
theorem dX7_readInto_43 : decode cX7_readInto 43 = .ok (.aload_n 0, 1) := by decide +kernel
theorem dX7_readInto_44 : decode cX7_readInto 44 = .ok (.getfield 52, 3) := by decide +kernel
theorem dX7_readInto_47 : decode cX7_readInto 47 = .ok (.ifCond .eq 13, 3) := by decide +kernel
theorem dX7_readInto_50 : decode cX7_readInto 50 = .ok (.aload_n 0, 1) := by decide +kernel
theorem dX7_readInto_51 : decode cX7_readInto 51 = .ok (.invokevirtual 55, 3) := by decide +kernel
theorem dX7_readInto_54 : decode cX7_readInto 54 = .ok (.iinc 2 1, 3) := by decide +kernel
theorem dX7_readInto_57 : decode cX7_readInto 57 = .ok (.goto (-20), 3) := by decide +kernel
theorem dX7_readInto_60 : decode cX7_readInto 60 = .ok (.aload_n 0, 1) := by decide +kernel
theorem dX7_readInto_61 : decode cX7_readInto 61 = .ok (.iconst 0, 1) := by decide +kernel
theorem dX7_readInto_62 : decode cX7_readInto 62 = .ok (.putfield 31, 3) := by decide +kernel
theorem dX7_readInto_65 : decode cX7_readInto 65 = .ok (.return_, 1) := by decide +kernel
theorem dX7_splitTape_0 : decode cX7_splitTape 0 = .ok (.aload_n 0, 1) := by decide +kernel
theorem dX7_splitTape_1 : decode cX7_splitTape 1 = .ok (.iconst 0, 1) := by decide +kernel
theorem dX7_splitTape_2 : decode cX7_splitTape 2 = .ok (.putfield 58, 3) := by decide +kernel
theorem dX7_splitTape_5 : decode cX7_splitTape 5 = .ok (.iconst 0, 1) := by decide +kernel
theorem dX7_splitTape_6 : decode cX7_splitTape 6 = .ok (.istore_n 1, 1) := by decide +kernel
theorem dX7_splitTape_7 : decode cX7_splitTape 7 = .ok (.iconst 0, 1) := by decide +kernel
theorem dX7_splitTape_8 : decode cX7_splitTape 8 = .ok (.istore_n 2, 1) := by decide +kernel
theorem dX7_splitTape_9 : decode cX7_splitTape 9 = .ok (.iload_n 2, 1) := by decide +kernel
theorem dX7_splitTape_10 : decode cX7_splitTape 10 = .ok (.sipush 300, 3) := by decide +kernel
theorem dX7_splitTape_13 : decode cX7_splitTape 13 = .ok (.if_icmp .ge 80, 3) := by decide +kernel
theorem dX7_splitTape_16 : decode cX7_splitTape 16 = .ok (.iload_n 1, 1) := by decide +kernel
theorem dX7_splitTape_17 : decode cX7_splitTape 17 = .ok (.aload_n 0, 1) := by decide +kernel
theorem dX7_splitTape_18 : decode cX7_splitTape 18 = .ok (.getfield 31, 3) := by decide +kernel
theorem dX7_splitTape_21 : decode cX7_splitTape 21 = .ok (.if_icmp .ge 72, 3) := by decide +kernel
theorem dX7_splitTape_24 : decode cX7_splitTape 24 = .ok (.aload_n 0, 1) := by decide +kernel
theorem dX7_splitTape_25 : decode cX7_splitTape 25 = .ok (.getfield 9, 3) := by decide +kernel
theorem dX7_splitTape_28 : decode cX7_splitTape 28 = .ok (.iload_n 1, 1) := by decide +kernel
theorem dX7_splitTape_29 : decode cX7_splitTape 29 = .ok (.iaload, 1) := by decide +kernel
theorem dX7_splitTape_30 : decode cX7_splitTape 30 = .ok (.istore_n 3, 1) := by decide +kernel
theorem dX7_splitTape_31 : decode cX7_splitTape 31 = .ok (.iload_n 3, 1) := by decide +kernel
theorem dX7_splitTape_32 : decode cX7_splitTape 32 = .ok (.invokestatic 61, 3) := by decide +kernel
theorem dX7_splitTape_35 : decode cX7_splitTape 35 = .ok (.ifCond .eq 12, 3) := by decide +kernel
theorem dX7_splitTape_38 : decode cX7_splitTape 38 = .ok (.aload_n 0, 1) := by decide +kernel
theorem dX7_splitTape_39 : decode cX7_splitTape 39 = .ok (.iload_n 1, 1) := by decide +kernel
theorem dX7_splitTape_40 : decode cX7_splitTape 40 = .ok (.invokevirtual 65, 3) := by decide +kernel
theorem dX7_splitTape_43 : decode cX7_splitTape 43 = .ok (.istore_n 1, 1) := by decide +kernel
theorem dX7_splitTape_44 : decode cX7_splitTape 44 = .ok (.goto 43, 3) := by decide +kernel
theorem dX7_splitTape_47 : decode cX7_splitTape 47 = .ok (.iload_n 3, 1) := by decide +kernel
theorem dX7_splitTape_48 : decode cX7_splitTape 48 = .ok (.invokestatic 69, 3) := by decide +kernel
theorem dX7_splitTape_51 : decode cX7_splitTape 51 = .ok (.ifCond .eq 12, 3) := by decide +kernel
theorem dX7_splitTape_54 : decode cX7_splitTape 54 = .ok (.aload_n 0, 1) := by decide +kernel
theorem dX7_splitTape_55 : decode cX7_splitTape 55 = .ok (.iload_n 1, 1) := by decide +kernel
theorem dX7_splitTape_56 : decode cX7_splitTape 56 = .ok (.invokevirtual 72, 3) := by decide +kernel
theorem dX7_splitTape_59 : decode cX7_splitTape 59 = .ok (.istore_n 1, 1) := by decide +kernel
theorem dX7_splitTape_60 : decode cX7_splitTape 60 = .ok (.goto 27, 3) := by decide +kernel
theorem dX7_splitTape_63 : decode cX7_splitTape 63 = .ok (.iload_n 3, 1) := by decide +kernel
theorem dX7_splitTape_64 : decode cX7_splitTape 64 = .ok (.bipush 32, 2) := by decide +kernel
theorem dX7_splitTape_66 : decode cX7_splitTape 66 = .ok (.if_icmp .eq 9, 3) := by decide +kernel
theorem dX7_splitTape_69 : decode cX7_splitTape 69 = .ok (.iload_n 3, 1) := by decide +kernel
theorem dX7_splitTape_70 : decode cX7_splitTape 70 = .ok (.bipush 10, 2) := by decide +kernel
theorem dX7_splitTape_72 : decode cX7_splitTape 72 = .ok (.if_icmp .ne 9, 3) := by decide +kernel
theorem dX7_splitTape_75 : decode cX7_splitTape 75 = .ok (.iinc 1 1, 3) := by decide +kernel
theorem dX7_splitTape_78 : decode cX7_splitTape 78 = .ok (.goto 9, 3) := by decide +kernel
theorem dX7_splitTape_81 : decode cX7_splitTape 81 = .ok (.aload_n 0, 1) := by decide +kernel
theorem dX7_splitTape_82 : decode cX7_splitTape 82 = .ok (.iload_n 1, 1) := by decide +kernel
theorem dX7_splitTape_83 : decode cX7_splitTape 83 = .ok (.invokevirtual 75, 3) := by decide +kernel
theorem dX7_splitTape_86 : decode cX7_splitTape 86 = .ok (.istore_n 1, 1) := by decide +kernel
theorem dX7_splitTape_87 : decode cX7_splitTape 87 = .ok (.iinc 2 1, 3) := by decide +kernel
theorem dX7_splitTape_90 : decode cX7_splitTape 90 = .ok (.goto (-81), 3) := by decide +kernel
theorem dX7_splitTape_93 : decode cX7_splitTape 93 = .ok (.aload_n 0, 1) := by decide +kernel
theorem dX7_splitTape_94 : decode cX7_splitTape 94 = .ok (.iconst 0, 1) := by decide +kernel
theorem dX7_splitTape_95 : decode cX7_splitTape 95 = .ok (.iconst 0, 1) := by decide +kernel
theorem dX7_splitTape_96 : decode cX7_splitTape 96 = .ok (.aload_n 0, 1) := by decide +kernel
theorem dX7_splitTape_97 : decode cX7_splitTape 97 = .ok (.getfield 31, 3) := by decide +kernel
theorem dX7_splitTape_100 : decode cX7_splitTape 100 = .ok (.invokevirtual 78, 3) := by decide +kernel
theorem dX7_splitTape_103 : decode cX7_splitTape 103 = .ok (.return_, 1) := by decide +kernel
theorem dX7_splitNumber_0 : decode cX7_splitNumber 0 = .ok (.iconst 0, 1) := by decide +kernel
theorem dX7_splitNumber_1 : decode cX7_splitNumber 1 = .ok (.istore_n 2, 1) := by decide +kernel
theorem dX7_splitNumber_2 : decode cX7_splitNumber 2 = .ok (.iload_n 1, 1) := by decide +kernel
theorem dX7_splitNumber_3 : decode cX7_splitNumber 3 = .ok (.istore_n 3, 1) := by decide +kernel
theorem dX7_splitNumber_4 : decode cX7_splitNumber 4 = .ok (.iload_n 3, 1) := by decide +kernel
theorem dX7_splitNumber_5 : decode cX7_splitNumber 5 = .ok (.aload_n 0, 1) := by decide +kernel
theorem dX7_splitNumber_6 : decode cX7_splitNumber 6 = .ok (.getfield 31, 3) := by decide +kernel
theorem dX7_splitNumber_9 : decode cX7_splitNumber 9 = .ok (.if_icmp .ge 42, 3) := by decide +kernel
theorem dX7_splitNumber_12 : decode cX7_splitNumber 12 = .ok (.aload_n 0, 1) := by decide +kernel
theorem dX7_splitNumber_13 : decode cX7_splitNumber 13 = .ok (.getfield 9, 3) := by decide +kernel
theorem dX7_splitNumber_16 : decode cX7_splitNumber 16 = .ok (.iload_n 3, 1) := by decide +kernel
theorem dX7_splitNumber_17 : decode cX7_splitNumber 17 = .ok (.iaload, 1) := by decide +kernel
theorem dX7_splitNumber_18 : decode cX7_splitNumber 18 = .ok (.invokestatic 61, 3) := by decide +kernel
theorem dX7_splitNumber_21 : decode cX7_splitNumber 21 = .ok (.ifCond .eq 30, 3) := by decide +kernel
theorem dX7_splitNumber_24 : decode cX7_splitNumber 24 = .ok (.sipush 10000, 3) := by decide +kernel
theorem dX7_splitNumber_27 : decode cX7_splitNumber 27 = .ok (.iload_n 2, 1) := by decide +kernel
theorem dX7_splitNumber_28 : decode cX7_splitNumber 28 = .ok (.bipush 10, 2) := by decide +kernel
theorem dX7_splitNumber_30 : decode cX7_splitNumber 30 = .ok (.imul, 1) := by decide +kernel
theorem dX7_splitNumber_31 : decode cX7_splitNumber 31 = .ok (.aload_n 0, 1) := by decide +kernel
theorem dX7_splitNumber_32 : decode cX7_splitNumber 32 = .ok (.getfield 9, 3) := by decide +kernel
theorem dX7_splitNumber_35 : decode cX7_splitNumber 35 = .ok (.iload_n 3, 1) := by decide +kernel
theorem dX7_splitNumber_36 : decode cX7_splitNumber 36 = .ok (.iaload, 1) := by decide +kernel
theorem dX7_splitNumber_37 : decode cX7_splitNumber 37 = .ok (.iadd, 1) := by decide +kernel
theorem dX7_splitNumber_38 : decode cX7_splitNumber 38 = .ok (.bipush 48, 2) := by decide +kernel
theorem dX7_splitNumber_40 : decode cX7_splitNumber 40 = .ok (.isub, 1) := by decide +kernel
theorem dX7_splitNumber_41 : decode cX7_splitNumber 41 = .ok (.invokestatic 82, 3) := by decide +kernel
theorem dX7_splitNumber_44 : decode cX7_splitNumber 44 = .ok (.istore_n 2, 1) := by decide +kernel
theorem dX7_splitNumber_45 : decode cX7_splitNumber 45 = .ok (.iinc 3 1, 3) := by decide +kernel
theorem dX7_splitNumber_48 : decode cX7_splitNumber 48 = .ok (.goto (-44), 3) := by decide +kernel
theorem dX7_splitNumber_51 : decode cX7_splitNumber 51 = .ok (.aload_n 0, 1) := by decide +kernel
theorem dX7_splitNumber_52 : decode cX7_splitNumber 52 = .ok (.iconst 2, 1) := by decide +kernel
theorem dX7_splitNumber_53 : decode cX7_splitNumber 53 = .ok (.iload_n 2, 1) := by decide +kernel
theorem dX7_splitNumber_54 : decode cX7_splitNumber 54 = .ok (.iload_n 1, 1) := by decide +kernel
theorem dX7_splitNumber_55 : decode cX7_splitNumber 55 = .ok (.invokevirtual 78, 3) := by decide +kernel
theorem dX7_splitNumber_58 : decode cX7_splitNumber 58 = .ok (.iload_n 3, 1) := by decide +kernel
theorem dX7_splitNumber_59 : decode cX7_splitNumber 59 = .ok (.ireturn, 1) := by decide +kernel
theorem dX7_splitWord_0 : decode cX7_splitWord 0 = .ok (.iload_n 1, 1) := by decide +kernel
theorem dX7_splitWord_1 : decode cX7_splitWord 1 = .ok (.istore_n 2, 1) := by decide +kernel
theorem dX7_splitWord_2 : decode cX7_splitWord 2 = .ok (.iload_n 2, 1) := by decide +kernel
theorem dX7_splitWord_3 : decode cX7_splitWord 3 = .ok (.aload_n 0, 1) := by decide +kernel
theorem dX7_splitWord_4 : decode cX7_splitWord 4 = .ok (.getfield 31, 3) := by decide +kernel
theorem dX7_splitWord_7 : decode cX7_splitWord 7 = .ok (.if_icmp .ge 21, 3) := by decide +kernel
theorem dX7_splitWord_10 : decode cX7_splitWord 10 = .ok (.aload_n 0, 1) := by decide +kernel
theorem dX7_splitWord_11 : decode cX7_splitWord 11 = .ok (.getfield 9, 3) := by decide +kernel
theorem dX7_splitWord_14 : decode cX7_splitWord 14 = .ok (.iload_n 2, 1) := by decide +kernel
theorem dX7_splitWord_15 : decode cX7_splitWord 15 = .ok (.iaload, 1) := by decide +kernel
theorem dX7_splitWord_16 : decode cX7_splitWord 16 = .ok (.invokestatic 69, 3) := by decide +kernel
theorem dX7_splitWord_19 : decode cX7_splitWord 19 = .ok (.ifCond .eq 9, 3) := by decide +kernel
theorem dX7_splitWord_22 : decode cX7_splitWord 22 = .ok (.iinc 2 1, 3) := by decide +kernel
theorem dX7_splitWord_25 : decode cX7_splitWord 25 = .ok (.goto (-23), 3) := by decide +kernel
theorem dX7_splitWord_28 : decode cX7_splitWord 28 = .ok (.aload_n 0, 1) := by decide +kernel
theorem dX7_splitWord_29 : decode cX7_splitWord 29 = .ok (.iconst 3, 1) := by decide +kernel
theorem dX7_splitWord_30 : decode cX7_splitWord 30 = .ok (.aload_n 0, 1) := by decide +kernel
theorem dX7_splitWord_31 : decode cX7_splitWord 31 = .ok (.iload_n 1, 1) := by decide +kernel
theorem dX7_splitWord_32 : decode cX7_splitWord 32 = .ok (.iload_n 2, 1) := by decide +kernel
theorem dX7_splitWord_33 : decode cX7_splitWord 33 = .ok (.invokevirtual 88, 3) := by decide +kernel
theorem dX7_splitWord_36 : decode cX7_splitWord 36 = .ok (.iload_n 1, 1) := by decide +kernel
theorem dX7_splitWord_37 : decode cX7_splitWord 37 = .ok (.invokevirtual 78, 3) := by decide +kernel
theorem dX7_splitWord_40 : decode cX7_splitWord 40 = .ok (.iload_n 2, 1) := by decide +kernel
theorem dX7_splitWord_41 : decode cX7_splitWord 41 = .ok (.ireturn, 1) := by decide +kernel
theorem dX7_numberOfWord_0 : decode cX7_numberOfWord 0 = .ok (.iconst 0, 1) := by decide +kernel
theorem dX7_numberOfWord_1 : decode cX7_numberOfWord 1 = .ok (.istore_n 3, 1) := by decide +kernel
theorem dX7_numberOfWord_2 : decode cX7_numberOfWord 2 = .ok (.iconst 0, 1) := by decide +kernel
theorem dX7_numberOfWord_3 : decode cX7_numberOfWord 3 = .ok (.istore 4, 2) := by decide +kernel
theorem dX7_numberOfWord_5 : decode cX7_numberOfWord 5 = .ok (.iload 4, 2) := by decide +kernel
theorem dX7_numberOfWord_7 : decode cX7_numberOfWord 7 = .ok (.iconst 1, 1) := by decide +kernel
theorem dX7_numberOfWord_8 : decode cX7_numberOfWord 8 = .ok (.iadd, 1) := by decide +kernel
theorem dX7_numberOfWord_9 : decode cX7_numberOfWord 9 = .ok (.ldc 91, 2) := by decide +kernel
theorem dX7_numberOfWord_11 : decode cX7_numberOfWord 11 = .ok (.invokevirtual 93, 3) := by decide +kernel
theorem dX7_numberOfWord_14 : decode cX7_numberOfWord 14 = .ok (.if_icmp .ge 39, 3) := by decide +kernel
theorem dX7_numberOfWord_17 : decode cX7_numberOfWord 17 = .ok (.ldc 91, 2) := by decide +kernel
theorem dX7_numberOfWord_19 : decode cX7_numberOfWord 19 = .ok (.iload 4, 2) := by decide +kernel
theorem dX7_numberOfWord_21 : decode cX7_numberOfWord 21 = .ok (.invokevirtual 98, 3) := by decide +kernel
theorem dX7_numberOfWord_24 : decode cX7_numberOfWord 24 = .ok (.bipush 32, 2) := by decide +kernel
theorem dX7_numberOfWord_26 : decode cX7_numberOfWord 26 = .ok (.if_icmp .ne 21, 3) := by decide +kernel
theorem dX7_numberOfWord_29 : decode cX7_numberOfWord 29 = .ok (.aload_n 0, 1) := by decide +kernel
theorem dX7_numberOfWord_30 : decode cX7_numberOfWord 30 = .ok (.iload 4, 2) := by decide +kernel
theorem dX7_numberOfWord_32 : decode cX7_numberOfWord 32 = .ok (.iconst 1, 1) := by decide +kernel
theorem dX7_numberOfWord_33 : decode cX7_numberOfWord 33 = .ok (.iadd, 1) := by decide +kernel
theorem dX7_numberOfWord_34 : decode cX7_numberOfWord 34 = .ok (.iload_n 1, 1) := by decide +kernel
theorem dX7_numberOfWord_35 : decode cX7_numberOfWord 35 = .ok (.iload_n 2, 1) := by decide +kernel
theorem dX7_numberOfWord_36 : decode cX7_numberOfWord 36 = .ok (.invokevirtual 102, 3) := by decide +kernel
theorem dX7_numberOfWord_39 : decode cX7_numberOfWord 39 = .ok (.ifCond .eq 5, 3) := by decide +kernel
theorem dX7_numberOfWord_42 : decode cX7_numberOfWord 42 = .ok (.iload_n 3, 1) := by decide +kernel
theorem dX7_numberOfWord_43 : decode cX7_numberOfWord 43 = .ok (.ireturn, 1) := by decide +kernel
theorem dX7_numberOfWord_44 : decode cX7_numberOfWord 44 = .ok (.iinc 3 1, 3) := by decide +kernel
theorem dX7_numberOfWord_47 : decode cX7_numberOfWord 47 = .ok (.iinc 4 1, 3) := by decide +kernel
theorem dX7_numberOfWord_50 : decode cX7_numberOfWord 50 = .ok (.goto (-45), 3) := by decide +kernel
theorem dX7_numberOfWord_53 : decode cX7_numberOfWord 53 = .ok (.bipush 32, 2) := by decide +kernel
theorem dX7_numberOfWord_55 : decode cX7_numberOfWord 55 = .ok (.ireturn, 1) := by decide +kernel
theorem dX7_isSpeltAt_0 : decode cX7_isSpeltAt 0 = .ok (.iload_n 1, 1) := by decide +kernel
theorem dX7_isSpeltAt_1 : decode cX7_isSpeltAt 1 = .ok (.iload_n 3, 1) := by decide +kernel
theorem dX7_isSpeltAt_2 : decode cX7_isSpeltAt 2 = .ok (.iadd, 1) := by decide +kernel
theorem dX7_isSpeltAt_3 : decode cX7_isSpeltAt 3 = .ok (.iload_n 2, 1) := by decide +kernel
theorem dX7_isSpeltAt_4 : decode cX7_isSpeltAt 4 = .ok (.isub, 1) := by decide +kernel
theorem dX7_isSpeltAt_5 : decode cX7_isSpeltAt 5 = .ok (.istore 4, 2) := by decide +kernel
theorem dX7_isSpeltAt_7 : decode cX7_isSpeltAt 7 = .ok (.iload 4, 2) := by decide +kernel
theorem dX7_isSpeltAt_9 : decode cX7_isSpeltAt 9 = .ok (.ldc 91, 2) := by decide +kernel
theorem dX7_isSpeltAt_11 : decode cX7_isSpeltAt 11 = .ok (.invokevirtual 93, 3) := by decide +kernel
theorem dX7_isSpeltAt_14 : decode cX7_isSpeltAt 14 = .ok (.if_icmp .ge 15, 3) := by decide +kernel
theorem dX7_isSpeltAt_17 : decode cX7_isSpeltAt 17 = .ok (.ldc 91, 2) := by decide +kernel
theorem dX7_isSpeltAt_19 : decode cX7_isSpeltAt 19 = .ok (.iload 4, 2) := by decide +kernel
theorem dX7_isSpeltAt_21 : decode cX7_isSpeltAt 21 = .ok (.invokevirtual 98, 3) := by decide +kernel
theorem dX7_isSpeltAt_24 : decode cX7_isSpeltAt 24 = .ok (.bipush 32, 2) := by decide +kernel
theorem dX7_isSpeltAt_26 : decode cX7_isSpeltAt 26 = .ok (.if_icmp .eq 5, 3) := by decide +kernel
theorem dX7_isSpeltAt_29 : decode cX7_isSpeltAt 29 = .ok (.iconst 0, 1) := by decide +kernel
theorem dX7_isSpeltAt_30 : decode cX7_isSpeltAt 30 = .ok (.ireturn, 1) := by decide +kernel
theorem dX7_isSpeltAt_31 : decode cX7_isSpeltAt 31 = .ok (.iload_n 2, 1) := by decide +kernel
theorem dX7_isSpeltAt_32 : decode cX7_isSpeltAt 32 = .ok (.istore 5, 2) := by decide +kernel
theorem dX7_isSpeltAt_34 : decode cX7_isSpeltAt 34 = .ok (.iload 5, 2) := by decide +kernel
theorem dX7_isSpeltAt_36 : decode cX7_isSpeltAt 36 = .ok (.iload_n 3, 1) := by decide +kernel
theorem dX7_isSpeltAt_37 : decode cX7_isSpeltAt 37 = .ok (.if_icmp .ge 32, 3) := by decide +kernel
theorem dX7_isSpeltAt_40 : decode cX7_isSpeltAt 40 = .ok (.aload_n 0, 1) := by decide +kernel
theorem dX7_isSpeltAt_41 : decode cX7_isSpeltAt 41 = .ok (.getfield 9, 3) := by decide +kernel
theorem dX7_isSpeltAt_44 : decode cX7_isSpeltAt 44 = .ok (.iload 5, 2) := by decide +kernel
theorem dX7_isSpeltAt_46 : decode cX7_isSpeltAt 46 = .ok (.iaload, 1) := by decide +kernel
theorem dX7_isSpeltAt_47 : decode cX7_isSpeltAt 47 = .ok (.ldc 91, 2) := by decide +kernel
theorem dX7_isSpeltAt_49 : decode cX7_isSpeltAt 49 = .ok (.iload_n 1, 1) := by decide +kernel
theorem dX7_isSpeltAt_50 : decode cX7_isSpeltAt 50 = .ok (.iload 5, 2) := by decide +kernel
theorem dX7_isSpeltAt_52 : decode cX7_isSpeltAt 52 = .ok (.iadd, 1) := by decide +kernel
theorem dX7_isSpeltAt_53 : decode cX7_isSpeltAt 53 = .ok (.iload_n 2, 1) := by decide +kernel
theorem dX7_isSpeltAt_54 : decode cX7_isSpeltAt 54 = .ok (.isub, 1) := by decide +kernel
theorem dX7_isSpeltAt_55 : decode cX7_isSpeltAt 55 = .ok (.invokevirtual 98, 3) := by decide +kernel
theorem dX7_isSpeltAt_58 : decode cX7_isSpeltAt 58 = .ok (.if_icmp .eq 5, 3) := by decide +kernel
theorem dX7_isSpeltAt_61 : decode cX7_isSpeltAt 61 = .ok (.iconst 0, 1) := by decide +kernel
theorem dX7_isSpeltAt_62 : decode cX7_isSpeltAt 62 = .ok (.ireturn, 1) := by decide +kernel
theorem dX7_isSpeltAt_63 : decode cX7_isSpeltAt 63 = .ok (.iinc 5 1, 3) := by decide +kernel
theorem dX7_isSpeltAt_66 : decode cX7_isSpeltAt 66 = .ok (.goto (-32), 3) := by decide +kernel
theorem dX7_isSpeltAt_69 : decode cX7_isSpeltAt 69 = .ok (.iconst 1, 1) := by decide +kernel
theorem dX7_isSpeltAt_70 : decode cX7_isSpeltAt 70 = .ok (.ireturn, 1) := by decide +kernel
theorem dX7_splitSign_0 : decode cX7_splitSign 0 = .ok (.aload_n 0, 1) := by decide +kernel
theorem dX7_splitSign_1 : decode cX7_splitSign 1 = .ok (.getfield 9, 3) := by decide +kernel
theorem dX7_splitSign_4 : decode cX7_splitSign 4 = .ok (.iload_n 1, 1) := by decide +kernel
theorem dX7_splitSign_5 : decode cX7_splitSign 5 = .ok (.iaload, 1) := by decide +kernel
theorem dX7_splitSign_6 : decode cX7_splitSign 6 = .ok (.istore_n 2, 1) := by decide +kernel
theorem dX7_splitSign_7 : decode cX7_splitSign 7 = .ok (.iload_n 2, 1) := by decide +kernel
theorem dX7_splitSign_8 : decode cX7_splitSign 8 = .ok (.bipush 60, 2) := by decide +kernel
theorem dX7_splitSign_10 : decode cX7_splitSign 10 = .ok (.if_icmp .eq 9, 3) := by decide +kernel
theorem dX7_splitSign_13 : decode cX7_splitSign 13 = .ok (.iload_n 2, 1) := by decide +kernel
theorem dX7_splitSign_14 : decode cX7_splitSign 14 = .ok (.bipush 62, 2) := by decide +kernel
theorem dX7_splitSign_16 : decode cX7_splitSign 16 = .ok (.if_icmp .ne 41, 3) := by decide +kernel
theorem dX7_splitSign_19 : decode cX7_splitSign 19 = .ok (.iload_n 1, 1) := by decide +kernel
theorem dX7_splitSign_20 : decode cX7_splitSign 20 = .ok (.iconst 1, 1) := by decide +kernel
theorem dX7_splitSign_21 : decode cX7_splitSign 21 = .ok (.iadd, 1) := by decide +kernel
theorem dX7_splitSign_22 : decode cX7_splitSign 22 = .ok (.aload_n 0, 1) := by decide +kernel
theorem dX7_splitSign_23 : decode cX7_splitSign 23 = .ok (.getfield 31, 3) := by decide +kernel
theorem dX7_splitSign_26 : decode cX7_splitSign 26 = .ok (.if_icmp .ge 31, 3) := by decide +kernel
theorem dX7_splitSign_29 : decode cX7_splitSign 29 = .ok (.aload_n 0, 1) := by decide +kernel
theorem dX7_splitSign_30 : decode cX7_splitSign 30 = .ok (.getfield 9, 3) := by decide +kernel
theorem dX7_splitSign_33 : decode cX7_splitSign 33 = .ok (.iload_n 1, 1) := by decide +kernel
theorem dX7_splitSign_34 : decode cX7_splitSign 34 = .ok (.iconst 1, 1) := by decide +kernel
theorem dX7_splitSign_35 : decode cX7_splitSign 35 = .ok (.iadd, 1) := by decide +kernel
theorem dX7_splitSign_36 : decode cX7_splitSign 36 = .ok (.iaload, 1) := by decide +kernel
theorem dX7_splitSign_37 : decode cX7_splitSign 37 = .ok (.bipush 61, 2) := by decide +kernel
theorem dX7_splitSign_39 : decode cX7_splitSign 39 = .ok (.if_icmp .ne 18, 3) := by decide +kernel
theorem dX7_splitSign_42 : decode cX7_splitSign 42 = .ok (.aload_n 0, 1) := by decide +kernel
theorem dX7_splitSign_43 : decode cX7_splitSign 43 = .ok (.iconst 4, 1) := by decide +kernel
theorem dX7_splitSign_44 : decode cX7_splitSign 44 = .ok (.iload_n 2, 1) := by decide +kernel
theorem dX7_splitSign_45 : decode cX7_splitSign 45 = .ok (.sipush 256, 3) := by decide +kernel
theorem dX7_splitSign_48 : decode cX7_splitSign 48 = .ok (.iadd, 1) := by decide +kernel
theorem dX7_splitSign_49 : decode cX7_splitSign 49 = .ok (.iload_n 1, 1) := by decide +kernel
theorem dX7_splitSign_50 : decode cX7_splitSign 50 = .ok (.invokevirtual 78, 3) := by decide +kernel
theorem dX7_splitSign_53 : decode cX7_splitSign 53 = .ok (.iload_n 1, 1) := by decide +kernel
theorem dX7_splitSign_54 : decode cX7_splitSign 54 = .ok (.iconst 2, 1) := by decide +kernel
theorem dX7_splitSign_55 : decode cX7_splitSign 55 = .ok (.iadd, 1) := by decide +kernel
theorem dX7_splitSign_56 : decode cX7_splitSign 56 = .ok (.ireturn, 1) := by decide +kernel
theorem dX7_splitSign_57 : decode cX7_splitSign 57 = .ok (.aload_n 0, 1) := by decide +kernel
theorem dX7_splitSign_58 : decode cX7_splitSign 58 = .ok (.ldc 106, 2) := by decide +kernel
theorem dX7_splitSign_60 : decode cX7_splitSign 60 = .ok (.iload_n 2, 1) := by decide +kernel
theorem dX7_splitSign_61 : decode cX7_splitSign 61 = .ok (.i2c, 1) := by decide +kernel
theorem dX7_splitSign_62 : decode cX7_splitSign 62 = .ok (.invokevirtual 108, 3) := by decide +kernel
theorem dX7_splitSign_65 : decode cX7_splitSign 65 = .ok (.ifCond .lt 7, 3) := by decide +kernel
theorem dX7_splitSign_68 : decode cX7_splitSign 68 = .ok (.iconst 4, 1) := by decide +kernel
theorem dX7_splitSign_69 : decode cX7_splitSign 69 = .ok (.goto 4, 3) := by decide +kernel
theorem dX7_splitSign_72 : decode cX7_splitSign 72 = .ok (.iconst 1, 1) := by decide +kernel
theorem dX7_splitSign_73 : decode cX7_splitSign 73 = .ok (.iload_n 2, 1) := by decide +kernel
theorem dX7_splitSign_74 : decode cX7_splitSign 74 = .ok (.iload_n 1, 1) := by decide +kernel
theorem dX7_splitSign_75 : decode cX7_splitSign 75 = .ok (.invokevirtual 78, 3) := by decide +kernel
theorem dX7_splitSign_78 : decode cX7_splitSign 78 = .ok (.iload_n 1, 1) := by decide +kernel
theorem dX7_splitSign_79 : decode cX7_splitSign 79 = .ok (.iconst 1, 1) := by decide +kernel
theorem dX7_splitSign_80 : decode cX7_splitSign 80 = .ok (.iadd, 1) := by decide +kernel
theorem dX7_splitSign_81 : decode cX7_splitSign 81 = .ok (.ireturn, 1) := by decide +kernel
theorem dX7_addToken_0 : decode cX7_addToken 0 = .ok (.aload_n 0, 1) := by decide +kernel
theorem dX7_addToken_1 : decode cX7_addToken 1 = .ok (.getfield 58, 3) := by decide +kernel
theorem dX7_addToken_4 : decode cX7_addToken 4 = .ok (.aload_n 0, 1) := by decide +kernel
theorem dX7_addToken_5 : decode cX7_addToken 5 = .ok (.getfield 22, 3) := by decide +kernel
theorem dX7_addToken_8 : decode cX7_addToken 8 = .ok (.arraylength, 1) := by decide +kernel
theorem dX7_addToken_9 : decode cX7_addToken 9 = .ok (.if_icmp .ge 43, 3) := by decide +kernel
theorem dX7_addToken_12 : decode cX7_addToken 12 = .ok (.aload_n 0, 1) := by decide +kernel
theorem dX7_addToken_13 : decode cX7_addToken 13 = .ok (.getfield 22, 3) := by decide +kernel
theorem dX7_addToken_16 : decode cX7_addToken 16 = .ok (.aload_n 0, 1) := by decide +kernel
theorem dX7_addToken_17 : decode cX7_addToken 17 = .ok (.getfield 58, 3) := by decide +kernel
theorem dX7_addToken_20 : decode cX7_addToken 20 = .ok (.iload_n 1, 1) := by decide +kernel
theorem dX7_addToken_21 : decode cX7_addToken 21 = .ok (.iastore, 1) := by decide +kernel
theorem dX7_addToken_22 : decode cX7_addToken 22 = .ok (.aload_n 0, 1) := by decide +kernel
theorem dX7_addToken_23 : decode cX7_addToken 23 = .ok (.getfield 25, 3) := by decide +kernel
theorem dX7_addToken_26 : decode cX7_addToken 26 = .ok (.aload_n 0, 1) := by decide +kernel
theorem dX7_addToken_27 : decode cX7_addToken 27 = .ok (.getfield 58, 3) := by decide +kernel
theorem dX7_addToken_30 : decode cX7_addToken 30 = .ok (.iload_n 2, 1) := by decide +kernel
theorem dX7_addToken_31 : decode cX7_addToken 31 = .ok (.iastore, 1) := by decide +kernel
theorem dX7_addToken_32 : decode cX7_addToken 32 = .ok (.aload_n 0, 1) := by decide +kernel
theorem dX7_addToken_33 : decode cX7_addToken 33 = .ok (.getfield 28, 3) := by decide +kernel
theorem dX7_addToken_36 : decode cX7_addToken 36 = .ok (.aload_n 0, 1) := by decide +kernel
theorem dX7_addToken_37 : decode cX7_addToken 37 = .ok (.getfield 58, 3) := by decide +kernel
theorem dX7_addToken_40 : decode cX7_addToken 40 = .ok (.iload_n 3, 1) := by decide +kernel
theorem dX7_addToken_41 : decode cX7_addToken 41 = .ok (.iastore, 1) := by decide +kernel
theorem dX7_addToken_42 : decode cX7_addToken 42 = .ok (.aload_n 0, 1) := by decide +kernel
theorem dX7_addToken_43 : decode cX7_addToken 43 = .ok (.dup, 1) := by decide +kernel
theorem dX7_addToken_44 : decode cX7_addToken 44 = .ok (.getfield 58, 3) := by decide +kernel
theorem dX7_addToken_47 : decode cX7_addToken 47 = .ok (.iconst 1, 1) := by decide +kernel
theorem dX7_addToken_48 : decode cX7_addToken 48 = .ok (.iadd, 1) := by decide +kernel
theorem dX7_addToken_49 : decode cX7_addToken 49 = .ok (.putfield 58, 3) := by decide +kernel
theorem dX7_addToken_52 : decode cX7_addToken 52 = .ok (.return_, 1) := by decide +kernel
theorem dX7_isDigit_0 : decode cX7_isDigit 0 = .ok (.bipush 48, 2) := by decide +kernel
theorem dX7_isDigit_2 : decode cX7_isDigit 2 = .ok (.iload_n 0, 1) := by decide +kernel
theorem dX7_isDigit_3 : decode cX7_isDigit 3 = .ok (.if_icmp .gt 13, 3) := by decide +kernel
theorem dX7_isDigit_6 : decode cX7_isDigit 6 = .ok (.iload_n 0, 1) := by decide +kernel
theorem dX7_isDigit_7 : decode cX7_isDigit 7 = .ok (.bipush 57, 2) := by decide +kernel
theorem dX7_isDigit_9 : decode cX7_isDigit 9 = .ok (.if_icmp .gt 7, 3) := by decide +kernel
theorem dX7_isDigit_12 : decode cX7_isDigit 12 = .ok (.iconst 1, 1) := by decide +kernel
theorem dX7_isDigit_13 : decode cX7_isDigit 13 = .ok (.goto 4, 3) := by decide +kernel
theorem dX7_isDigit_16 : decode cX7_isDigit 16 = .ok (.iconst 0, 1) := by decide +kernel
theorem dX7_isDigit_17 : decode cX7_isDigit 17 = .ok (.ireturn, 1) := by decide +kernel
theorem dX7_isLetter_0 : decode cX7_isLetter 0 = .ok (.bipush 97, 2) := by decide +kernel
theorem dX7_isLetter_2 : decode cX7_isLetter 2 = .ok (.iload_n 0, 1) := by decide +kernel
theorem dX7_isLetter_3 : decode cX7_isLetter 3 = .ok (.if_icmp .gt 9, 3) := by decide +kernel
theorem dX7_isLetter_6 : decode cX7_isLetter 6 = .ok (.iload_n 0, 1) := by decide +kernel
theorem dX7_isLetter_7 : decode cX7_isLetter 7 = .ok (.bipush 122, 2) := by decide +kernel
theorem dX7_isLetter_9 : decode cX7_isLetter 9 = .ok (.if_icmp .le 15, 3) := by decide +kernel
theorem dX7_isLetter_12 : decode cX7_isLetter 12 = .ok (.bipush 65, 2) := by decide +kernel
theorem dX7_isLetter_14 : decode cX7_isLetter 14 = .ok (.iload_n 0, 1) := by decide +kernel
theorem dX7_isLetter_15 : decode cX7_isLetter 15 = .ok (.if_icmp .gt 13, 3) := by decide +kernel
theorem dX7_isLetter_18 : decode cX7_isLetter 18 = .ok (.iload_n 0, 1) := by decide +kernel
theorem dX7_isLetter_19 : decode cX7_isLetter 19 = .ok (.bipush 90, 2) := by decide +kernel
theorem dX7_isLetter_21 : decode cX7_isLetter 21 = .ok (.if_icmp .gt 7, 3) := by decide +kernel
theorem dX7_isLetter_24 : decode cX7_isLetter 24 = .ok (.iconst 1, 1) := by decide +kernel
theorem dX7_isLetter_25 : decode cX7_isLetter 25 = .ok (.goto 4, 3) := by decide +kernel
theorem dX7_isLetter_28 : decode cX7_isLetter 28 = .ok (.iconst 0, 1) := by decide +kernel
theorem dX7_isLetter_29 : decode cX7_isLetter 29 = .ok (.ireturn, 1) := by decide +kernel
theorem dX7_come_0 : decode cX7_come 0 = .ok (.aload_n 0, 1) := by decide +kernel
theorem dX7_come_1 : decode cX7_come 1 = .ok (.getfield 15, 3) := by decide +kernel
theorem dX7_come_4 : decode cX7_come 4 = .ok (.ifCond .ne 63, 3) := by decide +kernel
theorem dX7_come_7 : decode cX7_come 7 = .ok (.aload_n 0, 1) := by decide +kernel
theorem dX7_come_8 : decode cX7_come 8 = .ok (.getfield 46, 3) := by decide +kernel
theorem dX7_come_11 : decode cX7_come 11 = .ok (.aload_n 0, 1) := by decide +kernel
theorem dX7_come_12 : decode cX7_come 12 = .ok (.getfield 58, 3) := by decide +kernel
theorem dX7_come_15 : decode cX7_come 15 = .ok (.if_icmp .ge 52, 3) := by decide +kernel
theorem dX7_come_18 : decode cX7_come 18 = .ok (.aload_n 0, 1) := by decide +kernel
theorem dX7_come_19 : decode cX7_come 19 = .ok (.aload_n 0, 1) := by decide +kernel
theorem dX7_come_20 : decode cX7_come 20 = .ok (.getfield 22, 3) := by decide +kernel
theorem dX7_come_23 : decode cX7_come 23 = .ok (.aload_n 0, 1) := by decide +kernel
theorem dX7_come_24 : decode cX7_come 24 = .ok (.getfield 46, 3) := by decide +kernel
theorem dX7_come_27 : decode cX7_come 27 = .ok (.iaload, 1) := by decide +kernel
theorem dX7_come_28 : decode cX7_come 28 = .ok (.putfield 52, 3) := by decide +kernel
theorem dX7_come_31 : decode cX7_come 31 = .ok (.aload_n 0, 1) := by decide +kernel
theorem dX7_come_32 : decode cX7_come 32 = .ok (.aload_n 0, 1) := by decide +kernel
theorem dX7_come_33 : decode cX7_come 33 = .ok (.getfield 25, 3) := by decide +kernel
theorem dX7_come_36 : decode cX7_come 36 = .ok (.aload_n 0, 1) := by decide +kernel
theorem dX7_come_37 : decode cX7_come 37 = .ok (.getfield 46, 3) := by decide +kernel
theorem dX7_come_40 : decode cX7_come 40 = .ok (.iaload, 1) := by decide +kernel
theorem dX7_come_41 : decode cX7_come 41 = .ok (.putfield 111, 3) := by decide +kernel
theorem dX7_come_44 : decode cX7_come 44 = .ok (.aload_n 0, 1) := by decide +kernel
theorem dX7_come_45 : decode cX7_come 45 = .ok (.aload_n 0, 1) := by decide +kernel
theorem dX7_come_46 : decode cX7_come 46 = .ok (.getfield 28, 3) := by decide +kernel
theorem dX7_come_49 : decode cX7_come 49 = .ok (.aload_n 0, 1) := by decide +kernel
theorem dX7_come_50 : decode cX7_come 50 = .ok (.getfield 46, 3) := by decide +kernel
theorem dX7_come_53 : decode cX7_come 53 = .ok (.iaload, 1) := by decide +kernel
theorem dX7_come_54 : decode cX7_come 54 = .ok (.putfield 114, 3) := by decide +kernel
theorem dX7_come_57 : decode cX7_come 57 = .ok (.aload_n 0, 1) := by decide +kernel
theorem dX7_come_58 : decode cX7_come 58 = .ok (.dup, 1) := by decide +kernel
theorem dX7_come_59 : decode cX7_come 59 = .ok (.getfield 46, 3) := by decide +kernel
theorem dX7_come_62 : decode cX7_come 62 = .ok (.iconst 1, 1) := by decide +kernel
theorem dX7_come_63 : decode cX7_come 63 = .ok (.iadd, 1) := by decide +kernel
theorem dX7_come_64 : decode cX7_come 64 = .ok (.putfield 46, 3) := by decide +kernel
theorem dX7_come_67 : decode cX7_come 67 = .ok (.return_, 1) := by decide +kernel
theorem dX7_fail_0 : decode cX7_fail 0 = .ok (.aload_n 0, 1) := by decide +kernel
theorem dX7_fail_1 : decode cX7_fail 1 = .ok (.getfield 15, 3) := by decide +kernel
theorem dX7_fail_4 : decode cX7_fail 4 = .ok (.ifCond .ne 16, 3) := by decide +kernel
theorem dX7_fail_7 : decode cX7_fail 7 = .ok (.aload_n 0, 1) := by decide +kernel
theorem dX7_fail_8 : decode cX7_fail 8 = .ok (.iload_n 1, 1) := by decide +kernel
theorem dX7_fail_9 : decode cX7_fail 9 = .ok (.putfield 15, 3) := by decide +kernel
theorem dX7_fail_12 : decode cX7_fail 12 = .ok (.aload_n 0, 1) := by decide +kernel
theorem dX7_fail_13 : decode cX7_fail 13 = .ok (.aload_n 0, 1) := by decide +kernel
theorem dX7_fail_14 : decode cX7_fail 14 = .ok (.getfield 114, 3) := by decide +kernel
theorem dX7_fail_17 : decode cX7_fail 17 = .ok (.putfield 19, 3) := by decide +kernel
theorem dX7_fail_20 : decode cX7_fail 20 = .ok (.aload_n 0, 1) := by decide +kernel
theorem dX7_fail_21 : decode cX7_fail 21 = .ok (.iconst 1, 1) := by decide +kernel
theorem dX7_fail_22 : decode cX7_fail 22 = .ok (.putfield 52, 3) := by decide +kernel
theorem dX7_fail_25 : decode cX7_fail 25 = .ok (.return_, 1) := by decide +kernel
theorem dX7_readClause_0 : decode cX7_readClause 0 = .ok (.aload_n 0, 1) := by decide +kernel
theorem dX7_readClause_1 : decode cX7_readClause 1 = .ok (.getfield 52, 3) := by decide +kernel
theorem dX7_readClause_4 : decode cX7_readClause 4 = .ok (.iconst 3, 1) := by decide +kernel
theorem dX7_readClause_5 : decode cX7_readClause 5 = .ok (.if_icmp .ne 12, 3) := by decide +kernel
theorem dX7_readClause_8 : decode cX7_readClause 8 = .ok (.aload_n 0, 1) := by decide +kernel
theorem dX7_readClause_9 : decode cX7_readClause 9 = .ok (.getfield 111, 3) := by decide +kernel
theorem dX7_readClause_12 : decode cX7_readClause 12 = .ok (.bipush 10, 2) := by decide +kernel
theorem dX7_readClause_14 : decode cX7_readClause 14 = .ok (.if_icmp .le 11, 3) := by decide +kernel
theorem dX7_readClause_17 : decode cX7_readClause 17 = .ok (.aload_n 0, 1) := by decide +kernel
theorem dX7_readClause_18 : decode cX7_readClause 18 = .ok (.iconst 1, 1) := by decide +kernel
theorem dX7_readClause_19 : decode cX7_readClause 19 = .ok (.invokevirtual 117, 3) := by decide +kernel
theorem dX7_readClause_22 : decode cX7_readClause 22 = .ok (.goto 134, 3) := by decide +kernel
theorem dX7_readClause_25 : decode cX7_readClause 25 = .ok (.aload_n 0, 1) := by decide +kernel
theorem dX7_readClause_26 : decode cX7_readClause 26 = .ok (.getfield 111, 3) := by decide +kernel
theorem dX7_readClause_29 : decode cX7_readClause 29 = .ok (.iconst 5, 1) := by decide +kernel
theorem dX7_readClause_30 : decode cX7_readClause 30 = .ok (.if_icmp .ge 27, 3) := by decide +kernel
theorem dX7_readClause_33 : decode cX7_readClause 33 = .ok (.aload_n 0, 1) := by decide +kernel
theorem dX7_readClause_34 : decode cX7_readClause 34 = .ok (.getfield 34, 3) := by decide +kernel
theorem dX7_readClause_37 : decode cX7_readClause 37 = .ok (.getfield 121, 3) := by decide +kernel
theorem dX7_readClause_40 : decode cX7_readClause 40 = .ok (.aload_n 0, 1) := by decide +kernel
theorem dX7_readClause_41 : decode cX7_readClause 41 = .ok (.getfield 111, 3) := by decide +kernel
theorem dX7_readClause_44 : decode cX7_readClause 44 = .ok (.iaload, 1) := by decide +kernel
theorem dX7_readClause_45 : decode cX7_readClause 45 = .ok (.iconst (-1), 1) := by decide +kernel
theorem dX7_readClause_46 : decode cX7_readClause 46 = .ok (.if_icmp .eq 11, 3) := by decide +kernel
theorem dX7_readClause_49 : decode cX7_readClause 49 = .ok (.aload_n 0, 1) := by decide +kernel
theorem dX7_readClause_50 : decode cX7_readClause 50 = .ok (.iconst 4, 1) := by decide +kernel
theorem dX7_readClause_51 : decode cX7_readClause 51 = .ok (.invokevirtual 117, 3) := by decide +kernel
theorem dX7_readClause_54 : decode cX7_readClause 54 = .ok (.goto 102, 3) := by decide +kernel
theorem dX7_readClause_57 : decode cX7_readClause 57 = .ok (.aload_n 0, 1) := by decide +kernel
theorem dX7_readClause_58 : decode cX7_readClause 58 = .ok (.getfield 34, 3) := by decide +kernel
theorem dX7_readClause_61 : decode cX7_readClause 61 = .ok (.getfield 124, 3) := by decide +kernel
theorem dX7_readClause_64 : decode cX7_readClause 64 = .ok (.bipush 24, 2) := by decide +kernel
theorem dX7_readClause_66 : decode cX7_readClause 66 = .ok (.if_icmp .lt 12, 3) := by decide +kernel
theorem dX7_readClause_69 : decode cX7_readClause 69 = .ok (.aload_n 0, 1) := by decide +kernel
theorem dX7_readClause_70 : decode cX7_readClause 70 = .ok (.bipush 6, 2) := by decide +kernel
theorem dX7_readClause_72 : decode cX7_readClause 72 = .ok (.invokevirtual 117, 3) := by decide +kernel
theorem dX7_readClause_75 : decode cX7_readClause 75 = .ok (.goto 81, 3) := by decide +kernel
theorem dX7_readClause_78 : decode cX7_readClause 78 = .ok (.aload_n 0, 1) := by decide +kernel
theorem dX7_readClause_79 : decode cX7_readClause 79 = .ok (.getfield 111, 3) := by decide +kernel
theorem dX7_readClause_82 : decode cX7_readClause 82 = .ok (.istore_n 1, 1) := by decide +kernel
theorem dX7_readClause_83 : decode cX7_readClause 83 = .ok (.aload_n 0, 1) := by decide +kernel
theorem dX7_readClause_84 : decode cX7_readClause 84 = .ok (.getfield 34, 3) := by decide +kernel
theorem dX7_readClause_87 : decode cX7_readClause 87 = .ok (.iload_n 1, 1) := by decide +kernel
theorem dX7_readClause_88 : decode cX7_readClause 88 = .ok (.invokevirtual 127, 3) := by decide +kernel
theorem dX7_readClause_91 : decode cX7_readClause 91 = .ok (.aload_n 0, 1) := by decide +kernel
theorem dX7_readClause_92 : decode cX7_readClause 92 = .ok (.invokevirtual 49, 3) := by decide +kernel
theorem dX7_readClause_95 : decode cX7_readClause 95 = .ok (.iload_n 1, 1) := by decide +kernel
theorem dX7_readClause_96 : decode cX7_readClause 96 = .ok (.iconst 5, 1) := by decide +kernel
theorem dX7_readClause_97 : decode cX7_readClause 97 = .ok (.if_icmp .ge 48, 3) := by decide +kernel
theorem dX7_readClause_100 : decode cX7_readClause 100 = .ok (.aload_n 0, 1) := by decide +kernel
theorem dX7_readClause_101 : decode cX7_readClause 101 = .ok (.iload_n 1, 1) := by decide +kernel
theorem dX7_readClause_102 : decode cX7_readClause 102 = .ok (.putfield 130, 3) := by decide +kernel
theorem dX7_readClause_105 : decode cX7_readClause 105 = .ok (.aload_n 0, 1) := by decide +kernel
theorem dX7_readClause_106 : decode cX7_readClause 106 = .ok (.getfield 34, 3) := by decide +kernel
theorem dX7_readClause_109 : decode cX7_readClause 109 = .ok (.getfield 121, 3) := by decide +kernel
theorem dX7_readClause_112 : decode cX7_readClause 112 = .ok (.iload_n 1, 1) := by decide +kernel
theorem dX7_readClause_113 : decode cX7_readClause 113 = .ok (.aload_n 0, 1) := by decide +kernel
theorem dX7_readClause_114 : decode cX7_readClause 114 = .ok (.getfield 34, 3) := by decide +kernel
theorem dX7_readClause_117 : decode cX7_readClause 117 = .ok (.getfield 133, 3) := by decide +kernel
theorem dX7_readClause_120 : decode cX7_readClause 120 = .ok (.iastore, 1) := by decide +kernel
theorem dX7_readClause_121 : decode cX7_readClause 121 = .ok (.aload_n 0, 1) := by decide +kernel
theorem dX7_readClause_122 : decode cX7_readClause 122 = .ok (.iconst 0, 1) := by decide +kernel
theorem dX7_readClause_123 : decode cX7_readClause 123 = .ok (.invokevirtual 136, 3) := by decide +kernel
theorem dX7_readClause_126 : decode cX7_readClause 126 = .ok (.aload_n 0, 1) := by decide +kernel
theorem dX7_readClause_127 : decode cX7_readClause 127 = .ok (.getfield 34, 3) := by decide +kernel
theorem dX7_readClause_130 : decode cX7_readClause 130 = .ok (.getfield 139, 3) := by decide +kernel
theorem dX7_readClause_133 : decode cX7_readClause 133 = .ok (.iload_n 1, 1) := by decide +kernel
theorem dX7_readClause_134 : decode cX7_readClause 134 = .ok (.aload_n 0, 1) := by decide +kernel
theorem dX7_readClause_135 : decode cX7_readClause 135 = .ok (.getfield 34, 3) := by decide +kernel
theorem dX7_readClause_138 : decode cX7_readClause 138 = .ok (.getfield 133, 3) := by decide +kernel
theorem dX7_readClause_141 : decode cX7_readClause 141 = .ok (.iastore, 1) := by decide +kernel
theorem dX7_readClause_142 : decode cX7_readClause 142 = .ok (.goto 8, 3) := by decide +kernel
theorem dX7_readClause_145 : decode cX7_readClause 145 = .ok (.aload_n 0, 1) := by decide +kernel
theorem dX7_readClause_146 : decode cX7_readClause 146 = .ok (.iload_n 1, 1) := by decide +kernel
theorem dX7_readClause_147 : decode cX7_readClause 147 = .ok (.invokevirtual 142, 3) := by decide +kernel
theorem dX7_readClause_150 : decode cX7_readClause 150 = .ok (.aload_n 0, 1) := by decide +kernel
theorem dX7_readClause_151 : decode cX7_readClause 151 = .ok (.bipush 59, 2) := by decide +kernel
theorem dX7_readClause_153 : decode cX7_readClause 153 = .ok (.invokevirtual 145, 3) := by decide +kernel
theorem dX7_readClause_156 : decode cX7_readClause 156 = .ok (.return_, 1) := by decide +kernel
theorem dX7_readAct_0 : decode cX7_readAct 0 = .ok (.iconst 0, 1) := by decide +kernel
theorem dX7_readAct_1 : decode cX7_readAct 1 = .ok (.istore_n 2, 1) := by decide +kernel
theorem dX7_readAct_2 : decode cX7_readAct 2 = .ok (.iconst 0, 1) := by decide +kernel
theorem dX7_readAct_3 : decode cX7_readAct 3 = .ok (.istore_n 3, 1) := by decide +kernel
theorem dX7_readAct_4 : decode cX7_readAct 4 = .ok (.iload_n 1, 1) := by decide +kernel
theorem dX7_readAct_5 : decode cX7_readAct 5 = .ok (.bipush 8, 2) := by decide +kernel
theorem dX7_readAct_7 : decode cX7_readAct 7 = .ok (.if_icmp .ne 9, 3) := by decide +kernel
theorem dX7_readAct_10 : decode cX7_readAct 10 = .ok (.sipush 300, 3) := by decide +kernel
theorem dX7_readAct_13 : decode cX7_readAct 13 = .ok (.goto 14, 3) := by decide +kernel
theorem dX7_readAct_16 : decode cX7_readAct 16 = .ok (.iload_n 1, 1) := by decide +kernel
theorem dX7_readAct_17 : decode cX7_readAct 17 = .ok (.bipush 10, 2) := by decide +kernel
theorem dX7_readAct_19 : decode cX7_readAct 19 = .ok (.if_icmp .ne 7, 3) := by decide +kernel
theorem dX7_readAct_22 : decode cX7_readAct 22 = .ok (.iconst 3, 1) := by decide +kernel
theorem dX7_readAct_23 : decode cX7_readAct 23 = .ok (.goto 4, 3) := by decide +kernel
theorem dX7_readAct_26 : decode cX7_readAct 26 = .ok (.iconst 3, 1) := by decide +kernel
theorem dX7_readAct_27 : decode cX7_readAct 27 = .ok (.istore 4, 2) := by decide +kernel
theorem dX7_readAct_29 : decode cX7_readAct 29 = .ok (.aload_n 0, 1) := by decide +kernel
theorem dX7_readAct_30 : decode cX7_readAct 30 = .ok (.iload_n 1, 1) := by decide +kernel
theorem dX7_readAct_31 : decode cX7_readAct 31 = .ok (.bipush 8, 2) := by decide +kernel
theorem dX7_readAct_33 : decode cX7_readAct 33 = .ok (.if_icmp .ne 7, 3) := by decide +kernel
theorem dX7_readAct_36 : decode cX7_readAct 36 = .ok (.iconst 1, 1) := by decide +kernel
theorem dX7_readAct_37 : decode cX7_readAct 37 = .ok (.goto 4, 3) := by decide +kernel
theorem dX7_readAct_40 : decode cX7_readAct 40 = .ok (.iconst 0, 1) := by decide +kernel
theorem dX7_readAct_41 : decode cX7_readAct 41 = .ok (.iload 4, 2) := by decide +kernel
theorem dX7_readAct_43 : decode cX7_readAct 43 = .ok (.invokevirtual 148, 3) := by decide +kernel
theorem dX7_readAct_46 : decode cX7_readAct 46 = .ok (.istore 5, 2) := by decide +kernel
theorem dX7_readAct_48 : decode cX7_readAct 48 = .ok (.iload_n 1, 1) := by decide +kernel
theorem dX7_readAct_49 : decode cX7_readAct 49 = .ok (.iconst 5, 1) := by decide +kernel
theorem dX7_readAct_50 : decode cX7_readAct 50 = .ok (.if_icmp .ne 20, 3) := by decide +kernel
theorem dX7_readAct_53 : decode cX7_readAct 53 = .ok (.aload_n 0, 1) := by decide +kernel
theorem dX7_readAct_54 : decode cX7_readAct 54 = .ok (.bipush 11, 2) := by decide +kernel
theorem dX7_readAct_56 : decode cX7_readAct 56 = .ok (.invokevirtual 151, 3) := by decide +kernel
theorem dX7_readAct_59 : decode cX7_readAct 59 = .ok (.aload_n 0, 1) := by decide +kernel
theorem dX7_readAct_60 : decode cX7_readAct 60 = .ok (.iconst 1, 1) := by decide +kernel
theorem dX7_readAct_61 : decode cX7_readAct 61 = .ok (.bipush 99, 2) := by decide +kernel
theorem dX7_readAct_63 : decode cX7_readAct 63 = .ok (.invokevirtual 148, 3) := by decide +kernel
theorem dX7_readAct_66 : decode cX7_readAct 66 = .ok (.istore_n 2, 1) := by decide +kernel
theorem dX7_readAct_67 : decode cX7_readAct 67 = .ok (.goto 36, 3) := by decide +kernel
theorem dX7_readAct_70 : decode cX7_readAct 70 = .ok (.iload_n 1, 1) := by decide +kernel
theorem dX7_readAct_71 : decode cX7_readAct 71 = .ok (.bipush 9, 2) := by decide +kernel
theorem dX7_readAct_73 : decode cX7_readAct 73 = .ok (.if_icmp .ne 30, 3) := by decide +kernel
theorem dX7_readAct_76 : decode cX7_readAct 76 = .ok (.aload_n 0, 1) := by decide +kernel
theorem dX7_readAct_77 : decode cX7_readAct 77 = .ok (.bipush 12, 2) := by decide +kernel
theorem dX7_readAct_79 : decode cX7_readAct 79 = .ok (.invokevirtual 151, 3) := by decide +kernel
theorem dX7_readAct_82 : decode cX7_readAct 82 = .ok (.aload_n 0, 1) := by decide +kernel
theorem dX7_readAct_83 : decode cX7_readAct 83 = .ok (.iconst 0, 1) := by decide +kernel
theorem dX7_readAct_84 : decode cX7_readAct 84 = .ok (.iconst 3, 1) := by decide +kernel
theorem dX7_readAct_85 : decode cX7_readAct 85 = .ok (.invokevirtual 148, 3) := by decide +kernel
theorem dX7_readAct_88 : decode cX7_readAct 88 = .ok (.istore_n 2, 1) := by decide +kernel
theorem dX7_readAct_89 : decode cX7_readAct 89 = .ok (.aload_n 0, 1) := by decide +kernel
theorem dX7_readAct_90 : decode cX7_readAct 90 = .ok (.bipush 13, 2) := by decide +kernel
theorem dX7_readAct_92 : decode cX7_readAct 92 = .ok (.invokevirtual 151, 3) := by decide +kernel
theorem dX7_readAct_95 : decode cX7_readAct 95 = .ok (.aload_n 0, 1) := by decide +kernel
theorem dX7_readAct_96 : decode cX7_readAct 96 = .ok (.iconst 0, 1) := by decide +kernel
theorem dX7_readAct_97 : decode cX7_readAct 97 = .ok (.bipush 60, 2) := by decide +kernel
theorem dX7_readAct_99 : decode cX7_readAct 99 = .ok (.invokevirtual 148, 3) := by decide +kernel
theorem dX7_readAct_102 : decode cX7_readAct 102 = .ok (.istore_n 3, 1) := by decide +kernel
theorem dX7_readAct_103 : decode cX7_readAct 103 = .ok (.aload_n 0, 1) := by decide +kernel
theorem dX7_readAct_104 : decode cX7_readAct 104 = .ok (.getfield 34, 3) := by decide +kernel
theorem dX7_readAct_107 : decode cX7_readAct 107 = .ok (.iload 5, 2) := by decide +kernel
theorem dX7_readAct_109 : decode cX7_readAct 109 = .ok (.iload_n 2, 1) := by decide +kernel
theorem dX7_readAct_110 : decode cX7_readAct 110 = .ok (.iload_n 3, 1) := by decide +kernel
theorem dX7_readAct_111 : decode cX7_readAct 111 = .ok (.invokevirtual 154, 3) := by decide +kernel
theorem dX7_readAct_114 : decode cX7_readAct 114 = .ok (.return_, 1) := by decide +kernel
theorem dX7_readSum_0 : decode cX7_readSum 0 = .ok (.aload_n 0, 1) := by decide +kernel
theorem dX7_readSum_1 : decode cX7_readSum 1 = .ok (.iload_n 1, 1) := by decide +kernel
theorem dX7_readSum_2 : decode cX7_readSum 2 = .ok (.invokevirtual 157, 3) := by decide +kernel
theorem dX7_readSum_5 : decode cX7_readSum 5 = .ok (.iconst 0, 1) := by decide +kernel
theorem dX7_readSum_6 : decode cX7_readSum 6 = .ok (.istore_n 2, 1) := by decide +kernel
theorem dX7_readSum_7 : decode cX7_readSum 7 = .ok (.iload_n 2, 1) := by decide +kernel
theorem dX7_readSum_8 : decode cX7_readSum 8 = .ok (.sipush 300, 3) := by decide +kernel
theorem dX7_readSum_11 : decode cX7_readSum 11 = .ok (.if_icmp .ge 63, 3) := by decide +kernel
theorem dX7_readSum_14 : decode cX7_readSum 14 = .ok (.aload_n 0, 1) := by decide +kernel
theorem dX7_readSum_15 : decode cX7_readSum 15 = .ok (.bipush 43, 2) := by decide +kernel
theorem dX7_readSum_17 : decode cX7_readSum 17 = .ok (.invokevirtual 160, 3) := by decide +kernel
theorem dX7_readSum_20 : decode cX7_readSum 20 = .ok (.ifCond .ne 12, 3) := by decide +kernel
theorem dX7_readSum_23 : decode cX7_readSum 23 = .ok (.aload_n 0, 1) := by decide +kernel
theorem dX7_readSum_24 : decode cX7_readSum 24 = .ok (.bipush 45, 2) := by decide +kernel
theorem dX7_readSum_26 : decode cX7_readSum 26 = .ok (.invokevirtual 160, 3) := by decide +kernel
theorem dX7_readSum_29 : decode cX7_readSum 29 = .ok (.ifCond .eq 45, 3) := by decide +kernel
theorem dX7_readSum_32 : decode cX7_readSum 32 = .ok (.aload_n 0, 1) := by decide +kernel
theorem dX7_readSum_33 : decode cX7_readSum 33 = .ok (.bipush 43, 2) := by decide +kernel
theorem dX7_readSum_35 : decode cX7_readSum 35 = .ok (.invokevirtual 160, 3) := by decide +kernel
theorem dX7_readSum_38 : decode cX7_readSum 38 = .ok (.ifCond .eq 8, 3) := by decide +kernel
theorem dX7_readSum_41 : decode cX7_readSum 41 = .ok (.bipush 6, 2) := by decide +kernel
theorem dX7_readSum_43 : decode cX7_readSum 43 = .ok (.goto 5, 3) := by decide +kernel
theorem dX7_readSum_46 : decode cX7_readSum 46 = .ok (.bipush 7, 2) := by decide +kernel
theorem dX7_readSum_48 : decode cX7_readSum 48 = .ok (.istore_n 3, 1) := by decide +kernel
theorem dX7_readSum_49 : decode cX7_readSum 49 = .ok (.aload_n 0, 1) := by decide +kernel
theorem dX7_readSum_50 : decode cX7_readSum 50 = .ok (.invokevirtual 49, 3) := by decide +kernel
theorem dX7_readSum_53 : decode cX7_readSum 53 = .ok (.aload_n 0, 1) := by decide +kernel
theorem dX7_readSum_54 : decode cX7_readSum 54 = .ok (.iload_n 1, 1) := by decide +kernel
theorem dX7_readSum_55 : decode cX7_readSum 55 = .ok (.invokevirtual 157, 3) := by decide +kernel
theorem dX7_readSum_58 : decode cX7_readSum 58 = .ok (.aload_n 0, 1) := by decide +kernel
theorem dX7_readSum_59 : decode cX7_readSum 59 = .ok (.getfield 34, 3) := by decide +kernel
theorem dX7_readSum_62 : decode cX7_readSum 62 = .ok (.iload_n 3, 1) := by decide +kernel
theorem dX7_readSum_63 : decode cX7_readSum 63 = .ok (.iconst 0, 1) := by decide +kernel
theorem dX7_readSum_64 : decode cX7_readSum 64 = .ok (.invokevirtual 165, 3) := by decide +kernel
theorem dX7_readSum_67 : decode cX7_readSum 67 = .ok (.pop, 1) := by decide +kernel
theorem dX7_readSum_68 : decode cX7_readSum 68 = .ok (.iinc 2 1, 3) := by decide +kernel
theorem dX7_readSum_71 : decode cX7_readSum 71 = .ok (.goto (-64), 3) := by decide +kernel
theorem dX7_readSum_74 : decode cX7_readSum 74 = .ok (.return_, 1) := by decide +kernel
theorem dX7_readProduct_0 : decode cX7_readProduct 0 = .ok (.aload_n 0, 1) := by decide +kernel
theorem dX7_readProduct_1 : decode cX7_readProduct 1 = .ok (.iload_n 1, 1) := by decide +kernel
theorem dX7_readProduct_2 : decode cX7_readProduct 2 = .ok (.invokevirtual 168, 3) := by decide +kernel
theorem dX7_readProduct_5 : decode cX7_readProduct 5 = .ok (.iconst 0, 1) := by decide +kernel
theorem dX7_readProduct_6 : decode cX7_readProduct 6 = .ok (.istore_n 2, 1) := by decide +kernel
theorem dX7_readProduct_7 : decode cX7_readProduct 7 = .ok (.iload_n 2, 1) := by decide +kernel
theorem dX7_readProduct_8 : decode cX7_readProduct 8 = .ok (.sipush 300, 3) := by decide +kernel
theorem dX7_readProduct_11 : decode cX7_readProduct 11 = .ok (.if_icmp .ge 63, 3) := by decide +kernel
theorem dX7_readProduct_14 : decode cX7_readProduct 14 = .ok (.aload_n 0, 1) := by decide +kernel
theorem dX7_readProduct_15 : decode cX7_readProduct 15 = .ok (.bipush 42, 2) := by decide +kernel
theorem dX7_readProduct_17 : decode cX7_readProduct 17 = .ok (.invokevirtual 160, 3) := by decide +kernel
theorem dX7_readProduct_20 : decode cX7_readProduct 20 = .ok (.ifCond .ne 12, 3) := by decide +kernel
theorem dX7_readProduct_23 : decode cX7_readProduct 23 = .ok (.aload_n 0, 1) := by decide +kernel
theorem dX7_readProduct_24 : decode cX7_readProduct 24 = .ok (.bipush 47, 2) := by decide +kernel
theorem dX7_readProduct_26 : decode cX7_readProduct 26 = .ok (.invokevirtual 160, 3) := by decide +kernel
theorem dX7_readProduct_29 : decode cX7_readProduct 29 = .ok (.ifCond .eq 45, 3) := by decide +kernel
theorem dX7_readProduct_32 : decode cX7_readProduct 32 = .ok (.aload_n 0, 1) := by decide +kernel
theorem dX7_readProduct_33 : decode cX7_readProduct 33 = .ok (.bipush 42, 2) := by decide +kernel
theorem dX7_readProduct_35 : decode cX7_readProduct 35 = .ok (.invokevirtual 160, 3) := by decide +kernel
theorem dX7_readProduct_38 : decode cX7_readProduct 38 = .ok (.ifCond .eq 8, 3) := by decide +kernel
theorem dX7_readProduct_41 : decode cX7_readProduct 41 = .ok (.bipush 8, 2) := by decide +kernel
theorem dX7_readProduct_43 : decode cX7_readProduct 43 = .ok (.goto 5, 3) := by decide +kernel
theorem dX7_readProduct_46 : decode cX7_readProduct 46 = .ok (.bipush 9, 2) := by decide +kernel
theorem dX7_readProduct_48 : decode cX7_readProduct 48 = .ok (.istore_n 3, 1) := by decide +kernel
theorem dX7_readProduct_49 : decode cX7_readProduct 49 = .ok (.aload_n 0, 1) := by decide +kernel
theorem dX7_readProduct_50 : decode cX7_readProduct 50 = .ok (.invokevirtual 49, 3) := by decide +kernel
theorem dX7_readProduct_53 : decode cX7_readProduct 53 = .ok (.aload_n 0, 1) := by decide +kernel
theorem dX7_readProduct_54 : decode cX7_readProduct 54 = .ok (.iload_n 1, 1) := by decide +kernel
theorem dX7_readProduct_55 : decode cX7_readProduct 55 = .ok (.invokevirtual 168, 3) := by decide +kernel
theorem dX7_readProduct_58 : decode cX7_readProduct 58 = .ok (.aload_n 0, 1) := by decide +kernel
theorem dX7_readProduct_59 : decode cX7_readProduct 59 = .ok (.getfield 34, 3) := by decide +kernel
theorem dX7_readProduct_62 : decode cX7_readProduct 62 = .ok (.iload_n 3, 1) := by decide +kernel
theorem dX7_readProduct_63 : decode cX7_readProduct 63 = .ok (.iconst 0, 1) := by decide +kernel
theorem dX7_readProduct_64 : decode cX7_readProduct 64 = .ok (.invokevirtual 165, 3) := by decide +kernel
theorem dX7_readProduct_67 : decode cX7_readProduct 67 = .ok (.pop, 1) := by decide +kernel
theorem dX7_readProduct_68 : decode cX7_readProduct 68 = .ok (.iinc 2 1, 3) := by decide +kernel
theorem dX7_readProduct_71 : decode cX7_readProduct 71 = .ok (.goto (-64), 3) := by decide +kernel
theorem dX7_readProduct_74 : decode cX7_readProduct 74 = .ok (.return_, 1) := by decide +kernel
theorem dX7_readOne_0 : decode cX7_readOne 0 = .ok (.aload_n 0, 1) := by decide +kernel
theorem dX7_readOne_1 : decode cX7_readOne 1 = .ok (.getfield 52, 3) := by decide +kernel
theorem dX7_readOne_4 : decode cX7_readOne 4 = .ok (.iconst 2, 1) := by decide +kernel
theorem dX7_readOne_5 : decode cX7_readOne 5 = .ok (.if_icmp .ne 23, 3) := by decide +kernel
theorem dX7_readOne_8 : decode cX7_readOne 8 = .ok (.aload_n 0, 1) := by decide +kernel
theorem dX7_readOne_9 : decode cX7_readOne 9 = .ok (.getfield 34, 3) := by decide +kernel
theorem dX7_readOne_12 : decode cX7_readOne 12 = .ok (.iconst 0, 1) := by decide +kernel
theorem dX7_readOne_13 : decode cX7_readOne 13 = .ok (.aload_n 0, 1) := by decide +kernel
theorem dX7_readOne_14 : decode cX7_readOne 14 = .ok (.iconst 0, 1) := by decide +kernel
theorem dX7_readOne_15 : decode cX7_readOne 15 = .ok (.sipush 9999, 3) := by decide +kernel
theorem dX7_readOne_18 : decode cX7_readOne 18 = .ok (.invokevirtual 148, 3) := by decide +kernel
theorem dX7_readOne_21 : decode cX7_readOne 21 = .ok (.invokevirtual 165, 3) := by decide +kernel
theorem dX7_readOne_24 : decode cX7_readOne 24 = .ok (.pop, 1) := by decide +kernel
theorem dX7_readOne_25 : decode cX7_readOne 25 = .ok (.goto 116, 3) := by decide +kernel
theorem dX7_readOne_28 : decode cX7_readOne 28 = .ok (.aload_n 0, 1) := by decide +kernel
theorem dX7_readOne_29 : decode cX7_readOne 29 = .ok (.bipush 40, 2) := by decide +kernel
theorem dX7_readOne_31 : decode cX7_readOne 31 = .ok (.invokevirtual 160, 3) := by decide +kernel
theorem dX7_readOne_34 : decode cX7_readOne 34 = .ok (.ifCond .eq 31, 3) := by decide +kernel
theorem dX7_readOne_37 : decode cX7_readOne 37 = .ok (.aload_n 0, 1) := by decide +kernel
theorem dX7_readOne_38 : decode cX7_readOne 38 = .ok (.iload_n 1, 1) := by decide +kernel
theorem dX7_readOne_39 : decode cX7_readOne 39 = .ok (.invokevirtual 171, 3) := by decide +kernel
theorem dX7_readOne_42 : decode cX7_readOne 42 = .ok (.ifCond .eq 99, 3) := by decide +kernel
theorem dX7_readOne_45 : decode cX7_readOne 45 = .ok (.aload_n 0, 1) := by decide +kernel
theorem dX7_readOne_46 : decode cX7_readOne 46 = .ok (.invokevirtual 49, 3) := by decide +kernel
theorem dX7_readOne_49 : decode cX7_readOne 49 = .ok (.aload_n 0, 1) := by decide +kernel
theorem dX7_readOne_50 : decode cX7_readOne 50 = .ok (.iload_n 1, 1) := by decide +kernel
theorem dX7_readOne_51 : decode cX7_readOne 51 = .ok (.iconst 1, 1) := by decide +kernel
theorem dX7_readOne_52 : decode cX7_readOne 52 = .ok (.iadd, 1) := by decide +kernel
theorem dX7_readOne_53 : decode cX7_readOne 53 = .ok (.invokevirtual 136, 3) := by decide +kernel
theorem dX7_readOne_56 : decode cX7_readOne 56 = .ok (.aload_n 0, 1) := by decide +kernel
theorem dX7_readOne_57 : decode cX7_readOne 57 = .ok (.bipush 41, 2) := by decide +kernel
theorem dX7_readOne_59 : decode cX7_readOne 59 = .ok (.invokevirtual 145, 3) := by decide +kernel
theorem dX7_readOne_62 : decode cX7_readOne 62 = .ok (.goto 79, 3) := by decide +kernel
theorem dX7_readOne_65 : decode cX7_readOne 65 = .ok (.aload_n 0, 1) := by decide +kernel
theorem dX7_readOne_66 : decode cX7_readOne 66 = .ok (.bipush 45, 2) := by decide +kernel
theorem dX7_readOne_68 : decode cX7_readOne 68 = .ok (.invokevirtual 160, 3) := by decide +kernel
theorem dX7_readOne_71 : decode cX7_readOne 71 = .ok (.ifCond .eq 35, 3) := by decide +kernel
theorem dX7_readOne_74 : decode cX7_readOne 74 = .ok (.aload_n 0, 1) := by decide +kernel
theorem dX7_readOne_75 : decode cX7_readOne 75 = .ok (.iload_n 1, 1) := by decide +kernel
theorem dX7_readOne_76 : decode cX7_readOne 76 = .ok (.invokevirtual 171, 3) := by decide +kernel
theorem dX7_readOne_79 : decode cX7_readOne 79 = .ok (.ifCond .eq 62, 3) := by decide +kernel
theorem dX7_readOne_82 : decode cX7_readOne 82 = .ok (.aload_n 0, 1) := by decide +kernel
theorem dX7_readOne_83 : decode cX7_readOne 83 = .ok (.invokevirtual 49, 3) := by decide +kernel
theorem dX7_readOne_86 : decode cX7_readOne 86 = .ok (.aload_n 0, 1) := by decide +kernel
theorem dX7_readOne_87 : decode cX7_readOne 87 = .ok (.iload_n 1, 1) := by decide +kernel
theorem dX7_readOne_88 : decode cX7_readOne 88 = .ok (.iconst 1, 1) := by decide +kernel
theorem dX7_readOne_89 : decode cX7_readOne 89 = .ok (.iadd, 1) := by decide +kernel
theorem dX7_readOne_90 : decode cX7_readOne 90 = .ok (.invokevirtual 168, 3) := by decide +kernel
theorem dX7_readOne_93 : decode cX7_readOne 93 = .ok (.aload_n 0, 1) := by decide +kernel
theorem dX7_readOne_94 : decode cX7_readOne 94 = .ok (.getfield 34, 3) := by decide +kernel
theorem dX7_readOne_97 : decode cX7_readOne 97 = .ok (.iconst 4, 1) := by decide +kernel
theorem dX7_readOne_98 : decode cX7_readOne 98 = .ok (.iconst 0, 1) := by decide +kernel
theorem dX7_readOne_99 : decode cX7_readOne 99 = .ok (.invokevirtual 165, 3) := by decide +kernel
theorem dX7_readOne_102 : decode cX7_readOne 102 = .ok (.pop, 1) := by decide +kernel
theorem dX7_readOne_103 : decode cX7_readOne 103 = .ok (.goto 38, 3) := by decide +kernel
theorem dX7_readOne_106 : decode cX7_readOne 106 = .ok (.aload_n 0, 1) := by decide +kernel
theorem dX7_readOne_107 : decode cX7_readOne 107 = .ok (.bipush 14, 2) := by decide +kernel
theorem dX7_readOne_109 : decode cX7_readOne 109 = .ok (.invokevirtual 174, 3) := by decide +kernel
theorem dX7_readOne_112 : decode cX7_readOne 112 = .ok (.ifCond .eq 25, 3) := by decide +kernel
theorem dX7_readOne_115 : decode cX7_readOne 115 = .ok (.aload_n 0, 1) := by decide +kernel
theorem dX7_readOne_116 : decode cX7_readOne 116 = .ok (.iload_n 1, 1) := by decide +kernel
theorem dX7_readOne_117 : decode cX7_readOne 117 = .ok (.invokevirtual 171, 3) := by decide +kernel
theorem dX7_readOne_120 : decode cX7_readOne 120 = .ok (.ifCond .eq 21, 3) := by decide +kernel
theorem dX7_readOne_123 : decode cX7_readOne 123 = .ok (.aload_n 0, 1) := by decide +kernel
theorem dX7_readOne_124 : decode cX7_readOne 124 = .ok (.invokevirtual 49, 3) := by decide +kernel
theorem dX7_readOne_127 : decode cX7_readOne 127 = .ok (.aload_n 0, 1) := by decide +kernel
theorem dX7_readOne_128 : decode cX7_readOne 128 = .ok (.iload_n 1, 1) := by decide +kernel
theorem dX7_readOne_129 : decode cX7_readOne 129 = .ok (.iconst 1, 1) := by decide +kernel
theorem dX7_readOne_130 : decode cX7_readOne 130 = .ok (.iadd, 1) := by decide +kernel
theorem dX7_readOne_131 : decode cX7_readOne 131 = .ok (.invokevirtual 177, 3) := by decide +kernel
theorem dX7_readOne_134 : decode cX7_readOne 134 = .ok (.goto 7, 3) := by decide +kernel
theorem dX7_readOne_137 : decode cX7_readOne 137 = .ok (.aload_n 0, 1) := by decide +kernel
theorem dX7_readOne_138 : decode cX7_readOne 138 = .ok (.invokevirtual 180, 3) := by decide +kernel
theorem dX7_readOne_141 : decode cX7_readOne 141 = .ok (.return_, 1) := by decide +kernel
theorem dX7_readName_0 : decode cX7_readName 0 = .ok (.aload_n 0, 1) := by decide +kernel
theorem dX7_readName_1 : decode cX7_readName 1 = .ok (.getfield 52, 3) := by decide +kernel
theorem dX7_readName_4 : decode cX7_readName 4 = .ok (.iconst 3, 1) := by decide +kernel
theorem dX7_readName_5 : decode cX7_readName 5 = .ok (.if_icmp .ne 21, 3) := by decide +kernel
theorem dX7_readName_8 : decode cX7_readName 8 = .ok (.aload_n 0, 1) := by decide +kernel
theorem dX7_readName_9 : decode cX7_readName 9 = .ok (.getfield 111, 3) := by decide +kernel
theorem dX7_readName_12 : decode cX7_readName 12 = .ok (.bipush 21, 2) := by decide +kernel
theorem dX7_readName_14 : decode cX7_readName 14 = .ok (.if_icmp .lt 12, 3) := by decide +kernel
theorem dX7_readName_17 : decode cX7_readName 17 = .ok (.aload_n 0, 1) := by decide +kernel
theorem dX7_readName_18 : decode cX7_readName 18 = .ok (.getfield 111, 3) := by decide +kernel
theorem dX7_readName_21 : decode cX7_readName 21 = .ok (.bipush 32, 2) := by decide +kernel
theorem dX7_readName_23 : decode cX7_readName 23 = .ok (.if_icmp .lt 11, 3) := by decide +kernel
theorem dX7_readName_26 : decode cX7_readName 26 = .ok (.aload_n 0, 1) := by decide +kernel
theorem dX7_readName_27 : decode cX7_readName 27 = .ok (.iconst 1, 1) := by decide +kernel
theorem dX7_readName_28 : decode cX7_readName 28 = .ok (.invokevirtual 117, 3) := by decide +kernel
theorem dX7_readName_31 : decode cX7_readName 31 = .ok (.goto 45, 3) := by decide +kernel
theorem dX7_readName_34 : decode cX7_readName 34 = .ok (.aload_n 0, 1) := by decide +kernel
theorem dX7_readName_35 : decode cX7_readName 35 = .ok (.aload_n 0, 1) := by decide +kernel
theorem dX7_readName_36 : decode cX7_readName 36 = .ok (.getfield 111, 3) := by decide +kernel
theorem dX7_readName_39 : decode cX7_readName 39 = .ok (.bipush 21, 2) := by decide +kernel
theorem dX7_readName_41 : decode cX7_readName 41 = .ok (.isub, 1) := by decide +kernel
theorem dX7_readName_42 : decode cX7_readName 42 = .ok (.invokevirtual 183, 3) := by decide +kernel
theorem dX7_readName_45 : decode cX7_readName 45 = .ok (.ifCond .ne 11, 3) := by decide +kernel
theorem dX7_readName_48 : decode cX7_readName 48 = .ok (.aload_n 0, 1) := by decide +kernel
theorem dX7_readName_49 : decode cX7_readName 49 = .ok (.iconst 5, 1) := by decide +kernel
theorem dX7_readName_50 : decode cX7_readName 50 = .ok (.invokevirtual 117, 3) := by decide +kernel
theorem dX7_readName_53 : decode cX7_readName 53 = .ok (.goto 23, 3) := by decide +kernel
theorem dX7_readName_56 : decode cX7_readName 56 = .ok (.aload_n 0, 1) := by decide +kernel
theorem dX7_readName_57 : decode cX7_readName 57 = .ok (.getfield 34, 3) := by decide +kernel
theorem dX7_readName_60 : decode cX7_readName 60 = .ok (.iconst 1, 1) := by decide +kernel
theorem dX7_readName_61 : decode cX7_readName 61 = .ok (.aload_n 0, 1) := by decide +kernel
theorem dX7_readName_62 : decode cX7_readName 62 = .ok (.getfield 111, 3) := by decide +kernel
theorem dX7_readName_65 : decode cX7_readName 65 = .ok (.bipush 21, 2) := by decide +kernel
theorem dX7_readName_67 : decode cX7_readName 67 = .ok (.isub, 1) := by decide +kernel
theorem dX7_readName_68 : decode cX7_readName 68 = .ok (.invokevirtual 165, 3) := by decide +kernel
theorem dX7_readName_71 : decode cX7_readName 71 = .ok (.pop, 1) := by decide +kernel
theorem dX7_readName_72 : decode cX7_readName 72 = .ok (.aload_n 0, 1) := by decide +kernel
theorem dX7_readName_73 : decode cX7_readName 73 = .ok (.invokevirtual 49, 3) := by decide +kernel
theorem dX7_readName_76 : decode cX7_readName 76 = .ok (.return_, 1) := by decide +kernel
theorem dX7_isOfClause_0 : decode cX7_isOfClause 0 = .ok (.iload_n 1, 1) := by decide +kernel
theorem dX7_isOfClause_1 : decode cX7_isOfClause 1 = .ok (.bipush 9, 2) := by decide +kernel
theorem dX7_isOfClause_3 : decode cX7_isOfClause 3 = .ok (.if_icmp .ne 17, 3) := by decide +kernel
theorem dX7_isOfClause_6 : decode cX7_isOfClause 6 = .ok (.aload_n 0, 1) := by decide +kernel
theorem dX7_isOfClause_7 : decode cX7_isOfClause 7 = .ok (.getfield 130, 3) := by decide +kernel
theorem dX7_isOfClause_10 : decode cX7_isOfClause 10 = .ok (.iconst 3, 1) := by decide +kernel
theorem dX7_isOfClause_11 : decode cX7_isOfClause 11 = .ok (.if_icmp .ne 7, 3) := by decide +kernel
theorem dX7_isOfClause_14 : decode cX7_isOfClause 14 = .ok (.iconst 1, 1) := by decide +kernel
theorem dX7_isOfClause_15 : decode cX7_isOfClause 15 = .ok (.goto 4, 3) := by decide +kernel
theorem dX7_isOfClause_18 : decode cX7_isOfClause 18 = .ok (.iconst 0, 1) := by decide +kernel
theorem dX7_isOfClause_19 : decode cX7_isOfClause 19 = .ok (.ireturn, 1) := by decide +kernel
theorem dX7_isOfClause_20 : decode cX7_isOfClause 20 = .ok (.iload_n 1, 1) := by decide +kernel
theorem dX7_isOfClause_21 : decode cX7_isOfClause 21 = .ok (.bipush 10, 2) := by decide +kernel
theorem dX7_isOfClause_23 : decode cX7_isOfClause 23 = .ok (.if_icmp .ne 17, 3) := by decide +kernel
theorem dX7_isOfClause_26 : decode cX7_isOfClause 26 = .ok (.aload_n 0, 1) := by decide +kernel
theorem dX7_isOfClause_27 : decode cX7_isOfClause 27 = .ok (.getfield 130, 3) := by decide +kernel
theorem dX7_isOfClause_30 : decode cX7_isOfClause 30 = .ok (.iconst 4, 1) := by decide +kernel
theorem dX7_isOfClause_31 : decode cX7_isOfClause 31 = .ok (.if_icmp .ne 7, 3) := by decide +kernel
theorem dX7_isOfClause_34 : decode cX7_isOfClause 34 = .ok (.iconst 1, 1) := by decide +kernel
theorem dX7_isOfClause_35 : decode cX7_isOfClause 35 = .ok (.goto 4, 3) := by decide +kernel
theorem dX7_isOfClause_38 : decode cX7_isOfClause 38 = .ok (.iconst 0, 1) := by decide +kernel
theorem dX7_isOfClause_39 : decode cX7_isOfClause 39 = .ok (.ireturn, 1) := by decide +kernel
theorem dX7_isOfClause_40 : decode cX7_isOfClause 40 = .ok (.iload_n 1, 1) := by decide +kernel
theorem dX7_isOfClause_41 : decode cX7_isOfClause 41 = .ok (.iconst 3, 1) := by decide +kernel
theorem dX7_isOfClause_42 : decode cX7_isOfClause 42 = .ok (.if_icmp .lt 26, 3) := by decide +kernel
theorem dX7_isOfClause_45 : decode cX7_isOfClause 45 = .ok (.aload_n 0, 1) := by decide +kernel
theorem dX7_isOfClause_46 : decode cX7_isOfClause 46 = .ok (.getfield 130, 3) := by decide +kernel
theorem dX7_isOfClause_49 : decode cX7_isOfClause 49 = .ok (.ifCond .eq 19, 3) := by decide +kernel
theorem dX7_isOfClause_52 : decode cX7_isOfClause 52 = .ok (.aload_n 0, 1) := by decide +kernel
theorem dX7_isOfClause_53 : decode cX7_isOfClause 53 = .ok (.getfield 130, 3) := by decide +kernel
theorem dX7_isOfClause_56 : decode cX7_isOfClause 56 = .ok (.iconst 1, 1) := by decide +kernel
theorem dX7_isOfClause_57 : decode cX7_isOfClause 57 = .ok (.if_icmp .eq 11, 3) := by decide +kernel
theorem dX7_isOfClause_60 : decode cX7_isOfClause 60 = .ok (.aload_n 0, 1) := by decide +kernel
theorem dX7_isOfClause_61 : decode cX7_isOfClause 61 = .ok (.getfield 130, 3) := by decide +kernel
theorem dX7_isOfClause_64 : decode cX7_isOfClause 64 = .ok (.iconst 2, 1) := by decide +kernel
theorem dX7_isOfClause_65 : decode cX7_isOfClause 65 = .ok (.if_icmp .ne 7, 3) := by decide +kernel
theorem dX7_isOfClause_68 : decode cX7_isOfClause 68 = .ok (.iconst 1, 1) := by decide +kernel
theorem dX7_isOfClause_69 : decode cX7_isOfClause 69 = .ok (.goto 4, 3) := by decide +kernel
theorem dX7_isOfClause_72 : decode cX7_isOfClause 72 = .ok (.iconst 0, 1) := by decide +kernel
theorem dX7_isOfClause_73 : decode cX7_isOfClause 73 = .ok (.ireturn, 1) := by decide +kernel
theorem dX7_readChoice_0 : decode cX7_readChoice 0 = .ok (.aload_n 0, 1) := by decide +kernel
theorem dX7_readChoice_1 : decode cX7_readChoice 1 = .ok (.iload_n 1, 1) := by decide +kernel
theorem dX7_readChoice_2 : decode cX7_readChoice 2 = .ok (.invokevirtual 186, 3) := by decide +kernel
theorem dX7_readChoice_5 : decode cX7_readChoice 5 = .ok (.aload_n 0, 1) := by decide +kernel
theorem dX7_readChoice_6 : decode cX7_readChoice 6 = .ok (.bipush 15, 2) := by decide +kernel
theorem dX7_readChoice_8 : decode cX7_readChoice 8 = .ok (.invokevirtual 151, 3) := by decide +kernel
theorem dX7_readChoice_11 : decode cX7_readChoice 11 = .ok (.aload_n 0, 1) := by decide +kernel
theorem dX7_readChoice_12 : decode cX7_readChoice 12 = .ok (.getfield 34, 3) := by decide +kernel
theorem dX7_readChoice_15 : decode cX7_readChoice 15 = .ok (.iconst 3, 1) := by decide +kernel
theorem dX7_readChoice_16 : decode cX7_readChoice 16 = .ok (.iconst 0, 1) := by decide +kernel
theorem dX7_readChoice_17 : decode cX7_readChoice 17 = .ok (.invokevirtual 165, 3) := by decide +kernel
theorem dX7_readChoice_20 : decode cX7_readChoice 20 = .ok (.istore_n 2, 1) := by decide +kernel
theorem dX7_readChoice_21 : decode cX7_readChoice 21 = .ok (.aload_n 0, 1) := by decide +kernel
theorem dX7_readChoice_22 : decode cX7_readChoice 22 = .ok (.iload_n 1, 1) := by decide +kernel
theorem dX7_readChoice_23 : decode cX7_readChoice 23 = .ok (.invokevirtual 136, 3) := by decide +kernel
theorem dX7_readChoice_26 : decode cX7_readChoice 26 = .ok (.aload_n 0, 1) := by decide +kernel
theorem dX7_readChoice_27 : decode cX7_readChoice 27 = .ok (.bipush 16, 2) := by decide +kernel
theorem dX7_readChoice_29 : decode cX7_readChoice 29 = .ok (.invokevirtual 151, 3) := by decide +kernel
theorem dX7_readChoice_32 : decode cX7_readChoice 32 = .ok (.aload_n 0, 1) := by decide +kernel
theorem dX7_readChoice_33 : decode cX7_readChoice 33 = .ok (.getfield 34, 3) := by decide +kernel
theorem dX7_readChoice_36 : decode cX7_readChoice 36 = .ok (.iconst 2, 1) := by decide +kernel
theorem dX7_readChoice_37 : decode cX7_readChoice 37 = .ok (.iconst 0, 1) := by decide +kernel
theorem dX7_readChoice_38 : decode cX7_readChoice 38 = .ok (.invokevirtual 165, 3) := by decide +kernel
theorem dX7_readChoice_41 : decode cX7_readChoice 41 = .ok (.istore_n 3, 1) := by decide +kernel
theorem dX7_readChoice_42 : decode cX7_readChoice 42 = .ok (.aload_n 0, 1) := by decide +kernel
theorem dX7_readChoice_43 : decode cX7_readChoice 43 = .ok (.getfield 34, 3) := by decide +kernel
theorem dX7_readChoice_46 : decode cX7_readChoice 46 = .ok (.iload_n 2, 1) := by decide +kernel
theorem dX7_readChoice_47 : decode cX7_readChoice 47 = .ok (.invokevirtual 189, 3) := by decide +kernel
theorem dX7_readChoice_50 : decode cX7_readChoice 50 = .ok (.aload_n 0, 1) := by decide +kernel
theorem dX7_readChoice_51 : decode cX7_readChoice 51 = .ok (.iload_n 1, 1) := by decide +kernel
theorem dX7_readChoice_52 : decode cX7_readChoice 52 = .ok (.invokevirtual 136, 3) := by decide +kernel
theorem dX7_readChoice_55 : decode cX7_readChoice 55 = .ok (.aload_n 0, 1) := by decide +kernel
theorem dX7_readChoice_56 : decode cX7_readChoice 56 = .ok (.bipush 17, 2) := by decide +kernel
theorem dX7_readChoice_58 : decode cX7_readChoice 58 = .ok (.invokevirtual 151, 3) := by decide +kernel
theorem dX7_readChoice_61 : decode cX7_readChoice 61 = .ok (.aload_n 0, 1) := by decide +kernel
theorem dX7_readChoice_62 : decode cX7_readChoice 62 = .ok (.getfield 34, 3) := by decide +kernel
theorem dX7_readChoice_65 : decode cX7_readChoice 65 = .ok (.iload_n 3, 1) := by decide +kernel
theorem dX7_readChoice_66 : decode cX7_readChoice 66 = .ok (.invokevirtual 189, 3) := by decide +kernel
theorem dX7_readChoice_69 : decode cX7_readChoice 69 = .ok (.return_, 1) := by decide +kernel
theorem dX7_readEither_0 : decode cX7_readEither 0 = .ok (.aload_n 0, 1) := by decide +kernel
theorem dX7_readEither_1 : decode cX7_readEither 1 = .ok (.iload_n 1, 1) := by decide +kernel
theorem dX7_readEither_2 : decode cX7_readEither 2 = .ok (.invokevirtual 192, 3) := by decide +kernel
theorem dX7_readEither_5 : decode cX7_readEither 5 = .ok (.iconst 0, 1) := by decide +kernel
theorem dX7_readEither_6 : decode cX7_readEither 6 = .ok (.istore_n 2, 1) := by decide +kernel
theorem dX7_readEither_7 : decode cX7_readEither 7 = .ok (.iload_n 2, 1) := by decide +kernel
theorem dX7_readEither_8 : decode cX7_readEither 8 = .ok (.sipush 300, 3) := by decide +kernel
theorem dX7_readEither_11 : decode cX7_readEither 11 = .ok (.if_icmp .ge 38, 3) := by decide +kernel
theorem dX7_readEither_14 : decode cX7_readEither 14 = .ok (.aload_n 0, 1) := by decide +kernel
theorem dX7_readEither_15 : decode cX7_readEither 15 = .ok (.bipush 18, 2) := by decide +kernel
theorem dX7_readEither_17 : decode cX7_readEither 17 = .ok (.invokevirtual 174, 3) := by decide +kernel
theorem dX7_readEither_20 : decode cX7_readEither 20 = .ok (.ifCond .eq 29, 3) := by decide +kernel
theorem dX7_readEither_23 : decode cX7_readEither 23 = .ok (.aload_n 0, 1) := by decide +kernel
theorem dX7_readEither_24 : decode cX7_readEither 24 = .ok (.invokevirtual 49, 3) := by decide +kernel
theorem dX7_readEither_27 : decode cX7_readEither 27 = .ok (.aload_n 0, 1) := by decide +kernel
theorem dX7_readEither_28 : decode cX7_readEither 28 = .ok (.iload_n 1, 1) := by decide +kernel
theorem dX7_readEither_29 : decode cX7_readEither 29 = .ok (.invokevirtual 192, 3) := by decide +kernel
theorem dX7_readEither_32 : decode cX7_readEither 32 = .ok (.aload_n 0, 1) := by decide +kernel
theorem dX7_readEither_33 : decode cX7_readEither 33 = .ok (.getfield 34, 3) := by decide +kernel
theorem dX7_readEither_36 : decode cX7_readEither 36 = .ok (.bipush 17, 2) := by decide +kernel
theorem dX7_readEither_38 : decode cX7_readEither 38 = .ok (.iconst 0, 1) := by decide +kernel
theorem dX7_readEither_39 : decode cX7_readEither 39 = .ok (.invokevirtual 165, 3) := by decide +kernel
theorem dX7_readEither_42 : decode cX7_readEither 42 = .ok (.pop, 1) := by decide +kernel
theorem dX7_readEither_43 : decode cX7_readEither 43 = .ok (.iinc 2 1, 3) := by decide +kernel
theorem dX7_readEither_46 : decode cX7_readEither 46 = .ok (.goto (-39), 3) := by decide +kernel
theorem dX7_readEither_49 : decode cX7_readEither 49 = .ok (.return_, 1) := by decide +kernel
theorem dX7_readBoth_0 : decode cX7_readBoth 0 = .ok (.aload_n 0, 1) := by decide +kernel
theorem dX7_readBoth_1 : decode cX7_readBoth 1 = .ok (.iload_n 1, 1) := by decide +kernel
theorem dX7_readBoth_2 : decode cX7_readBoth 2 = .ok (.invokevirtual 195, 3) := by decide +kernel
theorem dX7_readBoth_5 : decode cX7_readBoth 5 = .ok (.iconst 0, 1) := by decide +kernel
theorem dX7_readBoth_6 : decode cX7_readBoth 6 = .ok (.istore_n 2, 1) := by decide +kernel
theorem dX7_readBoth_7 : decode cX7_readBoth 7 = .ok (.iload_n 2, 1) := by decide +kernel
theorem dX7_readBoth_8 : decode cX7_readBoth 8 = .ok (.sipush 300, 3) := by decide +kernel
theorem dX7_readBoth_11 : decode cX7_readBoth 11 = .ok (.if_icmp .ge 38, 3) := by decide +kernel
theorem dX7_readBoth_14 : decode cX7_readBoth 14 = .ok (.aload_n 0, 1) := by decide +kernel
theorem dX7_readBoth_15 : decode cX7_readBoth 15 = .ok (.bipush 19, 2) := by decide +kernel
theorem dX7_readBoth_17 : decode cX7_readBoth 17 = .ok (.invokevirtual 174, 3) := by decide +kernel
theorem dX7_readBoth_20 : decode cX7_readBoth 20 = .ok (.ifCond .eq 29, 3) := by decide +kernel
theorem dX7_readBoth_23 : decode cX7_readBoth 23 = .ok (.aload_n 0, 1) := by decide +kernel
theorem dX7_readBoth_24 : decode cX7_readBoth 24 = .ok (.invokevirtual 49, 3) := by decide +kernel
theorem dX7_readBoth_27 : decode cX7_readBoth 27 = .ok (.aload_n 0, 1) := by decide +kernel
theorem dX7_readBoth_28 : decode cX7_readBoth 28 = .ok (.iload_n 1, 1) := by decide +kernel
theorem dX7_readBoth_29 : decode cX7_readBoth 29 = .ok (.invokevirtual 195, 3) := by decide +kernel
theorem dX7_readBoth_32 : decode cX7_readBoth 32 = .ok (.aload_n 0, 1) := by decide +kernel
theorem dX7_readBoth_33 : decode cX7_readBoth 33 = .ok (.getfield 34, 3) := by decide +kernel
theorem dX7_readBoth_36 : decode cX7_readBoth 36 = .ok (.bipush 16, 2) := by decide +kernel
theorem dX7_readBoth_38 : decode cX7_readBoth 38 = .ok (.iconst 0, 1) := by decide +kernel
theorem dX7_readBoth_39 : decode cX7_readBoth 39 = .ok (.invokevirtual 165, 3) := by decide +kernel
theorem dX7_readBoth_42 : decode cX7_readBoth 42 = .ok (.pop, 1) := by decide +kernel
theorem dX7_readBoth_43 : decode cX7_readBoth 43 = .ok (.iinc 2 1, 3) := by decide +kernel
theorem dX7_readBoth_46 : decode cX7_readBoth 46 = .ok (.goto (-39), 3) := by decide +kernel
theorem dX7_readBoth_49 : decode cX7_readBoth 49 = .ok (.return_, 1) := by decide +kernel
theorem dX7_readAsk_0 : decode cX7_readAsk 0 = .ok (.aload_n 0, 1) := by decide +kernel
theorem dX7_readAsk_1 : decode cX7_readAsk 1 = .ok (.bipush 20, 2) := by decide +kernel
theorem dX7_readAsk_3 : decode cX7_readAsk 3 = .ok (.invokevirtual 174, 3) := by decide +kernel
theorem dX7_readAsk_6 : decode cX7_readAsk 6 = .ok (.ifCond .eq 33, 3) := by decide +kernel
theorem dX7_readAsk_9 : decode cX7_readAsk 9 = .ok (.aload_n 0, 1) := by decide +kernel
theorem dX7_readAsk_10 : decode cX7_readAsk 10 = .ok (.iload_n 1, 1) := by decide +kernel
theorem dX7_readAsk_11 : decode cX7_readAsk 11 = .ok (.invokevirtual 171, 3) := by decide +kernel
theorem dX7_readAsk_14 : decode cX7_readAsk 14 = .ok (.ifCond .eq 24, 3) := by decide +kernel
theorem dX7_readAsk_17 : decode cX7_readAsk 17 = .ok (.aload_n 0, 1) := by decide +kernel
theorem dX7_readAsk_18 : decode cX7_readAsk 18 = .ok (.invokevirtual 49, 3) := by decide +kernel
theorem dX7_readAsk_21 : decode cX7_readAsk 21 = .ok (.aload_n 0, 1) := by decide +kernel
theorem dX7_readAsk_22 : decode cX7_readAsk 22 = .ok (.iload_n 1, 1) := by decide +kernel
theorem dX7_readAsk_23 : decode cX7_readAsk 23 = .ok (.iconst 1, 1) := by decide +kernel
theorem dX7_readAsk_24 : decode cX7_readAsk 24 = .ok (.iadd, 1) := by decide +kernel
theorem dX7_readAsk_25 : decode cX7_readAsk 25 = .ok (.invokevirtual 195, 3) := by decide +kernel
theorem dX7_readAsk_28 : decode cX7_readAsk 28 = .ok (.aload_n 0, 1) := by decide +kernel
theorem dX7_readAsk_29 : decode cX7_readAsk 29 = .ok (.getfield 34, 3) := by decide +kernel
theorem dX7_readAsk_32 : decode cX7_readAsk 32 = .ok (.iconst 5, 1) := by decide +kernel
theorem dX7_readAsk_33 : decode cX7_readAsk 33 = .ok (.iconst 0, 1) := by decide +kernel
theorem dX7_readAsk_34 : decode cX7_readAsk 34 = .ok (.invokevirtual 165, 3) := by decide +kernel
theorem dX7_readAsk_37 : decode cX7_readAsk 37 = .ok (.pop, 1) := by decide +kernel
theorem dX7_readAsk_38 : decode cX7_readAsk 38 = .ok (.return_, 1) := by decide +kernel
theorem dX7_readAsk_39 : decode cX7_readAsk 39 = .ok (.aload_n 0, 1) := by decide +kernel
theorem dX7_readAsk_40 : decode cX7_readAsk 40 = .ok (.iload_n 1, 1) := by decide +kernel
theorem dX7_readAsk_41 : decode cX7_readAsk 41 = .ok (.invokevirtual 136, 3) := by decide +kernel
theorem dX7_readAsk_44 : decode cX7_readAsk 44 = .ok (.aload_n 0, 1) := by decide +kernel
theorem dX7_readAsk_45 : decode cX7_readAsk 45 = .ok (.invokevirtual 198, 3) := by decide +kernel
theorem dX7_readAsk_48 : decode cX7_readAsk 48 = .ok (.istore_n 2, 1) := by decide +kernel
theorem dX7_readAsk_49 : decode cX7_readAsk 49 = .ok (.iload_n 2, 1) := by decide +kernel
theorem dX7_readAsk_50 : decode cX7_readAsk 50 = .ok (.iconst (-1), 1) := by decide +kernel
theorem dX7_readAsk_51 : decode cX7_readAsk 51 = .ok (.if_icmp .ne 9, 3) := by decide +kernel
theorem dX7_readAsk_54 : decode cX7_readAsk 54 = .ok (.aload_n 0, 1) := by decide +kernel
theorem dX7_readAsk_55 : decode cX7_readAsk 55 = .ok (.iconst 1, 1) := by decide +kernel
theorem dX7_readAsk_56 : decode cX7_readAsk 56 = .ok (.invokevirtual 117, 3) := by decide +kernel
theorem dX7_readAsk_59 : decode cX7_readAsk 59 = .ok (.return_, 1) := by decide +kernel
theorem dX7_readAsk_60 : decode cX7_readAsk 60 = .ok (.aload_n 0, 1) := by decide +kernel
theorem dX7_readAsk_61 : decode cX7_readAsk 61 = .ok (.invokevirtual 49, 3) := by decide +kernel
theorem dX7_readAsk_64 : decode cX7_readAsk 64 = .ok (.aload_n 0, 1) := by decide +kernel
theorem dX7_readAsk_65 : decode cX7_readAsk 65 = .ok (.iload_n 1, 1) := by decide +kernel
theorem dX7_readAsk_66 : decode cX7_readAsk 66 = .ok (.invokevirtual 136, 3) := by decide +kernel
theorem dX7_readAsk_69 : decode cX7_readAsk 69 = .ok (.aload_n 0, 1) := by decide +kernel
theorem dX7_readAsk_70 : decode cX7_readAsk 70 = .ok (.getfield 34, 3) := by decide +kernel
theorem dX7_readAsk_73 : decode cX7_readAsk 73 = .ok (.iload_n 2, 1) := by decide +kernel
theorem dX7_readAsk_74 : decode cX7_readAsk 74 = .ok (.iconst 0, 1) := by decide +kernel
theorem dX7_readAsk_75 : decode cX7_readAsk 75 = .ok (.invokevirtual 165, 3) := by decide +kernel
theorem dX7_readAsk_78 : decode cX7_readAsk 78 = .ok (.pop, 1) := by decide +kernel
theorem dX7_readAsk_79 : decode cX7_readAsk 79 = .ok (.return_, 1) := by decide +kernel
theorem dX7_comparison_0 : decode cX7_comparison 0 = .ok (.aload_n 0, 1) := by decide +kernel
theorem dX7_comparison_1 : decode cX7_comparison 1 = .ok (.getfield 52, 3) := by decide +kernel
theorem dX7_comparison_4 : decode cX7_comparison 4 = .ok (.iconst 4, 1) := by decide +kernel
theorem dX7_comparison_5 : decode cX7_comparison 5 = .ok (.if_icmp .eq 5, 3) := by decide +kernel
theorem dX7_comparison_8 : decode cX7_comparison 8 = .ok (.iconst (-1), 1) := by decide +kernel
theorem dX7_comparison_9 : decode cX7_comparison 9 = .ok (.ireturn, 1) := by decide +kernel
theorem dX7_comparison_10 : decode cX7_comparison 10 = .ok (.aload_n 0, 1) := by decide +kernel
theorem dX7_comparison_11 : decode cX7_comparison 11 = .ok (.getfield 111, 3) := by decide +kernel
theorem dX7_comparison_14 : decode cX7_comparison 14 = .ok (.lookupswitch 76 #[(35, 73), (60, 58), (61, 70), (62, 64), (316, 61), (318, 67)], 58) := by decide +kernel
theorem dX7_comparison_72 : decode cX7_comparison 72 = .ok (.bipush 10, 2) := by decide +kernel
theorem dX7_comparison_74 : decode cX7_comparison 74 = .ok (.ireturn, 1) := by decide +kernel
theorem dX7_comparison_75 : decode cX7_comparison 75 = .ok (.bipush 11, 2) := by decide +kernel
theorem dX7_comparison_77 : decode cX7_comparison 77 = .ok (.ireturn, 1) := by decide +kernel
theorem dX7_comparison_78 : decode cX7_comparison 78 = .ok (.bipush 12, 2) := by decide +kernel
theorem dX7_comparison_80 : decode cX7_comparison 80 = .ok (.ireturn, 1) := by decide +kernel
theorem dX7_comparison_81 : decode cX7_comparison 81 = .ok (.bipush 13, 2) := by decide +kernel
theorem dX7_comparison_83 : decode cX7_comparison 83 = .ok (.ireturn, 1) := by decide +kernel
theorem dX7_comparison_84 : decode cX7_comparison 84 = .ok (.bipush 14, 2) := by decide +kernel
theorem dX7_comparison_86 : decode cX7_comparison 86 = .ok (.ireturn, 1) := by decide +kernel
theorem dX7_comparison_87 : decode cX7_comparison 87 = .ok (.bipush 15, 2) := by decide +kernel
theorem dX7_comparison_89 : decode cX7_comparison 89 = .ok (.ireturn, 1) := by decide +kernel
theorem dX7_comparison_90 : decode cX7_comparison 90 = .ok (.iconst (-1), 1) := by decide +kernel
theorem dX7_comparison_91 : decode cX7_comparison 91 = .ok (.ireturn, 1) := by decide +kernel
theorem dX7_mayOpen_0 : decode cX7_mayOpen 0 = .ok (.iload_n 1, 1) := by decide +kernel
theorem dX7_mayOpen_1 : decode cX7_mayOpen 1 = .ok (.bipush 8, 2) := by decide +kernel
theorem dX7_mayOpen_3 : decode cX7_mayOpen 3 = .ok (.if_icmp .lt 10, 3) := by decide +kernel
theorem dX7_mayOpen_6 : decode cX7_mayOpen 6 = .ok (.aload_n 0, 1) := by decide +kernel
theorem dX7_mayOpen_7 : decode cX7_mayOpen 7 = .ok (.iconst 3, 1) := by decide +kernel
theorem dX7_mayOpen_8 : decode cX7_mayOpen 8 = .ok (.invokevirtual 117, 3) := by decide +kernel
theorem dX7_mayOpen_11 : decode cX7_mayOpen 11 = .ok (.iconst 0, 1) := by decide +kernel
theorem dX7_mayOpen_12 : decode cX7_mayOpen 12 = .ok (.ireturn, 1) := by decide +kernel
theorem dX7_mayOpen_13 : decode cX7_mayOpen 13 = .ok (.iconst 1, 1) := by decide +kernel
theorem dX7_mayOpen_14 : decode cX7_mayOpen 14 = .ok (.ireturn, 1) := by decide +kernel
theorem dX7_isSign_0 : decode cX7_isSign 0 = .ok (.aload_n 0, 1) := by decide +kernel
theorem dX7_isSign_1 : decode cX7_isSign 1 = .ok (.getfield 52, 3) := by decide +kernel
theorem dX7_isSign_4 : decode cX7_isSign 4 = .ok (.iconst 4, 1) := by decide +kernel
theorem dX7_isSign_5 : decode cX7_isSign 5 = .ok (.if_icmp .ne 15, 3) := by decide +kernel
theorem dX7_isSign_8 : decode cX7_isSign 8 = .ok (.aload_n 0, 1) := by decide +kernel
theorem dX7_isSign_9 : decode cX7_isSign 9 = .ok (.getfield 111, 3) := by decide +kernel
theorem dX7_isSign_12 : decode cX7_isSign 12 = .ok (.iload_n 1, 1) := by decide +kernel
theorem dX7_isSign_13 : decode cX7_isSign 13 = .ok (.if_icmp .ne 7, 3) := by decide +kernel
theorem dX7_isSign_16 : decode cX7_isSign 16 = .ok (.iconst 1, 1) := by decide +kernel
theorem dX7_isSign_17 : decode cX7_isSign 17 = .ok (.goto 4, 3) := by decide +kernel
theorem dX7_isSign_20 : decode cX7_isSign 20 = .ok (.iconst 0, 1) := by decide +kernel
theorem dX7_isSign_21 : decode cX7_isSign 21 = .ok (.ireturn, 1) := by decide +kernel
theorem dX7_isWord_0 : decode cX7_isWord 0 = .ok (.aload_n 0, 1) := by decide +kernel
theorem dX7_isWord_1 : decode cX7_isWord 1 = .ok (.getfield 52, 3) := by decide +kernel
theorem dX7_isWord_4 : decode cX7_isWord 4 = .ok (.iconst 3, 1) := by decide +kernel
theorem dX7_isWord_5 : decode cX7_isWord 5 = .ok (.if_icmp .ne 15, 3) := by decide +kernel
theorem dX7_isWord_8 : decode cX7_isWord 8 = .ok (.aload_n 0, 1) := by decide +kernel
theorem dX7_isWord_9 : decode cX7_isWord 9 = .ok (.getfield 111, 3) := by decide +kernel
theorem dX7_isWord_12 : decode cX7_isWord 12 = .ok (.iload_n 1, 1) := by decide +kernel
theorem dX7_isWord_13 : decode cX7_isWord 13 = .ok (.if_icmp .ne 7, 3) := by decide +kernel
theorem dX7_isWord_16 : decode cX7_isWord 16 = .ok (.iconst 1, 1) := by decide +kernel
theorem dX7_isWord_17 : decode cX7_isWord 17 = .ok (.goto 4, 3) := by decide +kernel
theorem dX7_isWord_20 : decode cX7_isWord 20 = .ok (.iconst 0, 1) := by decide +kernel
theorem dX7_isWord_21 : decode cX7_isWord 21 = .ok (.ireturn, 1) := by decide +kernel
theorem dX7_expectSign_0 : decode cX7_expectSign 0 = .ok (.aload_n 0, 1) := by decide +kernel
theorem dX7_expectSign_1 : decode cX7_expectSign 1 = .ok (.iload_n 1, 1) := by decide +kernel
theorem dX7_expectSign_2 : decode cX7_expectSign 2 = .ok (.invokevirtual 160, 3) := by decide +kernel
theorem dX7_expectSign_5 : decode cX7_expectSign 5 = .ok (.ifCond .eq 10, 3) := by decide +kernel
theorem dX7_expectSign_8 : decode cX7_expectSign 8 = .ok (.aload_n 0, 1) := by decide +kernel
theorem dX7_expectSign_9 : decode cX7_expectSign 9 = .ok (.invokevirtual 49, 3) := by decide +kernel
theorem dX7_expectSign_12 : decode cX7_expectSign 12 = .ok (.goto 8, 3) := by decide +kernel
theorem dX7_expectSign_15 : decode cX7_expectSign 15 = .ok (.aload_n 0, 1) := by decide +kernel
theorem dX7_expectSign_16 : decode cX7_expectSign 16 = .ok (.iconst 1, 1) := by decide +kernel
theorem dX7_expectSign_17 : decode cX7_expectSign 17 = .ok (.invokevirtual 117, 3) := by decide +kernel
theorem dX7_expectSign_20 : decode cX7_expectSign 20 = .ok (.return_, 1) := by decide +kernel
theorem dX7_expectWord_0 : decode cX7_expectWord 0 = .ok (.aload_n 0, 1) := by decide +kernel
theorem dX7_expectWord_1 : decode cX7_expectWord 1 = .ok (.iload_n 1, 1) := by decide +kernel
theorem dX7_expectWord_2 : decode cX7_expectWord 2 = .ok (.invokevirtual 174, 3) := by decide +kernel
theorem dX7_expectWord_5 : decode cX7_expectWord 5 = .ok (.ifCond .eq 10, 3) := by decide +kernel
theorem dX7_expectWord_8 : decode cX7_expectWord 8 = .ok (.aload_n 0, 1) := by decide +kernel
theorem dX7_expectWord_9 : decode cX7_expectWord 9 = .ok (.invokevirtual 49, 3) := by decide +kernel
theorem dX7_expectWord_12 : decode cX7_expectWord 12 = .ok (.goto 8, 3) := by decide +kernel
theorem dX7_expectWord_15 : decode cX7_expectWord 15 = .ok (.aload_n 0, 1) := by decide +kernel
theorem dX7_expectWord_16 : decode cX7_expectWord 16 = .ok (.iconst 1, 1) := by decide +kernel
theorem dX7_expectWord_17 : decode cX7_expectWord 17 = .ok (.invokevirtual 117, 3) := by decide +kernel
theorem dX7_expectWord_20 : decode cX7_expectWord 20 = .ok (.return_, 1) := by decide +kernel
theorem dX7_expectNumber_0 : decode cX7_expectNumber 0 = .ok (.aload_n 0, 1) := by decide +kernel
theorem dX7_expectNumber_1 : decode cX7_expectNumber 1 = .ok (.getfield 52, 3) := by decide +kernel
theorem dX7_expectNumber_4 : decode cX7_expectNumber 4 = .ok (.iconst 2, 1) := by decide +kernel
theorem dX7_expectNumber_5 : decode cX7_expectNumber 5 = .ok (.if_icmp .eq 10, 3) := by decide +kernel
theorem dX7_expectNumber_8 : decode cX7_expectNumber 8 = .ok (.aload_n 0, 1) := by decide +kernel
theorem dX7_expectNumber_9 : decode cX7_expectNumber 9 = .ok (.iconst 1, 1) := by decide +kernel
theorem dX7_expectNumber_10 : decode cX7_expectNumber 10 = .ok (.invokevirtual 117, 3) := by decide +kernel
theorem dX7_expectNumber_13 : decode cX7_expectNumber 13 = .ok (.iconst 0, 1) := by decide +kernel
theorem dX7_expectNumber_14 : decode cX7_expectNumber 14 = .ok (.ireturn, 1) := by decide +kernel
theorem dX7_expectNumber_15 : decode cX7_expectNumber 15 = .ok (.aload_n 0, 1) := by decide +kernel
theorem dX7_expectNumber_16 : decode cX7_expectNumber 16 = .ok (.getfield 111, 3) := by decide +kernel
theorem dX7_expectNumber_19 : decode cX7_expectNumber 19 = .ok (.iload_n 1, 1) := by decide +kernel
theorem dX7_expectNumber_20 : decode cX7_expectNumber 20 = .ok (.iload_n 2, 1) := by decide +kernel
theorem dX7_expectNumber_21 : decode cX7_expectNumber 21 = .ok (.invokestatic 201, 3) := by decide +kernel
theorem dX7_expectNumber_24 : decode cX7_expectNumber 24 = .ok (.ifCond .ne 10, 3) := by decide +kernel
theorem dX7_expectNumber_27 : decode cX7_expectNumber 27 = .ok (.aload_n 0, 1) := by decide +kernel
theorem dX7_expectNumber_28 : decode cX7_expectNumber 28 = .ok (.iconst 2, 1) := by decide +kernel
theorem dX7_expectNumber_29 : decode cX7_expectNumber 29 = .ok (.invokevirtual 117, 3) := by decide +kernel
theorem dX7_expectNumber_32 : decode cX7_expectNumber 32 = .ok (.iconst 0, 1) := by decide +kernel
theorem dX7_expectNumber_33 : decode cX7_expectNumber 33 = .ok (.ireturn, 1) := by decide +kernel
theorem dX7_expectNumber_34 : decode cX7_expectNumber 34 = .ok (.aload_n 0, 1) := by decide +kernel
theorem dX7_expectNumber_35 : decode cX7_expectNumber 35 = .ok (.getfield 111, 3) := by decide +kernel
theorem dX7_expectNumber_38 : decode cX7_expectNumber 38 = .ok (.istore_n 3, 1) := by decide +kernel
theorem dX7_expectNumber_39 : decode cX7_expectNumber 39 = .ok (.aload_n 0, 1) := by decide +kernel
theorem dX7_expectNumber_40 : decode cX7_expectNumber 40 = .ok (.invokevirtual 49, 3) := by decide +kernel
theorem dX7_expectNumber_43 : decode cX7_expectNumber 43 = .ok (.iload_n 3, 1) := by decide +kernel
theorem dX7_expectNumber_44 : decode cX7_expectNumber 44 = .ok (.ireturn, 1) := by decide +kernel
theorem dX8_init_0 : decode cX8_init 0 = .ok (.aload_n 0, 1) := by decide +kernel
theorem dX8_init_1 : decode cX8_init 1 = .ok (.invokespecial 3, 3) := by decide +kernel
theorem dX8_init_4 : decode cX8_init 4 = .ok (.aload_n 0, 1) := by decide +kernel
theorem dX8_init_5 : decode cX8_init 5 = .ok (.new 9, 3) := by decide +kernel
theorem dX8_init_8 : decode cX8_init 8 = .ok (.dup, 1) := by decide +kernel
theorem dX8_init_9 : decode cX8_init 9 = .ok (.invokespecial 11, 3) := by decide +kernel
theorem dX8_init_12 : decode cX8_init 12 = .ok (.putfield 12, 3) := by decide +kernel
theorem dX8_init_15 : decode cX8_init 15 = .ok (.aload_n 0, 1) := by decide +kernel
theorem dX8_init_16 : decode cX8_init 16 = .ok (.new 18, 3) := by decide +kernel
theorem dX8_init_19 : decode cX8_init 19 = .ok (.dup, 1) := by decide +kernel
theorem dX8_init_20 : decode cX8_init 20 = .ok (.invokespecial 20, 3) := by decide +kernel
theorem dX8_init_23 : decode cX8_init 23 = .ok (.putfield 21, 3) := by decide +kernel
theorem dX8_init_26 : decode cX8_init 26 = .ok (.aload_n 0, 1) := by decide +kernel
theorem dX8_init_27 : decode cX8_init 27 = .ok (.new 25, 3) := by decide +kernel
theorem dX8_init_30 : decode cX8_init 30 = .ok (.dup, 1) := by decide +kernel
theorem dX8_init_31 : decode cX8_init 31 = .ok (.bipush 90, 2) := by decide +kernel
theorem dX8_init_33 : decode cX8_init 33 = .ok (.bipush 40, 2) := by decide +kernel
theorem dX8_init_35 : decode cX8_init 35 = .ok (.invokespecial 27, 3) := by decide +kernel
theorem dX8_init_38 : decode cX8_init 38 = .ok (.putfield 30, 3) := by decide +kernel
theorem dX8_init_41 : decode cX8_init 41 = .ok (.aload_n 0, 1) := by decide +kernel
theorem dX8_init_42 : decode cX8_init 42 = .ok (.bipush 30, 2) := by decide +kernel
theorem dX8_init_44 : decode cX8_init 44 = .ok (.anewarray 18, 3) := by decide +kernel
theorem dX8_init_47 : decode cX8_init 47 = .ok (.putfield 34, 3) := by decide +kernel
theorem dX8_init_50 : decode cX8_init 50 = .ok (.aload_n 0, 1) := by decide +kernel
theorem dX8_init_51 : decode cX8_init 51 = .ok (.iconst (-1), 1) := by decide +kernel
theorem dX8_init_52 : decode cX8_init 52 = .ok (.putfield 38, 3) := by decide +kernel
theorem dX8_init_55 : decode cX8_init 55 = .ok (.aload_n 0, 1) := by decide +kernel
theorem dX8_init_56 : decode cX8_init 56 = .ok (.iconst 3, 1) := by decide +kernel
theorem dX8_init_57 : decode cX8_init 57 = .ok (.newarray .int, 2) := by decide +kernel
theorem dX8_init_59 : decode cX8_init 59 = .ok (.putfield 42, 3) := by decide +kernel
theorem dX8_init_62 : decode cX8_init 62 = .ok (.aload_n 0, 1) := by decide +kernel
theorem dX8_init_63 : decode cX8_init 63 = .ok (.new 46, 3) := by decide +kernel
theorem dX8_init_66 : decode cX8_init 66 = .ok (.dup, 1) := by decide +kernel
theorem dX8_init_67 : decode cX8_init 67 = .ok (.invokespecial 48, 3) := by decide +kernel
theorem dX8_init_70 : decode cX8_init 70 = .ok (.putfield 49, 3) := by decide +kernel
theorem dX8_init_73 : decode cX8_init 73 = .ok (.aload_n 0, 1) := by decide +kernel
theorem dX8_init_74 : decode cX8_init 74 = .ok (.new 53, 3) := by decide +kernel
theorem dX8_init_77 : decode cX8_init 77 = .ok (.dup, 1) := by decide +kernel
theorem dX8_init_78 : decode cX8_init 78 = .ok (.invokespecial 55, 3) := by decide +kernel
theorem dX8_init_81 : decode cX8_init 81 = .ok (.putfield 56, 3) := by decide +kernel
theorem dX8_init_84 : decode cX8_init 84 = .ok (.return_, 1) := by decide +kernel
theorem dX8_copyFrom_0 : decode cX8_copyFrom 0 = .ok (.aload_n 0, 1) := by decide +kernel
theorem dX8_copyFrom_1 : decode cX8_copyFrom 1 = .ok (.getfield 12, 3) := by decide +kernel
theorem dX8_copyFrom_4 : decode cX8_copyFrom 4 = .ok (.aload_n 1, 1) := by decide +kernel
theorem dX8_copyFrom_5 : decode cX8_copyFrom 5 = .ok (.getfield 12, 3) := by decide +kernel
theorem dX8_copyFrom_8 : decode cX8_copyFrom 8 = .ok (.invokevirtual 60, 3) := by decide +kernel
theorem dX8_copyFrom_11 : decode cX8_copyFrom 11 = .ok (.aload_n 0, 1) := by decide +kernel
theorem dX8_copyFrom_12 : decode cX8_copyFrom 12 = .ok (.getfield 21, 3) := by decide +kernel
theorem dX8_copyFrom_15 : decode cX8_copyFrom 15 = .ok (.aload_n 1, 1) := by decide +kernel
theorem dX8_copyFrom_16 : decode cX8_copyFrom 16 = .ok (.getfield 21, 3) := by decide +kernel
theorem dX8_copyFrom_19 : decode cX8_copyFrom 19 = .ok (.invokevirtual 64, 3) := by decide +kernel
theorem dX8_copyFrom_22 : decode cX8_copyFrom 22 = .ok (.aload_n 0, 1) := by decide +kernel
theorem dX8_copyFrom_23 : decode cX8_copyFrom 23 = .ok (.getfield 30, 3) := by decide +kernel
theorem dX8_copyFrom_26 : decode cX8_copyFrom 26 = .ok (.aload_n 1, 1) := by decide +kernel
theorem dX8_copyFrom_27 : decode cX8_copyFrom 27 = .ok (.getfield 30, 3) := by decide +kernel
theorem dX8_copyFrom_30 : decode cX8_copyFrom 30 = .ok (.aload_n 1, 1) := by decide +kernel
theorem dX8_copyFrom_31 : decode cX8_copyFrom 31 = .ok (.getfield 21, 3) := by decide +kernel
theorem dX8_copyFrom_34 : decode cX8_copyFrom 34 = .ok (.invokevirtual 67, 3) := by decide +kernel
theorem dX8_copyFrom_37 : decode cX8_copyFrom 37 = .ok (.iconst 0, 1) := by decide +kernel
theorem dX8_copyFrom_38 : decode cX8_copyFrom 38 = .ok (.istore_n 2, 1) := by decide +kernel
theorem dX8_copyFrom_39 : decode cX8_copyFrom 39 = .ok (.iload_n 2, 1) := by decide +kernel
theorem dX8_copyFrom_40 : decode cX8_copyFrom 40 = .ok (.bipush 30, 2) := by decide +kernel
theorem dX8_copyFrom_42 : decode cX8_copyFrom 42 = .ok (.if_icmp .ge 32, 3) := by decide +kernel
theorem dX8_copyFrom_45 : decode cX8_copyFrom 45 = .ok (.aload_n 1, 1) := by decide +kernel
theorem dX8_copyFrom_46 : decode cX8_copyFrom 46 = .ok (.getfield 34, 3) := by decide +kernel
theorem dX8_copyFrom_49 : decode cX8_copyFrom 49 = .ok (.iload_n 2, 1) := by decide +kernel
theorem dX8_copyFrom_50 : decode cX8_copyFrom 50 = .ok (.aaload, 1) := by decide +kernel
theorem dX8_copyFrom_51 : decode cX8_copyFrom 51 = .ok (.ifnull 17, 3) := by decide +kernel
theorem dX8_copyFrom_54 : decode cX8_copyFrom 54 = .ok (.aload_n 0, 1) := by decide +kernel
theorem dX8_copyFrom_55 : decode cX8_copyFrom 55 = .ok (.iload_n 2, 1) := by decide +kernel
theorem dX8_copyFrom_56 : decode cX8_copyFrom 56 = .ok (.invokevirtual 70, 3) := by decide +kernel
theorem dX8_copyFrom_59 : decode cX8_copyFrom 59 = .ok (.aload_n 1, 1) := by decide +kernel
theorem dX8_copyFrom_60 : decode cX8_copyFrom 60 = .ok (.getfield 34, 3) := by decide +kernel
theorem dX8_copyFrom_63 : decode cX8_copyFrom 63 = .ok (.iload_n 2, 1) := by decide +kernel
theorem dX8_copyFrom_64 : decode cX8_copyFrom 64 = .ok (.aaload, 1) := by decide +kernel
theorem dX8_copyFrom_65 : decode cX8_copyFrom 65 = .ok (.invokevirtual 64, 3) := by decide +kernel
theorem dX8_copyFrom_68 : decode cX8_copyFrom 68 = .ok (.iinc 2 1, 3) := by decide +kernel
theorem dX8_copyFrom_71 : decode cX8_copyFrom 71 = .ok (.goto (-32), 3) := by decide +kernel
theorem dX8_copyFrom_74 : decode cX8_copyFrom 74 = .ok (.aload_n 0, 1) := by decide +kernel
theorem dX8_copyFrom_75 : decode cX8_copyFrom 75 = .ok (.aload_n 1, 1) := by decide +kernel
theorem dX8_copyFrom_76 : decode cX8_copyFrom 76 = .ok (.getfield 74, 3) := by decide +kernel
theorem dX8_copyFrom_79 : decode cX8_copyFrom 79 = .ok (.putfield 74, 3) := by decide +kernel
theorem dX8_copyFrom_82 : decode cX8_copyFrom 82 = .ok (.aload_n 0, 1) := by decide +kernel
theorem dX8_copyFrom_83 : decode cX8_copyFrom 83 = .ok (.aload_n 1, 1) := by decide +kernel
theorem dX8_copyFrom_84 : decode cX8_copyFrom 84 = .ok (.getfield 77, 3) := by decide +kernel
theorem dX8_copyFrom_87 : decode cX8_copyFrom 87 = .ok (.putfield 77, 3) := by decide +kernel
theorem dX8_copyFrom_90 : decode cX8_copyFrom 90 = .ok (.aload_n 0, 1) := by decide +kernel
theorem dX8_copyFrom_91 : decode cX8_copyFrom 91 = .ok (.aload_n 1, 1) := by decide +kernel
theorem dX8_copyFrom_92 : decode cX8_copyFrom 92 = .ok (.getfield 80, 3) := by decide +kernel
theorem dX8_copyFrom_95 : decode cX8_copyFrom 95 = .ok (.putfield 80, 3) := by decide +kernel
theorem dX8_copyFrom_98 : decode cX8_copyFrom 98 = .ok (.aload_n 0, 1) := by decide +kernel
theorem dX8_copyFrom_99 : decode cX8_copyFrom 99 = .ok (.aload_n 1, 1) := by decide +kernel
theorem dX8_copyFrom_100 : decode cX8_copyFrom 100 = .ok (.getfield 38, 3) := by decide +kernel
theorem dX8_copyFrom_103 : decode cX8_copyFrom 103 = .ok (.putfield 38, 3) := by decide +kernel
theorem dX8_copyFrom_106 : decode cX8_copyFrom 106 = .ok (.iconst 0, 1) := by decide +kernel
theorem dX8_copyFrom_107 : decode cX8_copyFrom 107 = .ok (.istore_n 2, 1) := by decide +kernel
theorem dX8_copyFrom_108 : decode cX8_copyFrom 108 = .ok (.iload_n 2, 1) := by decide +kernel
theorem dX8_copyFrom_109 : decode cX8_copyFrom 109 = .ok (.aload_n 0, 1) := by decide +kernel
theorem dX8_copyFrom_110 : decode cX8_copyFrom 110 = .ok (.getfield 42, 3) := by decide +kernel
theorem dX8_copyFrom_113 : decode cX8_copyFrom 113 = .ok (.arraylength, 1) := by decide +kernel
theorem dX8_copyFrom_114 : decode cX8_copyFrom 114 = .ok (.if_icmp .ge 21, 3) := by decide +kernel
theorem dX8_copyFrom_117 : decode cX8_copyFrom 117 = .ok (.aload_n 0, 1) := by decide +kernel
theorem dX8_copyFrom_118 : decode cX8_copyFrom 118 = .ok (.getfield 42, 3) := by decide +kernel
theorem dX8_copyFrom_121 : decode cX8_copyFrom 121 = .ok (.iload_n 2, 1) := by decide +kernel
theorem dX8_copyFrom_122 : decode cX8_copyFrom 122 = .ok (.aload_n 1, 1) := by decide +kernel
theorem dX8_copyFrom_123 : decode cX8_copyFrom 123 = .ok (.getfield 42, 3) := by decide +kernel
theorem dX8_copyFrom_126 : decode cX8_copyFrom 126 = .ok (.iload_n 2, 1) := by decide +kernel
theorem dX8_copyFrom_127 : decode cX8_copyFrom 127 = .ok (.iaload, 1) := by decide +kernel
theorem dX8_copyFrom_128 : decode cX8_copyFrom 128 = .ok (.iastore, 1) := by decide +kernel
theorem dX8_copyFrom_129 : decode cX8_copyFrom 129 = .ok (.iinc 2 1, 3) := by decide +kernel
theorem dX8_copyFrom_132 : decode cX8_copyFrom 132 = .ok (.goto (-24), 3) := by decide +kernel
theorem dX8_copyFrom_135 : decode cX8_copyFrom 135 = .ok (.aload_n 0, 1) := by decide +kernel
theorem dX8_copyFrom_136 : decode cX8_copyFrom 136 = .ok (.aload_n 1, 1) := by decide +kernel
theorem dX8_copyFrom_137 : decode cX8_copyFrom 137 = .ok (.getfield 83, 3) := by decide +kernel
theorem dX8_copyFrom_140 : decode cX8_copyFrom 140 = .ok (.putfield 83, 3) := by decide +kernel
theorem dX8_copyFrom_143 : decode cX8_copyFrom 143 = .ok (.aload_n 0, 1) := by decide +kernel
theorem dX8_copyFrom_144 : decode cX8_copyFrom 144 = .ok (.aload_n 1, 1) := by decide +kernel
theorem dX8_copyFrom_145 : decode cX8_copyFrom 145 = .ok (.getfield 86, 3) := by decide +kernel
theorem dX8_copyFrom_148 : decode cX8_copyFrom 148 = .ok (.putfield 86, 3) := by decide +kernel
theorem dX8_copyFrom_151 : decode cX8_copyFrom 151 = .ok (.aload_n 0, 1) := by decide +kernel
theorem dX8_copyFrom_152 : decode cX8_copyFrom 152 = .ok (.aload_n 1, 1) := by decide +kernel
theorem dX8_copyFrom_153 : decode cX8_copyFrom 153 = .ok (.getfield 89, 3) := by decide +kernel
theorem dX8_copyFrom_156 : decode cX8_copyFrom 156 = .ok (.putfield 89, 3) := by decide +kernel
theorem dX8_copyFrom_159 : decode cX8_copyFrom 159 = .ok (.aload_n 0, 1) := by decide +kernel
theorem dX8_copyFrom_160 : decode cX8_copyFrom 160 = .ok (.getfield 49, 3) := by decide +kernel
theorem dX8_copyFrom_163 : decode cX8_copyFrom 163 = .ok (.aload_n 1, 1) := by decide +kernel
theorem dX8_copyFrom_164 : decode cX8_copyFrom 164 = .ok (.getfield 49, 3) := by decide +kernel
theorem dX8_copyFrom_167 : decode cX8_copyFrom 167 = .ok (.invokevirtual 92, 3) := by decide +kernel
theorem dX8_copyFrom_170 : decode cX8_copyFrom 170 = .ok (.aload_n 0, 1) := by decide +kernel
theorem dX8_copyFrom_171 : decode cX8_copyFrom 171 = .ok (.getfield 56, 3) := by decide +kernel
theorem dX8_copyFrom_174 : decode cX8_copyFrom 174 = .ok (.aload_n 1, 1) := by decide +kernel
theorem dX8_copyFrom_175 : decode cX8_copyFrom 175 = .ok (.getfield 56, 3) := by decide +kernel
theorem dX8_copyFrom_178 : decode cX8_copyFrom 178 = .ok (.invokevirtual 95, 3) := by decide +kernel
theorem dX8_copyFrom_181 : decode cX8_copyFrom 181 = .ok (.return_, 1) := by decide +kernel
theorem dX8_stepRow_0 : decode cX8_stepRow 0 = .ok (.aload_n 0, 1) := by decide +kernel
theorem dX8_stepRow_1 : decode cX8_stepRow 1 = .ok (.getfield 34, 3) := by decide +kernel
theorem dX8_stepRow_4 : decode cX8_stepRow 4 = .ok (.iload_n 1, 1) := by decide +kernel
theorem dX8_stepRow_5 : decode cX8_stepRow 5 = .ok (.aaload, 1) := by decide +kernel
theorem dX8_stepRow_6 : decode cX8_stepRow 6 = .ok (.ifnonnull 16, 3) := by decide +kernel
theorem dX8_stepRow_9 : decode cX8_stepRow 9 = .ok (.aload_n 0, 1) := by decide +kernel
theorem dX8_stepRow_10 : decode cX8_stepRow 10 = .ok (.getfield 34, 3) := by decide +kernel
theorem dX8_stepRow_13 : decode cX8_stepRow 13 = .ok (.iload_n 1, 1) := by decide +kernel
theorem dX8_stepRow_14 : decode cX8_stepRow 14 = .ok (.new 18, 3) := by decide +kernel
theorem dX8_stepRow_17 : decode cX8_stepRow 17 = .ok (.dup, 1) := by decide +kernel
theorem dX8_stepRow_18 : decode cX8_stepRow 18 = .ok (.invokespecial 20, 3) := by decide +kernel
theorem dX8_stepRow_21 : decode cX8_stepRow 21 = .ok (.aastore, 1) := by decide +kernel
theorem dX8_stepRow_22 : decode cX8_stepRow 22 = .ok (.aload_n 0, 1) := by decide +kernel
theorem dX8_stepRow_23 : decode cX8_stepRow 23 = .ok (.getfield 34, 3) := by decide +kernel
theorem dX8_stepRow_26 : decode cX8_stepRow 26 = .ok (.iload_n 1, 1) := by decide +kernel
theorem dX8_stepRow_27 : decode cX8_stepRow 27 = .ok (.aaload, 1) := by decide +kernel
theorem dX8_stepRow_28 : decode cX8_stepRow 28 = .ok (.areturn, 1) := by decide +kernel
theorem dX8_keepStep_0 : decode cX8_keepStep 0 = .ok (.aload_n 0, 1) := by decide +kernel
theorem dX8_keepStep_1 : decode cX8_keepStep 1 = .ok (.aload_n 0, 1) := by decide +kernel
theorem dX8_keepStep_2 : decode cX8_keepStep 2 = .ok (.getfield 77, 3) := by decide +kernel
theorem dX8_keepStep_5 : decode cX8_keepStep 5 = .ok (.invokevirtual 70, 3) := by decide +kernel
theorem dX8_keepStep_8 : decode cX8_keepStep 8 = .ok (.aload_n 0, 1) := by decide +kernel
theorem dX8_keepStep_9 : decode cX8_keepStep 9 = .ok (.getfield 21, 3) := by decide +kernel
theorem dX8_keepStep_12 : decode cX8_keepStep 12 = .ok (.invokevirtual 64, 3) := by decide +kernel
theorem dX8_keepStep_15 : decode cX8_keepStep 15 = .ok (.aload_n 0, 1) := by decide +kernel
theorem dX8_keepStep_16 : decode cX8_keepStep 16 = .ok (.aload_n 0, 1) := by decide +kernel
theorem dX8_keepStep_17 : decode cX8_keepStep 17 = .ok (.getfield 77, 3) := by decide +kernel
theorem dX8_keepStep_20 : decode cX8_keepStep 20 = .ok (.iconst 1, 1) := by decide +kernel
theorem dX8_keepStep_21 : decode cX8_keepStep 21 = .ok (.iadd, 1) := by decide +kernel
theorem dX8_keepStep_22 : decode cX8_keepStep 22 = .ok (.bipush 30, 2) := by decide +kernel
theorem dX8_keepStep_24 : decode cX8_keepStep 24 = .ok (.irem, 1) := by decide +kernel
theorem dX8_keepStep_25 : decode cX8_keepStep 25 = .ok (.putfield 77, 3) := by decide +kernel
theorem dX8_keepStep_28 : decode cX8_keepStep 28 = .ok (.aload_n 0, 1) := by decide +kernel
theorem dX8_keepStep_29 : decode cX8_keepStep 29 = .ok (.aload_n 0, 1) := by decide +kernel
theorem dX8_keepStep_30 : decode cX8_keepStep 30 = .ok (.getfield 74, 3) := by decide +kernel
theorem dX8_keepStep_33 : decode cX8_keepStep 33 = .ok (.iconst 1, 1) := by decide +kernel
theorem dX8_keepStep_34 : decode cX8_keepStep 34 = .ok (.iadd, 1) := by decide +kernel
theorem dX8_keepStep_35 : decode cX8_keepStep 35 = .ok (.bipush 30, 2) := by decide +kernel
theorem dX8_keepStep_37 : decode cX8_keepStep 37 = .ok (.invokestatic 98, 3) := by decide +kernel
theorem dX8_keepStep_40 : decode cX8_keepStep 40 = .ok (.putfield 74, 3) := by decide +kernel
theorem dX8_keepStep_43 : decode cX8_keepStep 43 = .ok (.return_, 1) := by decide +kernel
theorem dX8_takeStepBack_0 : decode cX8_takeStepBack 0 = .ok (.aload_n 0, 1) := by decide +kernel
theorem dX8_takeStepBack_1 : decode cX8_takeStepBack 1 = .ok (.aload_n 0, 1) := by decide +kernel
theorem dX8_takeStepBack_2 : decode cX8_takeStepBack 2 = .ok (.getfield 77, 3) := by decide +kernel
theorem dX8_takeStepBack_5 : decode cX8_takeStepBack 5 = .ok (.bipush 30, 2) := by decide +kernel
theorem dX8_takeStepBack_7 : decode cX8_takeStepBack 7 = .ok (.iadd, 1) := by decide +kernel
theorem dX8_takeStepBack_8 : decode cX8_takeStepBack 8 = .ok (.iconst 1, 1) := by decide +kernel
theorem dX8_takeStepBack_9 : decode cX8_takeStepBack 9 = .ok (.isub, 1) := by decide +kernel
theorem dX8_takeStepBack_10 : decode cX8_takeStepBack 10 = .ok (.bipush 30, 2) := by decide +kernel
theorem dX8_takeStepBack_12 : decode cX8_takeStepBack 12 = .ok (.irem, 1) := by decide +kernel
theorem dX8_takeStepBack_13 : decode cX8_takeStepBack 13 = .ok (.putfield 77, 3) := by decide +kernel
theorem dX8_takeStepBack_16 : decode cX8_takeStepBack 16 = .ok (.aload_n 0, 1) := by decide +kernel
theorem dX8_takeStepBack_17 : decode cX8_takeStepBack 17 = .ok (.dup, 1) := by decide +kernel
theorem dX8_takeStepBack_18 : decode cX8_takeStepBack 18 = .ok (.getfield 74, 3) := by decide +kernel
theorem dX8_takeStepBack_21 : decode cX8_takeStepBack 21 = .ok (.iconst 1, 1) := by decide +kernel
theorem dX8_takeStepBack_22 : decode cX8_takeStepBack 22 = .ok (.isub, 1) := by decide +kernel
theorem dX8_takeStepBack_23 : decode cX8_takeStepBack 23 = .ok (.putfield 74, 3) := by decide +kernel
theorem dX8_takeStepBack_26 : decode cX8_takeStepBack 26 = .ok (.aload_n 0, 1) := by decide +kernel
theorem dX8_takeStepBack_27 : decode cX8_takeStepBack 27 = .ok (.getfield 21, 3) := by decide +kernel
theorem dX8_takeStepBack_30 : decode cX8_takeStepBack 30 = .ok (.aload_n 0, 1) := by decide +kernel
theorem dX8_takeStepBack_31 : decode cX8_takeStepBack 31 = .ok (.aload_n 0, 1) := by decide +kernel
theorem dX8_takeStepBack_32 : decode cX8_takeStepBack 32 = .ok (.getfield 77, 3) := by decide +kernel
theorem dX8_takeStepBack_35 : decode cX8_takeStepBack 35 = .ok (.invokevirtual 70, 3) := by decide +kernel
theorem dX8_takeStepBack_38 : decode cX8_takeStepBack 38 = .ok (.invokevirtual 64, 3) := by decide +kernel
theorem dX8_takeStepBack_41 : decode cX8_takeStepBack 41 = .ok (.iconst 0, 1) := by decide +kernel
theorem dX8_takeStepBack_42 : decode cX8_takeStepBack 42 = .ok (.istore_n 1, 1) := by decide +kernel
theorem dX8_takeStepBack_43 : decode cX8_takeStepBack 43 = .ok (.iload_n 1, 1) := by decide +kernel
theorem dX8_takeStepBack_44 : decode cX8_takeStepBack 44 = .ok (.iconst 4, 1) := by decide +kernel
theorem dX8_takeStepBack_45 : decode cX8_takeStepBack 45 = .ok (.if_icmp .ge 43, 3) := by decide +kernel
theorem dX8_takeStepBack_48 : decode cX8_takeStepBack 48 = .ok (.aload_n 0, 1) := by decide +kernel
theorem dX8_takeStepBack_49 : decode cX8_takeStepBack 49 = .ok (.getfield 21, 3) := by decide +kernel
theorem dX8_takeStepBack_52 : decode cX8_takeStepBack 52 = .ok (.getfield 104, 3) := by decide +kernel
theorem dX8_takeStepBack_55 : decode cX8_takeStepBack 55 = .ok (.iload_n 1, 1) := by decide +kernel
theorem dX8_takeStepBack_56 : decode cX8_takeStepBack 56 = .ok (.aaload, 1) := by decide +kernel
theorem dX8_takeStepBack_57 : decode cX8_takeStepBack 57 = .ok (.getfield 108, 3) := by decide +kernel
theorem dX8_takeStepBack_60 : decode cX8_takeStepBack 60 = .ok (.ifCond .eq 22, 3) := by decide +kernel
theorem dX8_takeStepBack_63 : decode cX8_takeStepBack 63 = .ok (.aload_n 0, 1) := by decide +kernel
theorem dX8_takeStepBack_64 : decode cX8_takeStepBack 64 = .ok (.getfield 30, 3) := by decide +kernel
theorem dX8_takeStepBack_67 : decode cX8_takeStepBack 67 = .ok (.aload_n 0, 1) := by decide +kernel
theorem dX8_takeStepBack_68 : decode cX8_takeStepBack 68 = .ok (.getfield 21, 3) := by decide +kernel
theorem dX8_takeStepBack_71 : decode cX8_takeStepBack 71 = .ok (.getfield 104, 3) := by decide +kernel
theorem dX8_takeStepBack_74 : decode cX8_takeStepBack 74 = .ok (.iload_n 1, 1) := by decide +kernel
theorem dX8_takeStepBack_75 : decode cX8_takeStepBack 75 = .ok (.aaload, 1) := by decide +kernel
theorem dX8_takeStepBack_76 : decode cX8_takeStepBack 76 = .ok (.getfield 114, 3) := by decide +kernel
theorem dX8_takeStepBack_79 : decode cX8_takeStepBack 79 = .ok (.invokevirtual 117, 3) := by decide +kernel
theorem dX8_takeStepBack_82 : decode cX8_takeStepBack 82 = .ok (.iinc 1 1, 3) := by decide +kernel
theorem dX8_takeStepBack_85 : decode cX8_takeStepBack 85 = .ok (.goto (-42), 3) := by decide +kernel
theorem dX8_takeStepBack_88 : decode cX8_takeStepBack 88 = .ok (.return_, 1) := by decide +kernel
theorem dX8_penceFor_0 : decode cX8_penceFor 0 = .ok (.iload_n 1, 1) := by decide +kernel
theorem dX8_penceFor_1 : decode cX8_penceFor 1 = .ok (.aload_n 0, 1) := by decide +kernel
theorem dX8_penceFor_2 : decode cX8_penceFor 2 = .ok (.getfield 89, 3) := by decide +kernel
theorem dX8_penceFor_5 : decode cX8_penceFor 5 = .ok (.invokestatic 98, 3) := by decide +kernel
theorem dX8_penceFor_8 : decode cX8_penceFor 8 = .ok (.istore_n 2, 1) := by decide +kernel
theorem dX8_penceFor_9 : decode cX8_penceFor 9 = .ok (.iload_n 2, 1) := by decide +kernel
theorem dX8_penceFor_10 : decode cX8_penceFor 10 = .ok (.aload_n 0, 1) := by decide +kernel
theorem dX8_penceFor_11 : decode cX8_penceFor 11 = .ok (.getfield 83, 3) := by decide +kernel
theorem dX8_penceFor_14 : decode cX8_penceFor 14 = .ok (.imul, 1) := by decide +kernel
theorem dX8_penceFor_15 : decode cX8_penceFor 15 = .ok (.iload_n 1, 1) := by decide +kernel
theorem dX8_penceFor_16 : decode cX8_penceFor 16 = .ok (.iload_n 2, 1) := by decide +kernel
theorem dX8_penceFor_17 : decode cX8_penceFor 17 = .ok (.isub, 1) := by decide +kernel
theorem dX8_penceFor_18 : decode cX8_penceFor 18 = .ok (.aload_n 0, 1) := by decide +kernel
theorem dX8_penceFor_19 : decode cX8_penceFor 19 = .ok (.getfield 86, 3) := by decide +kernel
theorem dX8_penceFor_22 : decode cX8_penceFor 22 = .ok (.imul, 1) := by decide +kernel
theorem dX8_penceFor_23 : decode cX8_penceFor 23 = .ok (.iadd, 1) := by decide +kernel
theorem dX8_penceFor_24 : decode cX8_penceFor 24 = .ok (.ireturn, 1) := by decide +kernel
theorem dX9_init_0 : decode cX9_init 0 = .ok (.aload_n 0, 1) := by decide +kernel
theorem dX9_init_1 : decode cX9_init 1 = .ok (.invokespecial 3, 3) := by decide +kernel
theorem dX9_init_4 : decode cX9_init 4 = .ok (.aload_n 0, 1) := by decide +kernel
theorem dX9_init_5 : decode cX9_init 5 = .ok (.bipush 24, 2) := by decide +kernel
theorem dX9_init_7 : decode cX9_init 7 = .ok (.newarray .int, 2) := by decide +kernel
theorem dX9_init_9 : decode cX9_init 9 = .ok (.putfield 9, 3) := by decide +kernel
theorem dX9_init_12 : decode cX9_init 12 = .ok (.aload_n 0, 1) := by decide +kernel
theorem dX9_init_13 : decode cX9_init 13 = .ok (.bipush 24, 2) := by decide +kernel
theorem dX9_init_15 : decode cX9_init 15 = .ok (.newarray .int, 2) := by decide +kernel
theorem dX9_init_17 : decode cX9_init 17 = .ok (.putfield 15, 3) := by decide +kernel
theorem dX9_init_20 : decode cX9_init 20 = .ok (.aload_n 0, 1) := by decide +kernel
theorem dX9_init_21 : decode cX9_init 21 = .ok (.bipush 24, 2) := by decide +kernel
theorem dX9_init_23 : decode cX9_init 23 = .ok (.newarray .int, 2) := by decide +kernel
theorem dX9_init_25 : decode cX9_init 25 = .ok (.putfield 18, 3) := by decide +kernel
theorem dX9_init_28 : decode cX9_init 28 = .ok (.aload_n 0, 1) := by decide +kernel
theorem dX9_init_29 : decode cX9_init 29 = .ok (.bipush 24, 2) := by decide +kernel
theorem dX9_init_31 : decode cX9_init 31 = .ok (.newarray .int, 2) := by decide +kernel
theorem dX9_init_33 : decode cX9_init 33 = .ok (.putfield 21, 3) := by decide +kernel
theorem dX9_init_36 : decode cX9_init 36 = .ok (.aload_n 0, 1) := by decide +kernel
theorem dX9_init_37 : decode cX9_init 37 = .ok (.iconst 5, 1) := by decide +kernel
theorem dX9_init_38 : decode cX9_init 38 = .ok (.newarray .int, 2) := by decide +kernel
theorem dX9_init_40 : decode cX9_init 40 = .ok (.putfield 26, 3) := by decide +kernel
theorem dX9_init_43 : decode cX9_init 43 = .ok (.aload_n 0, 1) := by decide +kernel
theorem dX9_init_44 : decode cX9_init 44 = .ok (.iconst 5, 1) := by decide +kernel
theorem dX9_init_45 : decode cX9_init 45 = .ok (.newarray .int, 2) := by decide +kernel
theorem dX9_init_47 : decode cX9_init 47 = .ok (.putfield 29, 3) := by decide +kernel
theorem dX9_init_50 : decode cX9_init 50 = .ok (.aload_n 0, 1) := by decide +kernel
theorem dX9_init_51 : decode cX9_init 51 = .ok (.sipush 300, 3) := by decide +kernel
theorem dX9_init_54 : decode cX9_init 54 = .ok (.newarray .int, 2) := by decide +kernel
theorem dX9_init_56 : decode cX9_init 56 = .ok (.putfield 32, 3) := by decide +kernel
theorem dX9_init_59 : decode cX9_init 59 = .ok (.return_, 1) := by decide +kernel
theorem dX9_empty_0 : decode cX9_empty 0 = .ok (.aload_n 0, 1) := by decide +kernel
theorem dX9_empty_1 : decode cX9_empty 1 = .ok (.iconst 0, 1) := by decide +kernel
theorem dX9_empty_2 : decode cX9_empty 2 = .ok (.putfield 35, 3) := by decide +kernel
theorem dX9_empty_5 : decode cX9_empty 5 = .ok (.aload_n 0, 1) := by decide +kernel
theorem dX9_empty_6 : decode cX9_empty 6 = .ok (.iconst 0, 1) := by decide +kernel
theorem dX9_empty_7 : decode cX9_empty 7 = .ok (.putfield 39, 3) := by decide +kernel
theorem dX9_empty_10 : decode cX9_empty 10 = .ok (.iconst 0, 1) := by decide +kernel
theorem dX9_empty_11 : decode cX9_empty 11 = .ok (.istore_n 1, 1) := by decide +kernel
theorem dX9_empty_12 : decode cX9_empty 12 = .ok (.iload_n 1, 1) := by decide +kernel
theorem dX9_empty_13 : decode cX9_empty 13 = .ok (.iconst 5, 1) := by decide +kernel
theorem dX9_empty_14 : decode cX9_empty 14 = .ok (.if_icmp .ge 23, 3) := by decide +kernel
theorem dX9_empty_17 : decode cX9_empty 17 = .ok (.aload_n 0, 1) := by decide +kernel
theorem dX9_empty_18 : decode cX9_empty 18 = .ok (.getfield 26, 3) := by decide +kernel
theorem dX9_empty_21 : decode cX9_empty 21 = .ok (.iload_n 1, 1) := by decide +kernel
theorem dX9_empty_22 : decode cX9_empty 22 = .ok (.iconst (-1), 1) := by decide +kernel
theorem dX9_empty_23 : decode cX9_empty 23 = .ok (.iastore, 1) := by decide +kernel
theorem dX9_empty_24 : decode cX9_empty 24 = .ok (.aload_n 0, 1) := by decide +kernel
theorem dX9_empty_25 : decode cX9_empty 25 = .ok (.getfield 29, 3) := by decide +kernel
theorem dX9_empty_28 : decode cX9_empty 28 = .ok (.iload_n 1, 1) := by decide +kernel
theorem dX9_empty_29 : decode cX9_empty 29 = .ok (.iconst (-1), 1) := by decide +kernel
theorem dX9_empty_30 : decode cX9_empty 30 = .ok (.iastore, 1) := by decide +kernel
theorem dX9_empty_31 : decode cX9_empty 31 = .ok (.iinc 1 1, 3) := by decide +kernel
theorem dX9_empty_34 : decode cX9_empty 34 = .ok (.goto (-22), 3) := by decide +kernel
theorem dX9_empty_37 : decode cX9_empty 37 = .ok (.return_, 1) := by decide +kernel
theorem dX9_addClause_0 : decode cX9_addClause 0 = .ok (.aload_n 0, 1) := by decide +kernel
theorem dX9_addClause_1 : decode cX9_addClause 1 = .ok (.getfield 35, 3) := by decide +kernel
theorem dX9_addClause_4 : decode cX9_addClause 4 = .ok (.bipush 24, 2) := by decide +kernel
theorem dX9_addClause_6 : decode cX9_addClause 6 = .ok (.if_icmp .ge 53, 3) := by decide +kernel
theorem dX9_addClause_9 : decode cX9_addClause 9 = .ok (.aload_n 0, 1) := by decide +kernel
theorem dX9_addClause_10 : decode cX9_addClause 10 = .ok (.getfield 9, 3) := by decide +kernel
theorem dX9_addClause_13 : decode cX9_addClause 13 = .ok (.aload_n 0, 1) := by decide +kernel
theorem dX9_addClause_14 : decode cX9_addClause 14 = .ok (.getfield 35, 3) := by decide +kernel
theorem dX9_addClause_17 : decode cX9_addClause 17 = .ok (.iload_n 1, 1) := by decide +kernel
theorem dX9_addClause_18 : decode cX9_addClause 18 = .ok (.iastore, 1) := by decide +kernel
theorem dX9_addClause_19 : decode cX9_addClause 19 = .ok (.aload_n 0, 1) := by decide +kernel
theorem dX9_addClause_20 : decode cX9_addClause 20 = .ok (.getfield 15, 3) := by decide +kernel
theorem dX9_addClause_23 : decode cX9_addClause 23 = .ok (.aload_n 0, 1) := by decide +kernel
theorem dX9_addClause_24 : decode cX9_addClause 24 = .ok (.getfield 35, 3) := by decide +kernel
theorem dX9_addClause_27 : decode cX9_addClause 27 = .ok (.iconst 0, 1) := by decide +kernel
theorem dX9_addClause_28 : decode cX9_addClause 28 = .ok (.iastore, 1) := by decide +kernel
theorem dX9_addClause_29 : decode cX9_addClause 29 = .ok (.aload_n 0, 1) := by decide +kernel
theorem dX9_addClause_30 : decode cX9_addClause 30 = .ok (.getfield 18, 3) := by decide +kernel
theorem dX9_addClause_33 : decode cX9_addClause 33 = .ok (.aload_n 0, 1) := by decide +kernel
theorem dX9_addClause_34 : decode cX9_addClause 34 = .ok (.getfield 35, 3) := by decide +kernel
theorem dX9_addClause_37 : decode cX9_addClause 37 = .ok (.iconst 0, 1) := by decide +kernel
theorem dX9_addClause_38 : decode cX9_addClause 38 = .ok (.iastore, 1) := by decide +kernel
theorem dX9_addClause_39 : decode cX9_addClause 39 = .ok (.aload_n 0, 1) := by decide +kernel
theorem dX9_addClause_40 : decode cX9_addClause 40 = .ok (.getfield 21, 3) := by decide +kernel
theorem dX9_addClause_43 : decode cX9_addClause 43 = .ok (.aload_n 0, 1) := by decide +kernel
theorem dX9_addClause_44 : decode cX9_addClause 44 = .ok (.getfield 35, 3) := by decide +kernel
theorem dX9_addClause_47 : decode cX9_addClause 47 = .ok (.iconst 0, 1) := by decide +kernel
theorem dX9_addClause_48 : decode cX9_addClause 48 = .ok (.iastore, 1) := by decide +kernel
theorem dX9_addClause_49 : decode cX9_addClause 49 = .ok (.aload_n 0, 1) := by decide +kernel
theorem dX9_addClause_50 : decode cX9_addClause 50 = .ok (.dup, 1) := by decide +kernel
theorem dX9_addClause_51 : decode cX9_addClause 51 = .ok (.getfield 35, 3) := by decide +kernel
theorem dX9_addClause_54 : decode cX9_addClause 54 = .ok (.iconst 1, 1) := by decide +kernel
theorem dX9_addClause_55 : decode cX9_addClause 55 = .ok (.iadd, 1) := by decide +kernel
theorem dX9_addClause_56 : decode cX9_addClause 56 = .ok (.putfield 35, 3) := by decide +kernel
theorem dX9_addClause_59 : decode cX9_addClause 59 = .ok (.return_, 1) := by decide +kernel
theorem dX9_setNumbers_0 : decode cX9_setNumbers 0 = .ok (.aload_n 0, 1) := by decide +kernel
theorem dX9_setNumbers_1 : decode cX9_setNumbers 1 = .ok (.getfield 35, 3) := by decide +kernel
theorem dX9_setNumbers_4 : decode cX9_setNumbers 4 = .ok (.ifCond .le 39, 3) := by decide +kernel
theorem dX9_setNumbers_7 : decode cX9_setNumbers 7 = .ok (.aload_n 0, 1) := by decide +kernel
theorem dX9_setNumbers_8 : decode cX9_setNumbers 8 = .ok (.getfield 15, 3) := by decide +kernel
theorem dX9_setNumbers_11 : decode cX9_setNumbers 11 = .ok (.aload_n 0, 1) := by decide +kernel
theorem dX9_setNumbers_12 : decode cX9_setNumbers 12 = .ok (.getfield 35, 3) := by decide +kernel
theorem dX9_setNumbers_15 : decode cX9_setNumbers 15 = .ok (.iconst 1, 1) := by decide +kernel
theorem dX9_setNumbers_16 : decode cX9_setNumbers 16 = .ok (.isub, 1) := by decide +kernel
theorem dX9_setNumbers_17 : decode cX9_setNumbers 17 = .ok (.iload_n 1, 1) := by decide +kernel
theorem dX9_setNumbers_18 : decode cX9_setNumbers 18 = .ok (.iastore, 1) := by decide +kernel
theorem dX9_setNumbers_19 : decode cX9_setNumbers 19 = .ok (.aload_n 0, 1) := by decide +kernel
theorem dX9_setNumbers_20 : decode cX9_setNumbers 20 = .ok (.getfield 18, 3) := by decide +kernel
theorem dX9_setNumbers_23 : decode cX9_setNumbers 23 = .ok (.aload_n 0, 1) := by decide +kernel
theorem dX9_setNumbers_24 : decode cX9_setNumbers 24 = .ok (.getfield 35, 3) := by decide +kernel
theorem dX9_setNumbers_27 : decode cX9_setNumbers 27 = .ok (.iconst 1, 1) := by decide +kernel
theorem dX9_setNumbers_28 : decode cX9_setNumbers 28 = .ok (.isub, 1) := by decide +kernel
theorem dX9_setNumbers_29 : decode cX9_setNumbers 29 = .ok (.iload_n 2, 1) := by decide +kernel
theorem dX9_setNumbers_30 : decode cX9_setNumbers 30 = .ok (.iastore, 1) := by decide +kernel
theorem dX9_setNumbers_31 : decode cX9_setNumbers 31 = .ok (.aload_n 0, 1) := by decide +kernel
theorem dX9_setNumbers_32 : decode cX9_setNumbers 32 = .ok (.getfield 21, 3) := by decide +kernel
theorem dX9_setNumbers_35 : decode cX9_setNumbers 35 = .ok (.aload_n 0, 1) := by decide +kernel
theorem dX9_setNumbers_36 : decode cX9_setNumbers 36 = .ok (.getfield 35, 3) := by decide +kernel
theorem dX9_setNumbers_39 : decode cX9_setNumbers 39 = .ok (.iconst 1, 1) := by decide +kernel
theorem dX9_setNumbers_40 : decode cX9_setNumbers 40 = .ok (.isub, 1) := by decide +kernel
theorem dX9_setNumbers_41 : decode cX9_setNumbers 41 = .ok (.iload_n 3, 1) := by decide +kernel
theorem dX9_setNumbers_42 : decode cX9_setNumbers 42 = .ok (.iastore, 1) := by decide +kernel
theorem dX9_setNumbers_43 : decode cX9_setNumbers 43 = .ok (.return_, 1) := by decide +kernel
theorem dX9_emit_0 : decode cX9_emit 0 = .ok (.aload_n 0, 1) := by decide +kernel
theorem dX9_emit_1 : decode cX9_emit 1 = .ok (.getfield 39, 3) := by decide +kernel
theorem dX9_emit_4 : decode cX9_emit 4 = .ok (.aload_n 0, 1) := by decide +kernel
theorem dX9_emit_5 : decode cX9_emit 5 = .ok (.getfield 32, 3) := by decide +kernel
theorem dX9_emit_8 : decode cX9_emit 8 = .ok (.arraylength, 1) := by decide +kernel
theorem dX9_emit_9 : decode cX9_emit 9 = .ok (.if_icmp .ge 28, 3) := by decide +kernel
theorem dX9_emit_12 : decode cX9_emit 12 = .ok (.aload_n 0, 1) := by decide +kernel
theorem dX9_emit_13 : decode cX9_emit 13 = .ok (.getfield 32, 3) := by decide +kernel
theorem dX9_emit_16 : decode cX9_emit 16 = .ok (.aload_n 0, 1) := by decide +kernel
theorem dX9_emit_17 : decode cX9_emit 17 = .ok (.getfield 39, 3) := by decide +kernel
theorem dX9_emit_20 : decode cX9_emit 20 = .ok (.iload_n 2, 1) := by decide +kernel
theorem dX9_emit_21 : decode cX9_emit 21 = .ok (.bipush 32, 2) := by decide +kernel
theorem dX9_emit_23 : decode cX9_emit 23 = .ok (.imul, 1) := by decide +kernel
theorem dX9_emit_24 : decode cX9_emit 24 = .ok (.iload_n 1, 1) := by decide +kernel
theorem dX9_emit_25 : decode cX9_emit 25 = .ok (.iadd, 1) := by decide +kernel
theorem dX9_emit_26 : decode cX9_emit 26 = .ok (.iastore, 1) := by decide +kernel
theorem dX9_emit_27 : decode cX9_emit 27 = .ok (.aload_n 0, 1) := by decide +kernel
theorem dX9_emit_28 : decode cX9_emit 28 = .ok (.dup, 1) := by decide +kernel
theorem dX9_emit_29 : decode cX9_emit 29 = .ok (.getfield 39, 3) := by decide +kernel
theorem dX9_emit_32 : decode cX9_emit 32 = .ok (.iconst 1, 1) := by decide +kernel
theorem dX9_emit_33 : decode cX9_emit 33 = .ok (.iadd, 1) := by decide +kernel
theorem dX9_emit_34 : decode cX9_emit 34 = .ok (.putfield 39, 3) := by decide +kernel
theorem dX9_emit_37 : decode cX9_emit 37 = .ok (.aload_n 0, 1) := by decide +kernel
theorem dX9_emit_38 : decode cX9_emit 38 = .ok (.getfield 39, 3) := by decide +kernel
theorem dX9_emit_41 : decode cX9_emit 41 = .ok (.iconst 1, 1) := by decide +kernel
theorem dX9_emit_42 : decode cX9_emit 42 = .ok (.isub, 1) := by decide +kernel
theorem dX9_emit_43 : decode cX9_emit 43 = .ok (.ireturn, 1) := by decide +kernel
theorem dX9_landHere_0 : decode cX9_landHere 0 = .ok (.iload_n 1, 1) := by decide +kernel
theorem dX9_landHere_1 : decode cX9_landHere 1 = .ok (.ifCond .lt 34, 3) := by decide +kernel
theorem dX9_landHere_4 : decode cX9_landHere 4 = .ok (.iload_n 1, 1) := by decide +kernel
theorem dX9_landHere_5 : decode cX9_landHere 5 = .ok (.aload_n 0, 1) := by decide +kernel
theorem dX9_landHere_6 : decode cX9_landHere 6 = .ok (.getfield 39, 3) := by decide +kernel
theorem dX9_landHere_9 : decode cX9_landHere 9 = .ok (.if_icmp .ge 26, 3) := by decide +kernel
theorem dX9_landHere_12 : decode cX9_landHere 12 = .ok (.aload_n 0, 1) := by decide +kernel
theorem dX9_landHere_13 : decode cX9_landHere 13 = .ok (.getfield 32, 3) := by decide +kernel
theorem dX9_landHere_16 : decode cX9_landHere 16 = .ok (.iload_n 1, 1) := by decide +kernel
theorem dX9_landHere_17 : decode cX9_landHere 17 = .ok (.aload_n 0, 1) := by decide +kernel
theorem dX9_landHere_18 : decode cX9_landHere 18 = .ok (.getfield 39, 3) := by decide +kernel
theorem dX9_landHere_21 : decode cX9_landHere 21 = .ok (.bipush 32, 2) := by decide +kernel
theorem dX9_landHere_23 : decode cX9_landHere 23 = .ok (.imul, 1) := by decide +kernel
theorem dX9_landHere_24 : decode cX9_landHere 24 = .ok (.aload_n 0, 1) := by decide +kernel
theorem dX9_landHere_25 : decode cX9_landHere 25 = .ok (.getfield 32, 3) := by decide +kernel
theorem dX9_landHere_28 : decode cX9_landHere 28 = .ok (.iload_n 1, 1) := by decide +kernel
theorem dX9_landHere_29 : decode cX9_landHere 29 = .ok (.iaload, 1) := by decide +kernel
theorem dX9_landHere_30 : decode cX9_landHere 30 = .ok (.bipush 32, 2) := by decide +kernel
theorem dX9_landHere_32 : decode cX9_landHere 32 = .ok (.irem, 1) := by decide +kernel
theorem dX9_landHere_33 : decode cX9_landHere 33 = .ok (.iadd, 1) := by decide +kernel
theorem dX9_landHere_34 : decode cX9_landHere 34 = .ok (.iastore, 1) := by decide +kernel
theorem dX9_landHere_35 : decode cX9_landHere 35 = .ok (.return_, 1) := by decide +kernel
theorem dX10_init_0 : decode cX10_init 0 = .ok (.aload_n 0, 1) := by decide +kernel
theorem dX10_init_1 : decode cX10_init 1 = .ok (.invokespecial 3, 3) := by decide +kernel
theorem dX10_init_4 : decode cX10_init 4 = .ok (.aload_n 0, 1) := by decide +kernel
theorem dX10_init_5 : decode cX10_init 5 = .ok (.iconst 4, 1) := by decide +kernel
theorem dX10_init_6 : decode cX10_init 6 = .ok (.newarray .int, 2) := by decide +kernel
theorem dX10_init_8 : decode cX10_init 8 = .ok (.putfield 9, 3) := by decide +kernel
theorem dX10_init_11 : decode cX10_init 11 = .ok (.aload_n 0, 1) := by decide +kernel
theorem dX10_init_12 : decode cX10_init 12 = .ok (.iconst 4, 1) := by decide +kernel
theorem dX10_init_13 : decode cX10_init 13 = .ok (.newarray .int, 2) := by decide +kernel
theorem dX10_init_15 : decode cX10_init 15 = .ok (.putfield 15, 3) := by decide +kernel
theorem dX10_init_18 : decode cX10_init 18 = .ok (.aload_n 0, 1) := by decide +kernel
theorem dX10_init_19 : decode cX10_init 19 = .ok (.iconst 4, 1) := by decide +kernel
theorem dX10_init_20 : decode cX10_init 20 = .ok (.newarray .int, 2) := by decide +kernel
theorem dX10_init_22 : decode cX10_init 22 = .ok (.putfield 18, 3) := by decide +kernel
theorem dX10_init_25 : decode cX10_init 25 = .ok (.aload_n 0, 1) := by decide +kernel
theorem dX10_init_26 : decode cX10_init 26 = .ok (.iconst 4, 1) := by decide +kernel
theorem dX10_init_27 : decode cX10_init 27 = .ok (.newarray .int, 2) := by decide +kernel
theorem dX10_init_29 : decode cX10_init 29 = .ok (.putfield 21, 3) := by decide +kernel
theorem dX10_init_32 : decode cX10_init 32 = .ok (.return_, 1) := by decide +kernel
theorem dX10_add_0 : decode cX10_add 0 = .ok (.aload_n 0, 1) := by decide +kernel
theorem dX10_add_1 : decode cX10_add 1 = .ok (.getfield 24, 3) := by decide +kernel
theorem dX10_add_4 : decode cX10_add 4 = .ok (.istore 5, 2) := by decide +kernel
theorem dX10_add_6 : decode cX10_add 6 = .ok (.aload_n 0, 1) := by decide +kernel
theorem dX10_add_7 : decode cX10_add 7 = .ok (.getfield 9, 3) := by decide +kernel
theorem dX10_add_10 : decode cX10_add 10 = .ok (.iload 5, 2) := by decide +kernel
theorem dX10_add_12 : decode cX10_add 12 = .ok (.iload_n 1, 1) := by decide +kernel
theorem dX10_add_13 : decode cX10_add 13 = .ok (.iastore, 1) := by decide +kernel
theorem dX10_add_14 : decode cX10_add 14 = .ok (.aload_n 0, 1) := by decide +kernel
theorem dX10_add_15 : decode cX10_add 15 = .ok (.getfield 15, 3) := by decide +kernel
theorem dX10_add_18 : decode cX10_add 18 = .ok (.iload 5, 2) := by decide +kernel
theorem dX10_add_20 : decode cX10_add 20 = .ok (.iload_n 2, 1) := by decide +kernel
theorem dX10_add_21 : decode cX10_add 21 = .ok (.iastore, 1) := by decide +kernel
theorem dX10_add_22 : decode cX10_add 22 = .ok (.aload_n 0, 1) := by decide +kernel
theorem dX10_add_23 : decode cX10_add 23 = .ok (.getfield 18, 3) := by decide +kernel
theorem dX10_add_26 : decode cX10_add 26 = .ok (.iload 5, 2) := by decide +kernel
theorem dX10_add_28 : decode cX10_add 28 = .ok (.iload_n 3, 1) := by decide +kernel
theorem dX10_add_29 : decode cX10_add 29 = .ok (.iastore, 1) := by decide +kernel
theorem dX10_add_30 : decode cX10_add 30 = .ok (.aload_n 0, 1) := by decide +kernel
theorem dX10_add_31 : decode cX10_add 31 = .ok (.getfield 21, 3) := by decide +kernel
theorem dX10_add_34 : decode cX10_add 34 = .ok (.iload 5, 2) := by decide +kernel
theorem dX10_add_36 : decode cX10_add 36 = .ok (.iload 4, 2) := by decide +kernel
theorem dX10_add_38 : decode cX10_add 38 = .ok (.iastore, 1) := by decide +kernel
theorem dX10_add_39 : decode cX10_add 39 = .ok (.aload_n 0, 1) := by decide +kernel
theorem dX10_add_40 : decode cX10_add 40 = .ok (.dup, 1) := by decide +kernel
theorem dX10_add_41 : decode cX10_add 41 = .ok (.getfield 24, 3) := by decide +kernel
theorem dX10_add_44 : decode cX10_add 44 = .ok (.iconst 1, 1) := by decide +kernel
theorem dX10_add_45 : decode cX10_add 45 = .ok (.iadd, 1) := by decide +kernel
theorem dX10_add_46 : decode cX10_add 46 = .ok (.putfield 24, 3) := by decide +kernel
theorem dX10_add_49 : decode cX10_add 49 = .ok (.iload 5, 2) := by decide +kernel
theorem dX10_add_51 : decode cX10_add 51 = .ok (.ireturn, 1) := by decide +kernel
theorem dX10_number_0 : decode cX10_number 0 = .ok (.iload_n 2, 1) := by decide +kernel
theorem dX10_number_1 : decode cX10_number 1 = .ok (.tableswitch 59 0 3 #[31, 38, 45, 52], 31) := by decide +kernel
theorem dX10_number_32 : decode cX10_number 32 = .ok (.aload_n 0, 1) := by decide +kernel
theorem dX10_number_33 : decode cX10_number 33 = .ok (.getfield 9, 3) := by decide +kernel
theorem dX10_number_36 : decode cX10_number 36 = .ok (.iload_n 1, 1) := by decide +kernel
theorem dX10_number_37 : decode cX10_number 37 = .ok (.iaload, 1) := by decide +kernel
theorem dX10_number_38 : decode cX10_number 38 = .ok (.ireturn, 1) := by decide +kernel
theorem dX10_number_39 : decode cX10_number 39 = .ok (.aload_n 0, 1) := by decide +kernel
theorem dX10_number_40 : decode cX10_number 40 = .ok (.getfield 15, 3) := by decide +kernel
theorem dX10_number_43 : decode cX10_number 43 = .ok (.iload_n 1, 1) := by decide +kernel
theorem dX10_number_44 : decode cX10_number 44 = .ok (.iaload, 1) := by decide +kernel
theorem dX10_number_45 : decode cX10_number 45 = .ok (.ireturn, 1) := by decide +kernel
theorem dX10_number_46 : decode cX10_number 46 = .ok (.aload_n 0, 1) := by decide +kernel
theorem dX10_number_47 : decode cX10_number 47 = .ok (.getfield 18, 3) := by decide +kernel
theorem dX10_number_50 : decode cX10_number 50 = .ok (.iload_n 1, 1) := by decide +kernel
theorem dX10_number_51 : decode cX10_number 51 = .ok (.iaload, 1) := by decide +kernel
theorem dX10_number_52 : decode cX10_number 52 = .ok (.ireturn, 1) := by decide +kernel
theorem dX10_number_53 : decode cX10_number 53 = .ok (.aload_n 0, 1) := by decide +kernel
theorem dX10_number_54 : decode cX10_number 54 = .ok (.getfield 21, 3) := by decide +kernel
theorem dX10_number_57 : decode cX10_number 57 = .ok (.iload_n 1, 1) := by decide +kernel
theorem dX10_number_58 : decode cX10_number 58 = .ok (.iaload, 1) := by decide +kernel
theorem dX10_number_59 : decode cX10_number 59 = .ok (.ireturn, 1) := by decide +kernel
theorem dX10_number_60 : decode cX10_number 60 = .ok (.bipush (-2), 2) := by decide +kernel
theorem dX10_number_62 : decode cX10_number 62 = .ok (.ireturn, 1) := by decide +kernel
theorem dX10_copyFrom_0 : decode cX10_copyFrom 0 = .ok (.aload_n 0, 1) := by decide +kernel
theorem dX10_copyFrom_1 : decode cX10_copyFrom 1 = .ok (.aload_n 1, 1) := by decide +kernel
theorem dX10_copyFrom_2 : decode cX10_copyFrom 2 = .ok (.getfield 24, 3) := by decide +kernel
theorem dX10_copyFrom_5 : decode cX10_copyFrom 5 = .ok (.putfield 24, 3) := by decide +kernel
theorem dX10_copyFrom_8 : decode cX10_copyFrom 8 = .ok (.iconst 0, 1) := by decide +kernel
theorem dX10_copyFrom_9 : decode cX10_copyFrom 9 = .ok (.istore_n 2, 1) := by decide +kernel
theorem dX10_copyFrom_10 : decode cX10_copyFrom 10 = .ok (.iload_n 2, 1) := by decide +kernel
theorem dX10_copyFrom_11 : decode cX10_copyFrom 11 = .ok (.aload_n 0, 1) := by decide +kernel
theorem dX10_copyFrom_12 : decode cX10_copyFrom 12 = .ok (.getfield 24, 3) := by decide +kernel
theorem dX10_copyFrom_15 : decode cX10_copyFrom 15 = .ok (.if_icmp .ge 57, 3) := by decide +kernel
theorem dX10_copyFrom_18 : decode cX10_copyFrom 18 = .ok (.aload_n 0, 1) := by decide +kernel
theorem dX10_copyFrom_19 : decode cX10_copyFrom 19 = .ok (.getfield 9, 3) := by decide +kernel
theorem dX10_copyFrom_22 : decode cX10_copyFrom 22 = .ok (.iload_n 2, 1) := by decide +kernel
theorem dX10_copyFrom_23 : decode cX10_copyFrom 23 = .ok (.aload_n 1, 1) := by decide +kernel
theorem dX10_copyFrom_24 : decode cX10_copyFrom 24 = .ok (.getfield 9, 3) := by decide +kernel
theorem dX10_copyFrom_27 : decode cX10_copyFrom 27 = .ok (.iload_n 2, 1) := by decide +kernel
theorem dX10_copyFrom_28 : decode cX10_copyFrom 28 = .ok (.iaload, 1) := by decide +kernel
theorem dX10_copyFrom_29 : decode cX10_copyFrom 29 = .ok (.iastore, 1) := by decide +kernel
theorem dX10_copyFrom_30 : decode cX10_copyFrom 30 = .ok (.aload_n 0, 1) := by decide +kernel
theorem dX10_copyFrom_31 : decode cX10_copyFrom 31 = .ok (.getfield 15, 3) := by decide +kernel
theorem dX10_copyFrom_34 : decode cX10_copyFrom 34 = .ok (.iload_n 2, 1) := by decide +kernel
theorem dX10_copyFrom_35 : decode cX10_copyFrom 35 = .ok (.aload_n 1, 1) := by decide +kernel
theorem dX10_copyFrom_36 : decode cX10_copyFrom 36 = .ok (.getfield 15, 3) := by decide +kernel
theorem dX10_copyFrom_39 : decode cX10_copyFrom 39 = .ok (.iload_n 2, 1) := by decide +kernel
theorem dX10_copyFrom_40 : decode cX10_copyFrom 40 = .ok (.iaload, 1) := by decide +kernel
theorem dX10_copyFrom_41 : decode cX10_copyFrom 41 = .ok (.iastore, 1) := by decide +kernel
theorem dX10_copyFrom_42 : decode cX10_copyFrom 42 = .ok (.aload_n 0, 1) := by decide +kernel
theorem dX10_copyFrom_43 : decode cX10_copyFrom 43 = .ok (.getfield 18, 3) := by decide +kernel
theorem dX10_copyFrom_46 : decode cX10_copyFrom 46 = .ok (.iload_n 2, 1) := by decide +kernel
theorem dX10_copyFrom_47 : decode cX10_copyFrom 47 = .ok (.aload_n 1, 1) := by decide +kernel
theorem dX10_copyFrom_48 : decode cX10_copyFrom 48 = .ok (.getfield 18, 3) := by decide +kernel
theorem dX10_copyFrom_51 : decode cX10_copyFrom 51 = .ok (.iload_n 2, 1) := by decide +kernel
theorem dX10_copyFrom_52 : decode cX10_copyFrom 52 = .ok (.iaload, 1) := by decide +kernel
theorem dX10_copyFrom_53 : decode cX10_copyFrom 53 = .ok (.iastore, 1) := by decide +kernel
theorem dX10_copyFrom_54 : decode cX10_copyFrom 54 = .ok (.aload_n 0, 1) := by decide +kernel
theorem dX10_copyFrom_55 : decode cX10_copyFrom 55 = .ok (.getfield 21, 3) := by decide +kernel
theorem dX10_copyFrom_58 : decode cX10_copyFrom 58 = .ok (.iload_n 2, 1) := by decide +kernel
theorem dX10_copyFrom_59 : decode cX10_copyFrom 59 = .ok (.aload_n 1, 1) := by decide +kernel
theorem dX10_copyFrom_60 : decode cX10_copyFrom 60 = .ok (.getfield 21, 3) := by decide +kernel
theorem dX10_copyFrom_63 : decode cX10_copyFrom 63 = .ok (.iload_n 2, 1) := by decide +kernel
theorem dX10_copyFrom_64 : decode cX10_copyFrom 64 = .ok (.iaload, 1) := by decide +kernel
theorem dX10_copyFrom_65 : decode cX10_copyFrom 65 = .ok (.iastore, 1) := by decide +kernel
theorem dX10_copyFrom_66 : decode cX10_copyFrom 66 = .ok (.iinc 2 1, 3) := by decide +kernel
theorem dX10_copyFrom_69 : decode cX10_copyFrom 69 = .ok (.goto (-59), 3) := by decide +kernel
theorem dX10_copyFrom_72 : decode cX10_copyFrom 72 = .ok (.return_, 1) := by decide +kernel
theorem dJ11_isValidCodePoint_9a6ad_0 : decode cJ11_isValidCodePoint_9a6ad 0 = .ok (.iload_n 0, 1) := by decide +kernel
theorem dJ11_isValidCodePoint_9a6ad_1 : decode cJ11_isValidCodePoint_9a6ad 1 = .ok (.bipush 16, 2) := by decide +kernel
theorem dJ11_isValidCodePoint_9a6ad_3 : decode cJ11_isValidCodePoint_9a6ad 3 = .ok (.iushr, 1) := by decide +kernel
theorem dJ11_isValidCodePoint_9a6ad_4 : decode cJ11_isValidCodePoint_9a6ad 4 = .ok (.istore_n 1, 1) := by decide +kernel
theorem dJ11_isValidCodePoint_9a6ad_5 : decode cJ11_isValidCodePoint_9a6ad 5 = .ok (.iload_n 1, 1) := by decide +kernel
theorem dJ11_isValidCodePoint_9a6ad_6 : decode cJ11_isValidCodePoint_9a6ad 6 = .ok (.bipush 17, 2) := by decide +kernel
theorem dJ11_isValidCodePoint_9a6ad_8 : decode cJ11_isValidCodePoint_9a6ad 8 = .ok (.if_icmp .ge 7, 3) := by decide +kernel
theorem dJ11_isValidCodePoint_9a6ad_11 : decode cJ11_isValidCodePoint_9a6ad 11 = .ok (.iconst 1, 1) := by decide +kernel
theorem dJ11_isValidCodePoint_9a6ad_12 : decode cJ11_isValidCodePoint_9a6ad 12 = .ok (.goto 4, 3) := by decide +kernel
theorem dJ11_isValidCodePoint_9a6ad_15 : decode cJ11_isValidCodePoint_9a6ad 15 = .ok (.iconst 0, 1) := by decide +kernel
theorem dJ11_isValidCodePoint_9a6ad_16 : decode cJ11_isValidCodePoint_9a6ad 16 = .ok (.ireturn, 1) := by decide +kernel
theorem dJ11_highSurrogate_5068e_0 : decode cJ11_highSurrogate_5068e 0 = .ok (.iload_n 0, 1) := by decide +kernel
theorem dJ11_highSurrogate_5068e_1 : decode cJ11_highSurrogate_5068e 1 = .ok (.bipush 10, 2) := by decide +kernel
theorem dJ11_highSurrogate_5068e_3 : decode cJ11_highSurrogate_5068e 3 = .ok (.iushr, 1) := by decide +kernel
theorem dJ11_highSurrogate_5068e_4 : decode cJ11_highSurrogate_5068e 4 = .ok (.ldc 110, 2) := by decide +kernel
theorem dJ11_highSurrogate_5068e_6 : decode cJ11_highSurrogate_5068e 6 = .ok (.iadd, 1) := by decide +kernel
theorem dJ11_highSurrogate_5068e_7 : decode cJ11_highSurrogate_5068e 7 = .ok (.i2c, 1) := by decide +kernel
theorem dJ11_highSurrogate_5068e_8 : decode cJ11_highSurrogate_5068e 8 = .ok (.ireturn, 1) := by decide +kernel
theorem dJ11_lowSurrogate_5068e_0 : decode cJ11_lowSurrogate_5068e 0 = .ok (.iload_n 0, 1) := by decide +kernel
theorem dJ11_lowSurrogate_5068e_1 : decode cJ11_lowSurrogate_5068e 1 = .ok (.sipush 1023, 3) := by decide +kernel
theorem dJ11_lowSurrogate_5068e_4 : decode cJ11_lowSurrogate_5068e 4 = .ok (.iand, 1) := by decide +kernel
theorem dJ11_lowSurrogate_5068e_5 : decode cJ11_lowSurrogate_5068e 5 = .ok (.ldc 76, 2) := by decide +kernel
theorem dJ11_lowSurrogate_5068e_7 : decode cJ11_lowSurrogate_5068e 7 = .ok (.iadd, 1) := by decide +kernel
theorem dJ11_lowSurrogate_5068e_8 : decode cJ11_lowSurrogate_5068e 8 = .ok (.i2c, 1) := by decide +kernel
theorem dJ11_lowSurrogate_5068e_9 : decode cJ11_lowSurrogate_5068e 9 = .ok (.ireturn, 1) := by decide +kernel
theorem dJ6_bitCount_0f7a4_0 : decode cJ6_bitCount_0f7a4 0 = .ok (.iload_n 0, 1) := by decide +kernel
theorem dJ6_bitCount_0f7a4_1 : decode cJ6_bitCount_0f7a4 1 = .ok (.iload_n 0, 1) := by decide +kernel
theorem dJ6_bitCount_0f7a4_2 : decode cJ6_bitCount_0f7a4 2 = .ok (.iconst 1, 1) := by decide +kernel
theorem dJ6_bitCount_0f7a4_3 : decode cJ6_bitCount_0f7a4 3 = .ok (.iushr, 1) := by decide +kernel
theorem dJ6_bitCount_0f7a4_4 : decode cJ6_bitCount_0f7a4 4 = .ok (.ldc_w 265, 3) := by decide +kernel
theorem dJ6_bitCount_0f7a4_7 : decode cJ6_bitCount_0f7a4 7 = .ok (.iand, 1) := by decide +kernel
theorem dJ6_bitCount_0f7a4_8 : decode cJ6_bitCount_0f7a4 8 = .ok (.isub, 1) := by decide +kernel
theorem dJ6_bitCount_0f7a4_9 : decode cJ6_bitCount_0f7a4 9 = .ok (.istore_n 0, 1) := by decide +kernel
theorem dJ6_bitCount_0f7a4_10 : decode cJ6_bitCount_0f7a4 10 = .ok (.iload_n 0, 1) := by decide +kernel
theorem dJ6_bitCount_0f7a4_11 : decode cJ6_bitCount_0f7a4 11 = .ok (.ldc_w 266, 3) := by decide +kernel
theorem dJ6_bitCount_0f7a4_14 : decode cJ6_bitCount_0f7a4 14 = .ok (.iand, 1) := by decide +kernel
theorem dJ6_bitCount_0f7a4_15 : decode cJ6_bitCount_0f7a4 15 = .ok (.iload_n 0, 1) := by decide +kernel
theorem dJ6_bitCount_0f7a4_16 : decode cJ6_bitCount_0f7a4 16 = .ok (.iconst 2, 1) := by decide +kernel
theorem dJ6_bitCount_0f7a4_17 : decode cJ6_bitCount_0f7a4 17 = .ok (.iushr, 1) := by decide +kernel
theorem dJ6_bitCount_0f7a4_18 : decode cJ6_bitCount_0f7a4 18 = .ok (.ldc_w 266, 3) := by decide +kernel
theorem dJ6_bitCount_0f7a4_21 : decode cJ6_bitCount_0f7a4 21 = .ok (.iand, 1) := by decide +kernel
theorem dJ6_bitCount_0f7a4_22 : decode cJ6_bitCount_0f7a4 22 = .ok (.iadd, 1) := by decide +kernel
theorem dJ6_bitCount_0f7a4_23 : decode cJ6_bitCount_0f7a4 23 = .ok (.istore_n 0, 1) := by decide +kernel
theorem dJ6_bitCount_0f7a4_24 : decode cJ6_bitCount_0f7a4 24 = .ok (.iload_n 0, 1) := by decide +kernel
theorem dJ6_bitCount_0f7a4_25 : decode cJ6_bitCount_0f7a4 25 = .ok (.iload_n 0, 1) := by decide +kernel
theorem dJ6_bitCount_0f7a4_26 : decode cJ6_bitCount_0f7a4 26 = .ok (.iconst 4, 1) := by decide +kernel
theorem dJ6_bitCount_0f7a4_27 : decode cJ6_bitCount_0f7a4 27 = .ok (.iushr, 1) := by decide +kernel
theorem dJ6_bitCount_0f7a4_28 : decode cJ6_bitCount_0f7a4 28 = .ok (.iadd, 1) := by decide +kernel
theorem dJ6_bitCount_0f7a4_29 : decode cJ6_bitCount_0f7a4 29 = .ok (.ldc_w 267, 3) := by decide +kernel
theorem dJ6_bitCount_0f7a4_32 : decode cJ6_bitCount_0f7a4 32 = .ok (.iand, 1) := by decide +kernel
theorem dJ6_bitCount_0f7a4_33 : decode cJ6_bitCount_0f7a4 33 = .ok (.istore_n 0, 1) := by decide +kernel
theorem dJ6_bitCount_0f7a4_34 : decode cJ6_bitCount_0f7a4 34 = .ok (.iload_n 0, 1) := by decide +kernel
theorem dJ6_bitCount_0f7a4_35 : decode cJ6_bitCount_0f7a4 35 = .ok (.iload_n 0, 1) := by decide +kernel
theorem dJ6_bitCount_0f7a4_36 : decode cJ6_bitCount_0f7a4 36 = .ok (.bipush 8, 2) := by decide +kernel
theorem dJ6_bitCount_0f7a4_38 : decode cJ6_bitCount_0f7a4 38 = .ok (.iushr, 1) := by decide +kernel
theorem dJ6_bitCount_0f7a4_39 : decode cJ6_bitCount_0f7a4 39 = .ok (.iadd, 1) := by decide +kernel
theorem dJ6_bitCount_0f7a4_40 : decode cJ6_bitCount_0f7a4 40 = .ok (.istore_n 0, 1) := by decide +kernel
theorem dJ6_bitCount_0f7a4_41 : decode cJ6_bitCount_0f7a4 41 = .ok (.iload_n 0, 1) := by decide +kernel
theorem dJ6_bitCount_0f7a4_42 : decode cJ6_bitCount_0f7a4 42 = .ok (.iload_n 0, 1) := by decide +kernel
theorem dJ6_bitCount_0f7a4_43 : decode cJ6_bitCount_0f7a4 43 = .ok (.bipush 16, 2) := by decide +kernel
theorem dJ6_bitCount_0f7a4_45 : decode cJ6_bitCount_0f7a4 45 = .ok (.iushr, 1) := by decide +kernel
theorem dJ6_bitCount_0f7a4_46 : decode cJ6_bitCount_0f7a4 46 = .ok (.iadd, 1) := by decide +kernel
theorem dJ6_bitCount_0f7a4_47 : decode cJ6_bitCount_0f7a4 47 = .ok (.istore_n 0, 1) := by decide +kernel
theorem dJ6_bitCount_0f7a4_48 : decode cJ6_bitCount_0f7a4 48 = .ok (.iload_n 0, 1) := by decide +kernel
theorem dJ6_bitCount_0f7a4_49 : decode cJ6_bitCount_0f7a4 49 = .ok (.bipush 63, 2) := by decide +kernel
theorem dJ6_bitCount_0f7a4_51 : decode cJ6_bitCount_0f7a4 51 = .ok (.iand, 1) := by decide +kernel
theorem dJ6_bitCount_0f7a4_52 : decode cJ6_bitCount_0f7a4 52 = .ok (.ireturn, 1) := by decide +kernel
theorem dJ9_max_7cf53_0 : decode cJ9_max_7cf53 0 = .ok (.iload_n 0, 1) := by decide +kernel
theorem dJ9_max_7cf53_1 : decode cJ9_max_7cf53 1 = .ok (.iload_n 1, 1) := by decide +kernel
theorem dJ9_max_7cf53_2 : decode cJ9_max_7cf53 2 = .ok (.if_icmp .lt 7, 3) := by decide +kernel
theorem dJ9_max_7cf53_5 : decode cJ9_max_7cf53 5 = .ok (.iload_n 0, 1) := by decide +kernel
theorem dJ9_max_7cf53_6 : decode cJ9_max_7cf53 6 = .ok (.goto 4, 3) := by decide +kernel
theorem dJ9_max_7cf53_9 : decode cJ9_max_7cf53 9 = .ok (.iload_n 1, 1) := by decide +kernel
theorem dJ9_max_7cf53_10 : decode cJ9_max_7cf53 10 = .ok (.ireturn, 1) := by decide +kernel
theorem dJ9_max_f86c9_0 : decode cJ9_max_f86c9 0 = .ok (.lload_n 0, 1) := by decide +kernel
theorem dJ9_max_f86c9_1 : decode cJ9_max_f86c9 1 = .ok (.lload_n 2, 1) := by decide +kernel
theorem dJ9_max_f86c9_2 : decode cJ9_max_f86c9 2 = .ok (.lcmp, 1) := by decide +kernel
theorem dJ9_max_f86c9_3 : decode cJ9_max_f86c9 3 = .ok (.ifCond .lt 7, 3) := by decide +kernel
theorem dJ9_max_f86c9_6 : decode cJ9_max_f86c9 6 = .ok (.lload_n 0, 1) := by decide +kernel
theorem dJ9_max_f86c9_7 : decode cJ9_max_f86c9 7 = .ok (.goto 4, 3) := by decide +kernel
theorem dJ9_max_f86c9_10 : decode cJ9_max_f86c9 10 = .ok (.lload_n 2, 1) := by decide +kernel
theorem dJ9_max_f86c9_11 : decode cJ9_max_f86c9 11 = .ok (.lreturn, 1) := by decide +kernel
theorem dJ9_min_7cf53_0 : decode cJ9_min_7cf53 0 = .ok (.iload_n 0, 1) := by decide +kernel
theorem dJ9_min_7cf53_1 : decode cJ9_min_7cf53 1 = .ok (.iload_n 1, 1) := by decide +kernel
theorem dJ9_min_7cf53_2 : decode cJ9_min_7cf53 2 = .ok (.if_icmp .gt 7, 3) := by decide +kernel
theorem dJ9_min_7cf53_5 : decode cJ9_min_7cf53 5 = .ok (.iload_n 0, 1) := by decide +kernel
theorem dJ9_min_7cf53_6 : decode cJ9_min_7cf53 6 = .ok (.goto 4, 3) := by decide +kernel
theorem dJ9_min_7cf53_9 : decode cJ9_min_7cf53 9 = .ok (.iload_n 1, 1) := by decide +kernel
theorem dJ9_min_7cf53_10 : decode cJ9_min_7cf53 10 = .ok (.ireturn, 1) := by decide +kernel
theorem dJ9_min_f86c9_0 : decode cJ9_min_f86c9 0 = .ok (.lload_n 0, 1) := by decide +kernel
theorem dJ9_min_f86c9_1 : decode cJ9_min_f86c9 1 = .ok (.lload_n 2, 1) := by decide +kernel
theorem dJ9_min_f86c9_2 : decode cJ9_min_f86c9 2 = .ok (.lcmp, 1) := by decide +kernel
theorem dJ9_min_f86c9_3 : decode cJ9_min_f86c9 3 = .ok (.ifCond .gt 7, 3) := by decide +kernel
theorem dJ9_min_f86c9_6 : decode cJ9_min_f86c9 6 = .ok (.lload_n 0, 1) := by decide +kernel
theorem dJ9_min_f86c9_7 : decode cJ9_min_f86c9 7 = .ok (.goto 4, 3) := by decide +kernel
theorem dJ9_min_f86c9_10 : decode cJ9_min_f86c9 10 = .ok (.lload_n 2, 1) := by decide +kernel
theorem dJ9_min_f86c9_11 : decode cJ9_min_f86c9 11 = .ok (.lreturn, 1) := by decide +kernel
theorem dJ0_length_8abf5_0 : decode cJ0_length_8abf5 0 = .ok (.aload_n 0, 1) := by decide +kernel
theorem dJ0_length_8abf5_1 : decode cJ0_length_8abf5 1 = .ok (.getfield 9, 3) := by decide +kernel
theorem dJ0_length_8abf5_4 : decode cJ0_length_8abf5 4 = .ok (.arraylength, 1) := by decide +kernel
theorem dJ0_length_8abf5_5 : decode cJ0_length_8abf5 5 = .ok (.aload_n 0, 1) := by decide +kernel
theorem dJ0_length_8abf5_6 : decode cJ0_length_8abf5 6 = .ok (.invokevirtual 335, 3) := by decide +kernel
theorem dJ0_length_8abf5_9 : decode cJ0_length_8abf5 9 = .ok (.ishr, 1) := by decide +kernel
theorem dJ0_length_8abf5_10 : decode cJ0_length_8abf5 10 = .ok (.ireturn, 1) := by decide +kernel
theorem dJ0_charAt_5068e_0 : decode cJ0_charAt_5068e 0 = .ok (.aload_n 0, 1) := by decide +kernel
theorem dJ0_charAt_5068e_1 : decode cJ0_charAt_5068e 1 = .ok (.invokevirtual 492, 3) := by decide +kernel
theorem dJ0_charAt_5068e_4 : decode cJ0_charAt_5068e 4 = .ok (.ifCond .eq 12, 3) := by decide +kernel
theorem dJ0_charAt_5068e_7 : decode cJ0_charAt_5068e 7 = .ok (.aload_n 0, 1) := by decide +kernel
theorem dJ0_charAt_5068e_8 : decode cJ0_charAt_5068e 8 = .ok (.getfield 9, 3) := by decide +kernel
theorem dJ0_charAt_5068e_11 : decode cJ0_charAt_5068e 11 = .ok (.iload_n 1, 1) := by decide +kernel
theorem dJ0_charAt_5068e_12 : decode cJ0_charAt_5068e 12 = .ok (.invokestatic 495, 3) := by decide +kernel
theorem dJ0_charAt_5068e_15 : decode cJ0_charAt_5068e 15 = .ok (.ireturn, 1) := by decide +kernel
theorem dJ0_charAt_5068e_16 : decode cJ0_charAt_5068e 16 = .ok (.aload_n 0, 1) := by decide +kernel
theorem dJ0_charAt_5068e_17 : decode cJ0_charAt_5068e 17 = .ok (.getfield 9, 3) := by decide +kernel
theorem dJ0_charAt_5068e_20 : decode cJ0_charAt_5068e 20 = .ok (.iload_n 1, 1) := by decide +kernel
theorem dJ0_charAt_5068e_21 : decode cJ0_charAt_5068e 21 = .ok (.invokestatic 498, 3) := by decide +kernel
theorem dJ0_charAt_5068e_24 : decode cJ0_charAt_5068e 24 = .ok (.ireturn, 1) := by decide +kernel
theorem dJ0_indexOf_0f7a4_0 : decode cJ0_indexOf_0f7a4 0 = .ok (.aload_n 0, 1) := by decide +kernel
theorem dJ0_indexOf_0f7a4_1 : decode cJ0_indexOf_0f7a4 1 = .ok (.iload_n 1, 1) := by decide +kernel
theorem dJ0_indexOf_0f7a4_2 : decode cJ0_indexOf_0f7a4 2 = .ok (.iconst 0, 1) := by decide +kernel
theorem dJ0_indexOf_0f7a4_3 : decode cJ0_indexOf_0f7a4 3 = .ok (.invokevirtual 633, 3) := by decide +kernel
theorem dJ0_indexOf_0f7a4_6 : decode cJ0_indexOf_0f7a4 6 = .ok (.ireturn, 1) := by decide +kernel
theorem dJ0_indexOf_7cf53_0 : decode cJ0_indexOf_7cf53 0 = .ok (.aload_n 0, 1) := by decide +kernel
theorem dJ0_indexOf_7cf53_1 : decode cJ0_indexOf_7cf53 1 = .ok (.invokevirtual 492, 3) := by decide +kernel
theorem dJ0_indexOf_7cf53_4 : decode cJ0_indexOf_7cf53 4 = .ok (.ifCond .eq 19, 3) := by decide +kernel
theorem dJ0_indexOf_7cf53_7 : decode cJ0_indexOf_7cf53 7 = .ok (.aload_n 0, 1) := by decide +kernel
theorem dJ0_indexOf_7cf53_8 : decode cJ0_indexOf_7cf53 8 = .ok (.getfield 9, 3) := by decide +kernel
theorem dJ0_indexOf_7cf53_11 : decode cJ0_indexOf_7cf53 11 = .ok (.iload_n 1, 1) := by decide +kernel
theorem dJ0_indexOf_7cf53_12 : decode cJ0_indexOf_7cf53 12 = .ok (.iload_n 2, 1) := by decide +kernel
theorem dJ0_indexOf_7cf53_13 : decode cJ0_indexOf_7cf53 13 = .ok (.aload_n 0, 1) := by decide +kernel
theorem dJ0_indexOf_7cf53_14 : decode cJ0_indexOf_7cf53 14 = .ok (.invokevirtual 505, 3) := by decide +kernel
theorem dJ0_indexOf_7cf53_17 : decode cJ0_indexOf_7cf53 17 = .ok (.invokestatic 637, 3) := by decide +kernel
theorem dJ0_indexOf_7cf53_20 : decode cJ0_indexOf_7cf53 20 = .ok (.goto 16, 3) := by decide +kernel
theorem dJ0_indexOf_7cf53_23 : decode cJ0_indexOf_7cf53 23 = .ok (.aload_n 0, 1) := by decide +kernel
theorem dJ0_indexOf_7cf53_24 : decode cJ0_indexOf_7cf53 24 = .ok (.getfield 9, 3) := by decide +kernel
theorem dJ0_indexOf_7cf53_27 : decode cJ0_indexOf_7cf53 27 = .ok (.iload_n 1, 1) := by decide +kernel
theorem dJ0_indexOf_7cf53_28 : decode cJ0_indexOf_7cf53 28 = .ok (.iload_n 2, 1) := by decide +kernel
theorem dJ0_indexOf_7cf53_29 : decode cJ0_indexOf_7cf53 29 = .ok (.aload_n 0, 1) := by decide +kernel
theorem dJ0_indexOf_7cf53_30 : decode cJ0_indexOf_7cf53 30 = .ok (.invokevirtual 505, 3) := by decide +kernel
theorem dJ0_indexOf_7cf53_33 : decode cJ0_indexOf_7cf53 33 = .ok (.invokestatic 640, 3) := by decide +kernel
theorem dJ0_indexOf_7cf53_36 : decode cJ0_indexOf_7cf53 36 = .ok (.ireturn, 1) := by decide +kernel
theorem dJ0_coder_7d493_0 : decode cJ0_coder_7d493 0 = .ok (.getstatic 38, 3) := by decide +kernel
theorem dJ0_coder_7d493_3 : decode cJ0_coder_7d493 3 = .ok (.ifCond .eq 10, 3) := by decide +kernel
theorem dJ0_coder_7d493_6 : decode cJ0_coder_7d493 6 = .ok (.aload_n 0, 1) := by decide +kernel
theorem dJ0_coder_7d493_7 : decode cJ0_coder_7d493 7 = .ok (.getfield 15, 3) := by decide +kernel
theorem dJ0_coder_7d493_10 : decode cJ0_coder_7d493 10 = .ok (.goto 4, 3) := by decide +kernel
theorem dJ0_coder_7d493_13 : decode cJ0_coder_7d493 13 = .ok (.iconst 1, 1) := by decide +kernel
theorem dJ0_coder_7d493_14 : decode cJ0_coder_7d493 14 = .ok (.ireturn, 1) := by decide +kernel
theorem dJ0_isLatin1_aae02_0 : decode cJ0_isLatin1_aae02 0 = .ok (.getstatic 38, 3) := by decide +kernel
theorem dJ0_isLatin1_aae02_3 : decode cJ0_isLatin1_aae02 3 = .ok (.ifCond .eq 14, 3) := by decide +kernel
theorem dJ0_isLatin1_aae02_6 : decode cJ0_isLatin1_aae02 6 = .ok (.aload_n 0, 1) := by decide +kernel
theorem dJ0_isLatin1_aae02_7 : decode cJ0_isLatin1_aae02 7 = .ok (.getfield 15, 3) := by decide +kernel
theorem dJ0_isLatin1_aae02_10 : decode cJ0_isLatin1_aae02 10 = .ok (.ifCond .ne 7, 3) := by decide +kernel
theorem dJ0_isLatin1_aae02_13 : decode cJ0_isLatin1_aae02 13 = .ok (.iconst 1, 1) := by decide +kernel
theorem dJ0_isLatin1_aae02_14 : decode cJ0_isLatin1_aae02 14 = .ok (.goto 4, 3) := by decide +kernel
theorem dJ0_isLatin1_aae02_17 : decode cJ0_isLatin1_aae02 17 = .ok (.iconst 0, 1) := by decide +kernel
theorem dJ0_isLatin1_aae02_18 : decode cJ0_isLatin1_aae02 18 = .ok (.ireturn, 1) := by decide +kernel
theorem dJ0_checkIndex_df160_0 : decode cJ0_checkIndex_df160 0 = .ok (.iload_n 0, 1) := by decide +kernel
theorem dJ0_checkIndex_df160_1 : decode cJ0_checkIndex_df160 1 = .ok (.iload_n 1, 1) := by decide +kernel
theorem dJ0_checkIndex_df160_2 : decode cJ0_checkIndex_df160 2 = .ok (.getstatic 1053, 3) := by decide +kernel
theorem dJ0_checkIndex_df160_5 : decode cJ0_checkIndex_df160 5 = .ok (.invokestatic 1059, 3) := by decide +kernel
theorem dJ0_checkIndex_df160_8 : decode cJ0_checkIndex_df160 8 = .ok (.pop, 1) := by decide +kernel
theorem dJ0_checkIndex_df160_9 : decode cJ0_checkIndex_df160 9 = .ok (.return_, 1) := by decide +kernel
theorem dJ0_checkBoundsBeginEnd_23922_0 : decode cJ0_checkBoundsBeginEnd_23922 0 = .ok (.iload_n 0, 1) := by decide +kernel
theorem dJ0_checkBoundsBeginEnd_23922_1 : decode cJ0_checkBoundsBeginEnd_23922 1 = .ok (.iload_n 1, 1) := by decide +kernel
theorem dJ0_checkBoundsBeginEnd_23922_2 : decode cJ0_checkBoundsBeginEnd_23922 2 = .ok (.iload_n 2, 1) := by decide +kernel
theorem dJ0_checkBoundsBeginEnd_23922_3 : decode cJ0_checkBoundsBeginEnd_23922 3 = .ok (.getstatic 1053, 3) := by decide +kernel
theorem dJ0_checkBoundsBeginEnd_23922_6 : decode cJ0_checkBoundsBeginEnd_23922 6 = .ok (.invokestatic 1062, 3) := by decide +kernel
theorem dJ0_checkBoundsBeginEnd_23922_9 : decode cJ0_checkBoundsBeginEnd_23922 9 = .ok (.pop, 1) := by decide +kernel
theorem dJ0_checkBoundsBeginEnd_23922_10 : decode cJ0_checkBoundsBeginEnd_23922 10 = .ok (.return_, 1) := by decide +kernel
theorem dJ1_charAt_3b067_0 : decode cJ1_charAt_3b067 0 = .ok (.iload_n 1, 1) := by decide +kernel
theorem dJ1_charAt_3b067_1 : decode cJ1_charAt_3b067 1 = .ok (.aload_n 0, 1) := by decide +kernel
theorem dJ1_charAt_3b067_2 : decode cJ1_charAt_3b067 2 = .ok (.arraylength, 1) := by decide +kernel
theorem dJ1_charAt_3b067_3 : decode cJ1_charAt_3b067 3 = .ok (.invokestatic 9, 3) := by decide +kernel
theorem dJ1_charAt_3b067_6 : decode cJ1_charAt_3b067 6 = .ok (.aload_n 0, 1) := by decide +kernel
theorem dJ1_charAt_3b067_7 : decode cJ1_charAt_3b067 7 = .ok (.iload_n 1, 1) := by decide +kernel
theorem dJ1_charAt_3b067_8 : decode cJ1_charAt_3b067 8 = .ok (.baload, 1) := by decide +kernel
theorem dJ1_charAt_3b067_9 : decode cJ1_charAt_3b067 9 = .ok (.sipush 255, 3) := by decide +kernel
theorem dJ1_charAt_3b067_12 : decode cJ1_charAt_3b067 12 = .ok (.iand, 1) := by decide +kernel
theorem dJ1_charAt_3b067_13 : decode cJ1_charAt_3b067 13 = .ok (.i2c, 1) := by decide +kernel
theorem dJ1_charAt_3b067_14 : decode cJ1_charAt_3b067 14 = .ok (.ireturn, 1) := by decide +kernel
theorem dJ1_canEncode_9a6ad_0 : decode cJ1_canEncode_9a6ad 0 = .ok (.iload_n 0, 1) := by decide +kernel
theorem dJ1_canEncode_9a6ad_1 : decode cJ1_canEncode_9a6ad 1 = .ok (.ifCond .lt 14, 3) := by decide +kernel
theorem dJ1_canEncode_9a6ad_4 : decode cJ1_canEncode_9a6ad 4 = .ok (.iload_n 0, 1) := by decide +kernel
theorem dJ1_canEncode_9a6ad_5 : decode cJ1_canEncode_9a6ad 5 = .ok (.sipush 255, 3) := by decide +kernel
theorem dJ1_canEncode_9a6ad_8 : decode cJ1_canEncode_9a6ad 8 = .ok (.if_icmp .gt 7, 3) := by decide +kernel
theorem dJ1_canEncode_9a6ad_11 : decode cJ1_canEncode_9a6ad 11 = .ok (.iconst 1, 1) := by decide +kernel
theorem dJ1_canEncode_9a6ad_12 : decode cJ1_canEncode_9a6ad 12 = .ok (.goto 4, 3) := by decide +kernel
theorem dJ1_canEncode_9a6ad_15 : decode cJ1_canEncode_9a6ad 15 = .ok (.iconst 0, 1) := by decide +kernel
theorem dJ1_canEncode_9a6ad_16 : decode cJ1_canEncode_9a6ad 16 = .ok (.ireturn, 1) := by decide +kernel
theorem dJ1_indexOf_4cfef_0 : decode cJ1_indexOf_4cfef 0 = .ok (.iload_n 1, 1) := by decide +kernel
theorem dJ1_indexOf_4cfef_1 : decode cJ1_indexOf_4cfef 1 = .ok (.invokestatic 88, 3) := by decide +kernel
theorem dJ1_indexOf_4cfef_4 : decode cJ1_indexOf_4cfef 4 = .ok (.ifCond .ne 5, 3) := by decide +kernel
theorem dJ1_indexOf_4cfef_7 : decode cJ1_indexOf_4cfef 7 = .ok (.iconst (-1), 1) := by decide +kernel
theorem dJ1_indexOf_4cfef_8 : decode cJ1_indexOf_4cfef 8 = .ok (.ireturn, 1) := by decide +kernel
theorem dJ1_indexOf_4cfef_9 : decode cJ1_indexOf_4cfef 9 = .ok (.iload_n 2, 1) := by decide +kernel
theorem dJ1_indexOf_4cfef_10 : decode cJ1_indexOf_4cfef 10 = .ok (.iconst 0, 1) := by decide +kernel
theorem dJ1_indexOf_4cfef_11 : decode cJ1_indexOf_4cfef 11 = .ok (.invokestatic 92, 3) := by decide +kernel
theorem dJ1_indexOf_4cfef_14 : decode cJ1_indexOf_4cfef 14 = .ok (.istore_n 2, 1) := by decide +kernel
theorem dJ1_indexOf_4cfef_15 : decode cJ1_indexOf_4cfef 15 = .ok (.iload_n 3, 1) := by decide +kernel
theorem dJ1_indexOf_4cfef_16 : decode cJ1_indexOf_4cfef 16 = .ok (.aload_n 0, 1) := by decide +kernel
theorem dJ1_indexOf_4cfef_17 : decode cJ1_indexOf_4cfef 17 = .ok (.arraylength, 1) := by decide +kernel
theorem dJ1_indexOf_4cfef_18 : decode cJ1_indexOf_4cfef 18 = .ok (.invokestatic 38, 3) := by decide +kernel
theorem dJ1_indexOf_4cfef_21 : decode cJ1_indexOf_4cfef 21 = .ok (.istore_n 3, 1) := by decide +kernel
theorem dJ1_indexOf_4cfef_22 : decode cJ1_indexOf_4cfef 22 = .ok (.iload_n 2, 1) := by decide +kernel
theorem dJ1_indexOf_4cfef_23 : decode cJ1_indexOf_4cfef 23 = .ok (.iload_n 3, 1) := by decide +kernel
theorem dJ1_indexOf_4cfef_24 : decode cJ1_indexOf_4cfef 24 = .ok (.if_icmp .lt 5, 3) := by decide +kernel
theorem dJ1_indexOf_4cfef_27 : decode cJ1_indexOf_4cfef 27 = .ok (.iconst (-1), 1) := by decide +kernel
theorem dJ1_indexOf_4cfef_28 : decode cJ1_indexOf_4cfef 28 = .ok (.ireturn, 1) := by decide +kernel
theorem dJ1_indexOf_4cfef_29 : decode cJ1_indexOf_4cfef 29 = .ok (.aload_n 0, 1) := by decide +kernel
theorem dJ1_indexOf_4cfef_30 : decode cJ1_indexOf_4cfef 30 = .ok (.iload_n 1, 1) := by decide +kernel
theorem dJ1_indexOf_4cfef_31 : decode cJ1_indexOf_4cfef 31 = .ok (.iload_n 2, 1) := by decide +kernel
theorem dJ1_indexOf_4cfef_32 : decode cJ1_indexOf_4cfef 32 = .ok (.iload_n 3, 1) := by decide +kernel
theorem dJ1_indexOf_4cfef_33 : decode cJ1_indexOf_4cfef 33 = .ok (.invokestatic 95, 3) := by decide +kernel
theorem dJ1_indexOf_4cfef_36 : decode cJ1_indexOf_4cfef 36 = .ok (.ireturn, 1) := by decide +kernel
theorem dJ1_indexOfChar_4cfef_0 : decode cJ1_indexOfChar_4cfef 0 = .ok (.iload_n 1, 1) := by decide +kernel
theorem dJ1_indexOfChar_4cfef_1 : decode cJ1_indexOfChar_4cfef 1 = .ok (.i2b, 1) := by decide +kernel
theorem dJ1_indexOfChar_4cfef_2 : decode cJ1_indexOfChar_4cfef 2 = .ok (.istore 4, 2) := by decide +kernel
theorem dJ1_indexOfChar_4cfef_4 : decode cJ1_indexOfChar_4cfef 4 = .ok (.iload_n 2, 1) := by decide +kernel
theorem dJ1_indexOfChar_4cfef_5 : decode cJ1_indexOfChar_4cfef 5 = .ok (.istore 5, 2) := by decide +kernel
theorem dJ1_indexOfChar_4cfef_7 : decode cJ1_indexOfChar_4cfef 7 = .ok (.iload 5, 2) := by decide +kernel
theorem dJ1_indexOfChar_4cfef_9 : decode cJ1_indexOfChar_4cfef 9 = .ok (.iload_n 3, 1) := by decide +kernel
theorem dJ1_indexOfChar_4cfef_10 : decode cJ1_indexOfChar_4cfef 10 = .ok (.if_icmp .ge 21, 3) := by decide +kernel
theorem dJ1_indexOfChar_4cfef_13 : decode cJ1_indexOfChar_4cfef 13 = .ok (.aload_n 0, 1) := by decide +kernel
theorem dJ1_indexOfChar_4cfef_14 : decode cJ1_indexOfChar_4cfef 14 = .ok (.iload 5, 2) := by decide +kernel
theorem dJ1_indexOfChar_4cfef_16 : decode cJ1_indexOfChar_4cfef 16 = .ok (.baload, 1) := by decide +kernel
theorem dJ1_indexOfChar_4cfef_17 : decode cJ1_indexOfChar_4cfef 17 = .ok (.iload 4, 2) := by decide +kernel
theorem dJ1_indexOfChar_4cfef_19 : decode cJ1_indexOfChar_4cfef 19 = .ok (.if_icmp .ne 6, 3) := by decide +kernel
theorem dJ1_indexOfChar_4cfef_22 : decode cJ1_indexOfChar_4cfef 22 = .ok (.iload 5, 2) := by decide +kernel
theorem dJ1_indexOfChar_4cfef_24 : decode cJ1_indexOfChar_4cfef 24 = .ok (.ireturn, 1) := by decide +kernel
theorem dJ1_indexOfChar_4cfef_25 : decode cJ1_indexOfChar_4cfef 25 = .ok (.iinc 5 1, 3) := by decide +kernel
theorem dJ1_indexOfChar_4cfef_28 : decode cJ1_indexOfChar_4cfef 28 = .ok (.goto (-21), 3) := by decide +kernel
theorem dJ1_indexOfChar_4cfef_31 : decode cJ1_indexOfChar_4cfef 31 = .ok (.iconst (-1), 1) := by decide +kernel
theorem dJ1_indexOfChar_4cfef_32 : decode cJ1_indexOfChar_4cfef 32 = .ok (.ireturn, 1) := by decide +kernel
theorem dJ2_getChar_3b067_0 : decode cJ2_getChar_3b067 0 = .ok (.getstatic 44, 3) := by decide +kernel
theorem dJ2_getChar_3b067_3 : decode cJ2_getChar_3b067 3 = .ok (.ifCond .ne 25, 3) := by decide +kernel
theorem dJ2_getChar_3b067_6 : decode cJ2_getChar_3b067 6 = .ok (.iload_n 1, 1) := by decide +kernel
theorem dJ2_getChar_3b067_7 : decode cJ2_getChar_3b067 7 = .ok (.ifCond .lt 11, 3) := by decide +kernel
theorem dJ2_getChar_3b067_10 : decode cJ2_getChar_3b067 10 = .ok (.iload_n 1, 1) := by decide +kernel
theorem dJ2_getChar_3b067_11 : decode cJ2_getChar_3b067 11 = .ok (.aload_n 0, 1) := by decide +kernel
theorem dJ2_getChar_3b067_12 : decode cJ2_getChar_3b067 12 = .ok (.invokestatic 48, 3) := by decide +kernel
theorem dJ2_getChar_3b067_15 : decode cJ2_getChar_3b067 15 = .ok (.if_icmp .lt 13, 3) := by decide +kernel
theorem dJ2_getChar_3b067_18 : decode cJ2_getChar_3b067 18 = .ok (.new 52, 3) := by decide +kernel
theorem dJ2_getChar_3b067_21 : decode cJ2_getChar_3b067 21 = .ok (.dup, 1) := by decide +kernel
theorem dJ2_getChar_3b067_22 : decode cJ2_getChar_3b067 22 = .ok (.ldc 54, 2) := by decide +kernel
theorem dJ2_getChar_3b067_24 : decode cJ2_getChar_3b067 24 = .ok (.invokespecial 56, 3) := by decide +kernel
theorem dJ2_getChar_3b067_27 : decode cJ2_getChar_3b067 27 = .ok (.athrow, 1) := by decide +kernel
theorem dJ2_getChar_3b067_28 : decode cJ2_getChar_3b067 28 = .ok (.iload_n 1, 1) := by decide +kernel
theorem dJ2_getChar_3b067_29 : decode cJ2_getChar_3b067 29 = .ok (.iconst 1, 1) := by decide +kernel
theorem dJ2_getChar_3b067_30 : decode cJ2_getChar_3b067 30 = .ok (.ishl, 1) := by decide +kernel
theorem dJ2_getChar_3b067_31 : decode cJ2_getChar_3b067 31 = .ok (.istore_n 1, 1) := by decide +kernel
theorem dJ2_getChar_3b067_32 : decode cJ2_getChar_3b067 32 = .ok (.aload_n 0, 1) := by decide +kernel
theorem dJ2_getChar_3b067_33 : decode cJ2_getChar_3b067 33 = .ok (.iload_n 1, 1) := by decide +kernel
theorem dJ2_getChar_3b067_34 : decode cJ2_getChar_3b067 34 = .ok (.iinc 1 1, 3) := by decide +kernel
theorem dJ2_getChar_3b067_37 : decode cJ2_getChar_3b067 37 = .ok (.baload, 1) := by decide +kernel
theorem dJ2_getChar_3b067_38 : decode cJ2_getChar_3b067 38 = .ok (.sipush 255, 3) := by decide +kernel
theorem dJ2_getChar_3b067_41 : decode cJ2_getChar_3b067 41 = .ok (.iand, 1) := by decide +kernel
theorem dJ2_getChar_3b067_42 : decode cJ2_getChar_3b067 42 = .ok (.getstatic 59, 3) := by decide +kernel
theorem dJ2_getChar_3b067_45 : decode cJ2_getChar_3b067 45 = .ok (.ishl, 1) := by decide +kernel
theorem dJ2_getChar_3b067_46 : decode cJ2_getChar_3b067 46 = .ok (.aload_n 0, 1) := by decide +kernel
theorem dJ2_getChar_3b067_47 : decode cJ2_getChar_3b067 47 = .ok (.iload_n 1, 1) := by decide +kernel
theorem dJ2_getChar_3b067_48 : decode cJ2_getChar_3b067 48 = .ok (.baload, 1) := by decide +kernel
theorem dJ2_getChar_3b067_49 : decode cJ2_getChar_3b067 49 = .ok (.sipush 255, 3) := by decide +kernel
theorem dJ2_getChar_3b067_52 : decode cJ2_getChar_3b067 52 = .ok (.iand, 1) := by decide +kernel
theorem dJ2_getChar_3b067_53 : decode cJ2_getChar_3b067 53 = .ok (.getstatic 63, 3) := by decide +kernel
theorem dJ2_getChar_3b067_56 : decode cJ2_getChar_3b067 56 = .ok (.ishl, 1) := by decide +kernel
theorem dJ2_getChar_3b067_57 : decode cJ2_getChar_3b067 57 = .ok (.ior, 1) := by decide +kernel
theorem dJ2_getChar_3b067_58 : decode cJ2_getChar_3b067 58 = .ok (.i2c, 1) := by decide +kernel
theorem dJ2_getChar_3b067_59 : decode cJ2_getChar_3b067 59 = .ok (.ireturn, 1) := by decide +kernel
theorem dJ2_length_9d52b_0 : decode cJ2_length_9d52b 0 = .ok (.aload_n 0, 1) := by decide +kernel
theorem dJ2_length_9d52b_1 : decode cJ2_length_9d52b 1 = .ok (.arraylength, 1) := by decide +kernel
theorem dJ2_length_9d52b_2 : decode cJ2_length_9d52b 2 = .ok (.iconst 1, 1) := by decide +kernel
theorem dJ2_length_9d52b_3 : decode cJ2_length_9d52b 3 = .ok (.ishr, 1) := by decide +kernel
theorem dJ2_length_9d52b_4 : decode cJ2_length_9d52b 4 = .ok (.ireturn, 1) := by decide +kernel
theorem dJ2_indexOf_4cfef_0 : decode cJ2_indexOf_4cfef 0 = .ok (.iload_n 2, 1) := by decide +kernel
theorem dJ2_indexOf_4cfef_1 : decode cJ2_indexOf_4cfef 1 = .ok (.iconst 0, 1) := by decide +kernel
theorem dJ2_indexOf_4cfef_2 : decode cJ2_indexOf_4cfef 2 = .ok (.invokestatic 224, 3) := by decide +kernel
theorem dJ2_indexOf_4cfef_5 : decode cJ2_indexOf_4cfef 5 = .ok (.istore_n 2, 1) := by decide +kernel
theorem dJ2_indexOf_4cfef_6 : decode cJ2_indexOf_4cfef 6 = .ok (.iload_n 3, 1) := by decide +kernel
theorem dJ2_indexOf_4cfef_7 : decode cJ2_indexOf_4cfef 7 = .ok (.aload_n 0, 1) := by decide +kernel
theorem dJ2_indexOf_4cfef_8 : decode cJ2_indexOf_4cfef 8 = .ok (.arraylength, 1) := by decide +kernel
theorem dJ2_indexOf_4cfef_9 : decode cJ2_indexOf_4cfef 9 = .ok (.iconst 1, 1) := by decide +kernel
theorem dJ2_indexOf_4cfef_10 : decode cJ2_indexOf_4cfef 10 = .ok (.ishr, 1) := by decide +kernel
theorem dJ2_indexOf_4cfef_11 : decode cJ2_indexOf_4cfef 11 = .ok (.invokestatic 183, 3) := by decide +kernel
theorem dJ2_indexOf_4cfef_14 : decode cJ2_indexOf_4cfef 14 = .ok (.istore_n 3, 1) := by decide +kernel
theorem dJ2_indexOf_4cfef_15 : decode cJ2_indexOf_4cfef 15 = .ok (.iload_n 2, 1) := by decide +kernel
theorem dJ2_indexOf_4cfef_16 : decode cJ2_indexOf_4cfef 16 = .ok (.iload_n 3, 1) := by decide +kernel
theorem dJ2_indexOf_4cfef_17 : decode cJ2_indexOf_4cfef 17 = .ok (.if_icmp .lt 5, 3) := by decide +kernel
theorem dJ2_indexOf_4cfef_20 : decode cJ2_indexOf_4cfef 20 = .ok (.iconst (-1), 1) := by decide +kernel
theorem dJ2_indexOf_4cfef_21 : decode cJ2_indexOf_4cfef 21 = .ok (.ireturn, 1) := by decide +kernel
theorem dJ2_indexOf_4cfef_22 : decode cJ2_indexOf_4cfef 22 = .ok (.iload_n 1, 1) := by decide +kernel
theorem dJ2_indexOf_4cfef_23 : decode cJ2_indexOf_4cfef 23 = .ok (.ldc 227, 2) := by decide +kernel
theorem dJ2_indexOf_4cfef_25 : decode cJ2_indexOf_4cfef 25 = .ok (.if_icmp .ge 11, 3) := by decide +kernel
theorem dJ2_indexOf_4cfef_28 : decode cJ2_indexOf_4cfef 28 = .ok (.aload_n 0, 1) := by decide +kernel
theorem dJ2_indexOf_4cfef_29 : decode cJ2_indexOf_4cfef 29 = .ok (.iload_n 1, 1) := by decide +kernel
theorem dJ2_indexOf_4cfef_30 : decode cJ2_indexOf_4cfef 30 = .ok (.iload_n 2, 1) := by decide +kernel
theorem dJ2_indexOf_4cfef_31 : decode cJ2_indexOf_4cfef 31 = .ok (.iload_n 3, 1) := by decide +kernel
theorem dJ2_indexOf_4cfef_32 : decode cJ2_indexOf_4cfef 32 = .ok (.invokestatic 228, 3) := by decide +kernel
theorem dJ2_indexOf_4cfef_35 : decode cJ2_indexOf_4cfef 35 = .ok (.ireturn, 1) := by decide +kernel
theorem dJ2_indexOf_4cfef_36 : decode cJ2_indexOf_4cfef 36 = .ok (.aload_n 0, 1) := by decide +kernel
theorem dJ2_indexOf_4cfef_37 : decode cJ2_indexOf_4cfef 37 = .ok (.iload_n 1, 1) := by decide +kernel
theorem dJ2_indexOf_4cfef_38 : decode cJ2_indexOf_4cfef 38 = .ok (.iload_n 2, 1) := by decide +kernel
theorem dJ2_indexOf_4cfef_39 : decode cJ2_indexOf_4cfef 39 = .ok (.iload_n 3, 1) := by decide +kernel
theorem dJ2_indexOf_4cfef_40 : decode cJ2_indexOf_4cfef 40 = .ok (.invokestatic 232, 3) := by decide +kernel
theorem dJ2_indexOf_4cfef_43 : decode cJ2_indexOf_4cfef 43 = .ok (.ireturn, 1) := by decide +kernel
theorem dJ2_indexOfChar_4cfef_0 : decode cJ2_indexOfChar_4cfef 0 = .ok (.iload_n 2, 1) := by decide +kernel
theorem dJ2_indexOfChar_4cfef_1 : decode cJ2_indexOfChar_4cfef 1 = .ok (.iload_n 3, 1) := by decide +kernel
theorem dJ2_indexOfChar_4cfef_2 : decode cJ2_indexOfChar_4cfef 2 = .ok (.aload_n 0, 1) := by decide +kernel
theorem dJ2_indexOfChar_4cfef_3 : decode cJ2_indexOfChar_4cfef 3 = .ok (.invokestatic 96, 3) := by decide +kernel
theorem dJ2_indexOfChar_4cfef_6 : decode cJ2_indexOfChar_4cfef 6 = .ok (.aload_n 0, 1) := by decide +kernel
theorem dJ2_indexOfChar_4cfef_7 : decode cJ2_indexOfChar_4cfef 7 = .ok (.iload_n 1, 1) := by decide +kernel
theorem dJ2_indexOfChar_4cfef_8 : decode cJ2_indexOfChar_4cfef 8 = .ok (.iload_n 2, 1) := by decide +kernel
theorem dJ2_indexOfChar_4cfef_9 : decode cJ2_indexOfChar_4cfef 9 = .ok (.iload_n 3, 1) := by decide +kernel
theorem dJ2_indexOfChar_4cfef_10 : decode cJ2_indexOfChar_4cfef 10 = .ok (.invokestatic 244, 3) := by decide +kernel
theorem dJ2_indexOfChar_4cfef_13 : decode cJ2_indexOfChar_4cfef 13 = .ok (.ireturn, 1) := by decide +kernel
theorem dJ2_indexOfCharUnsafe_4cfef_0 : decode cJ2_indexOfCharUnsafe_4cfef 0 = .ok (.iload_n 2, 1) := by decide +kernel
theorem dJ2_indexOfCharUnsafe_4cfef_1 : decode cJ2_indexOfCharUnsafe_4cfef 1 = .ok (.istore 4, 2) := by decide +kernel
theorem dJ2_indexOfCharUnsafe_4cfef_3 : decode cJ2_indexOfCharUnsafe_4cfef 3 = .ok (.iload 4, 2) := by decide +kernel
theorem dJ2_indexOfCharUnsafe_4cfef_5 : decode cJ2_indexOfCharUnsafe_4cfef 5 = .ok (.iload_n 3, 1) := by decide +kernel
theorem dJ2_indexOfCharUnsafe_4cfef_6 : decode cJ2_indexOfCharUnsafe_4cfef 6 = .ok (.if_icmp .ge 22, 3) := by decide +kernel
theorem dJ2_indexOfCharUnsafe_4cfef_9 : decode cJ2_indexOfCharUnsafe_4cfef 9 = .ok (.aload_n 0, 1) := by decide +kernel
theorem dJ2_indexOfCharUnsafe_4cfef_10 : decode cJ2_indexOfCharUnsafe_4cfef 10 = .ok (.iload 4, 2) := by decide +kernel
theorem dJ2_indexOfCharUnsafe_4cfef_12 : decode cJ2_indexOfCharUnsafe_4cfef 12 = .ok (.invokestatic 71, 3) := by decide +kernel
theorem dJ2_indexOfCharUnsafe_4cfef_15 : decode cJ2_indexOfCharUnsafe_4cfef 15 = .ok (.iload_n 1, 1) := by decide +kernel
theorem dJ2_indexOfCharUnsafe_4cfef_16 : decode cJ2_indexOfCharUnsafe_4cfef 16 = .ok (.if_icmp .ne 6, 3) := by decide +kernel
theorem dJ2_indexOfCharUnsafe_4cfef_19 : decode cJ2_indexOfCharUnsafe_4cfef 19 = .ok (.iload 4, 2) := by decide +kernel
theorem dJ2_indexOfCharUnsafe_4cfef_21 : decode cJ2_indexOfCharUnsafe_4cfef 21 = .ok (.ireturn, 1) := by decide +kernel
theorem dJ2_indexOfCharUnsafe_4cfef_22 : decode cJ2_indexOfCharUnsafe_4cfef 22 = .ok (.iinc 4 1, 3) := by decide +kernel
theorem dJ2_indexOfCharUnsafe_4cfef_25 : decode cJ2_indexOfCharUnsafe_4cfef 25 = .ok (.goto (-22), 3) := by decide +kernel
theorem dJ2_indexOfCharUnsafe_4cfef_28 : decode cJ2_indexOfCharUnsafe_4cfef 28 = .ok (.iconst (-1), 1) := by decide +kernel
theorem dJ2_indexOfCharUnsafe_4cfef_29 : decode cJ2_indexOfCharUnsafe_4cfef 29 = .ok (.ireturn, 1) := by decide +kernel
theorem dJ2_indexOfSupplementary_4cfef_0 : decode cJ2_indexOfSupplementary_4cfef 0 = .ok (.iload_n 1, 1) := by decide +kernel
theorem dJ2_indexOfSupplementary_4cfef_1 : decode cJ2_indexOfSupplementary_4cfef 1 = .ok (.invokestatic 164, 3) := by decide +kernel
theorem dJ2_indexOfSupplementary_4cfef_4 : decode cJ2_indexOfSupplementary_4cfef 4 = .ok (.ifCond .eq 65, 3) := by decide +kernel
theorem dJ2_indexOfSupplementary_4cfef_7 : decode cJ2_indexOfSupplementary_4cfef 7 = .ok (.iload_n 1, 1) := by decide +kernel
theorem dJ2_indexOfSupplementary_4cfef_8 : decode cJ2_indexOfSupplementary_4cfef 8 = .ok (.invokestatic 157, 3) := by decide +kernel
theorem dJ2_indexOfSupplementary_4cfef_11 : decode cJ2_indexOfSupplementary_4cfef 11 = .ok (.istore 4, 2) := by decide +kernel
theorem dJ2_indexOfSupplementary_4cfef_13 : decode cJ2_indexOfSupplementary_4cfef 13 = .ok (.iload_n 1, 1) := by decide +kernel
theorem dJ2_indexOfSupplementary_4cfef_14 : decode cJ2_indexOfSupplementary_4cfef 14 = .ok (.invokestatic 161, 3) := by decide +kernel
theorem dJ2_indexOfSupplementary_4cfef_17 : decode cJ2_indexOfSupplementary_4cfef 17 = .ok (.istore 5, 2) := by decide +kernel
theorem dJ2_indexOfSupplementary_4cfef_19 : decode cJ2_indexOfSupplementary_4cfef 19 = .ok (.iload_n 2, 1) := by decide +kernel
theorem dJ2_indexOfSupplementary_4cfef_20 : decode cJ2_indexOfSupplementary_4cfef 20 = .ok (.iload_n 3, 1) := by decide +kernel
theorem dJ2_indexOfSupplementary_4cfef_21 : decode cJ2_indexOfSupplementary_4cfef 21 = .ok (.aload_n 0, 1) := by decide +kernel
theorem dJ2_indexOfSupplementary_4cfef_22 : decode cJ2_indexOfSupplementary_4cfef 22 = .ok (.invokestatic 96, 3) := by decide +kernel
theorem dJ2_indexOfSupplementary_4cfef_25 : decode cJ2_indexOfSupplementary_4cfef 25 = .ok (.iload_n 2, 1) := by decide +kernel
theorem dJ2_indexOfSupplementary_4cfef_26 : decode cJ2_indexOfSupplementary_4cfef 26 = .ok (.istore 6, 2) := by decide +kernel
theorem dJ2_indexOfSupplementary_4cfef_28 : decode cJ2_indexOfSupplementary_4cfef 28 = .ok (.iload 6, 2) := by decide +kernel
theorem dJ2_indexOfSupplementary_4cfef_30 : decode cJ2_indexOfSupplementary_4cfef 30 = .ok (.iload_n 3, 1) := by decide +kernel
theorem dJ2_indexOfSupplementary_4cfef_31 : decode cJ2_indexOfSupplementary_4cfef 31 = .ok (.iconst 1, 1) := by decide +kernel
theorem dJ2_indexOfSupplementary_4cfef_32 : decode cJ2_indexOfSupplementary_4cfef 32 = .ok (.isub, 1) := by decide +kernel
theorem dJ2_indexOfSupplementary_4cfef_33 : decode cJ2_indexOfSupplementary_4cfef 33 = .ok (.if_icmp .ge 36, 3) := by decide +kernel
theorem dJ2_indexOfSupplementary_4cfef_36 : decode cJ2_indexOfSupplementary_4cfef 36 = .ok (.aload_n 0, 1) := by decide +kernel
theorem dJ2_indexOfSupplementary_4cfef_37 : decode cJ2_indexOfSupplementary_4cfef 37 = .ok (.iload 6, 2) := by decide +kernel
theorem dJ2_indexOfSupplementary_4cfef_39 : decode cJ2_indexOfSupplementary_4cfef 39 = .ok (.invokestatic 71, 3) := by decide +kernel
theorem dJ2_indexOfSupplementary_4cfef_42 : decode cJ2_indexOfSupplementary_4cfef 42 = .ok (.iload 4, 2) := by decide +kernel
theorem dJ2_indexOfSupplementary_4cfef_44 : decode cJ2_indexOfSupplementary_4cfef 44 = .ok (.if_icmp .ne 19, 3) := by decide +kernel
theorem dJ2_indexOfSupplementary_4cfef_47 : decode cJ2_indexOfSupplementary_4cfef 47 = .ok (.aload_n 0, 1) := by decide +kernel
theorem dJ2_indexOfSupplementary_4cfef_48 : decode cJ2_indexOfSupplementary_4cfef 48 = .ok (.iload 6, 2) := by decide +kernel
theorem dJ2_indexOfSupplementary_4cfef_50 : decode cJ2_indexOfSupplementary_4cfef 50 = .ok (.iconst 1, 1) := by decide +kernel
theorem dJ2_indexOfSupplementary_4cfef_51 : decode cJ2_indexOfSupplementary_4cfef 51 = .ok (.iadd, 1) := by decide +kernel
theorem dJ2_indexOfSupplementary_4cfef_52 : decode cJ2_indexOfSupplementary_4cfef 52 = .ok (.invokestatic 71, 3) := by decide +kernel
theorem dJ2_indexOfSupplementary_4cfef_55 : decode cJ2_indexOfSupplementary_4cfef 55 = .ok (.iload 5, 2) := by decide +kernel
theorem dJ2_indexOfSupplementary_4cfef_57 : decode cJ2_indexOfSupplementary_4cfef 57 = .ok (.if_icmp .ne 6, 3) := by decide +kernel
theorem dJ2_indexOfSupplementary_4cfef_60 : decode cJ2_indexOfSupplementary_4cfef 60 = .ok (.iload 6, 2) := by decide +kernel
theorem dJ2_indexOfSupplementary_4cfef_62 : decode cJ2_indexOfSupplementary_4cfef 62 = .ok (.ireturn, 1) := by decide +kernel
theorem dJ2_indexOfSupplementary_4cfef_63 : decode cJ2_indexOfSupplementary_4cfef 63 = .ok (.iinc 6 1, 3) := by decide +kernel
theorem dJ2_indexOfSupplementary_4cfef_66 : decode cJ2_indexOfSupplementary_4cfef 66 = .ok (.goto (-38), 3) := by decide +kernel
theorem dJ2_indexOfSupplementary_4cfef_69 : decode cJ2_indexOfSupplementary_4cfef 69 = .ok (.iconst (-1), 1) := by decide +kernel
theorem dJ2_indexOfSupplementary_4cfef_70 : decode cJ2_indexOfSupplementary_4cfef 70 = .ok (.ireturn, 1) := by decide +kernel
theorem dJ2_charAt_3b067_0 : decode cJ2_charAt_3b067 0 = .ok (.iload_n 1, 1) := by decide +kernel
theorem dJ2_charAt_3b067_1 : decode cJ2_charAt_3b067 1 = .ok (.aload_n 0, 1) := by decide +kernel
theorem dJ2_charAt_3b067_2 : decode cJ2_charAt_3b067 2 = .ok (.invokestatic 67, 3) := by decide +kernel
theorem dJ2_charAt_3b067_5 : decode cJ2_charAt_3b067 5 = .ok (.aload_n 0, 1) := by decide +kernel
theorem dJ2_charAt_3b067_6 : decode cJ2_charAt_3b067 6 = .ok (.iload_n 1, 1) := by decide +kernel
theorem dJ2_charAt_3b067_7 : decode cJ2_charAt_3b067 7 = .ok (.invokestatic 71, 3) := by decide +kernel
theorem dJ2_charAt_3b067_10 : decode cJ2_charAt_3b067 10 = .ok (.ireturn, 1) := by decide +kernel
theorem dJ2_checkIndex_2214a_0 : decode cJ2_checkIndex_2214a 0 = .ok (.iload_n 0, 1) := by decide +kernel
theorem dJ2_checkIndex_2214a_1 : decode cJ2_checkIndex_2214a 1 = .ok (.aload_n 1, 1) := by decide +kernel
theorem dJ2_checkIndex_2214a_2 : decode cJ2_checkIndex_2214a 2 = .ok (.invokestatic 48, 3) := by decide +kernel
theorem dJ2_checkIndex_2214a_5 : decode cJ2_checkIndex_2214a 5 = .ok (.invokestatic 414, 3) := by decide +kernel
theorem dJ2_checkIndex_2214a_8 : decode cJ2_checkIndex_2214a 8 = .ok (.return_, 1) := by decide +kernel
theorem dJ2_checkBoundsBeginEnd_d044e_0 : decode cJ2_checkBoundsBeginEnd_d044e 0 = .ok (.iload_n 0, 1) := by decide +kernel
theorem dJ2_checkBoundsBeginEnd_d044e_1 : decode cJ2_checkBoundsBeginEnd_d044e 1 = .ok (.iload_n 1, 1) := by decide +kernel
theorem dJ2_checkBoundsBeginEnd_d044e_2 : decode cJ2_checkBoundsBeginEnd_d044e 2 = .ok (.aload_n 2, 1) := by decide +kernel
theorem dJ2_checkBoundsBeginEnd_d044e_3 : decode cJ2_checkBoundsBeginEnd_d044e 3 = .ok (.invokestatic 48, 3) := by decide +kernel
theorem dJ2_checkBoundsBeginEnd_d044e_6 : decode cJ2_checkBoundsBeginEnd_d044e 6 = .ok (.invokestatic 241, 3) := by decide +kernel
theorem dJ2_checkBoundsBeginEnd_d044e_9 : decode cJ2_checkBoundsBeginEnd_d044e 9 = .ok (.return_, 1) := by decide +kernel
theorem dJ3_checkIndex_8e157_0 : decode cJ3_checkIndex_8e157 0 = .ok (.iload_n 0, 1) := by decide +kernel
theorem dJ3_checkIndex_8e157_1 : decode cJ3_checkIndex_8e157 1 = .ok (.ifCond .lt 8, 3) := by decide +kernel
theorem dJ3_checkIndex_8e157_4 : decode cJ3_checkIndex_8e157 4 = .ok (.iload_n 0, 1) := by decide +kernel
theorem dJ3_checkIndex_8e157_5 : decode cJ3_checkIndex_8e157 5 = .ok (.iload_n 1, 1) := by decide +kernel
theorem dJ3_checkIndex_8e157_6 : decode cJ3_checkIndex_8e157 6 = .ok (.if_icmp .lt 10, 3) := by decide +kernel
theorem dJ3_checkIndex_8e157_9 : decode cJ3_checkIndex_8e157 9 = .ok (.aload_n 2, 1) := by decide +kernel
theorem dJ3_checkIndex_8e157_10 : decode cJ3_checkIndex_8e157 10 = .ok (.iload_n 0, 1) := by decide +kernel
theorem dJ3_checkIndex_8e157_11 : decode cJ3_checkIndex_8e157 11 = .ok (.iload_n 1, 1) := by decide +kernel
theorem dJ3_checkIndex_8e157_12 : decode cJ3_checkIndex_8e157 12 = .ok (.invokestatic 95, 3) := by decide +kernel
theorem dJ3_checkIndex_8e157_15 : decode cJ3_checkIndex_8e157 15 = .ok (.athrow, 1) := by decide +kernel
theorem dJ3_checkIndex_8e157_16 : decode cJ3_checkIndex_8e157 16 = .ok (.iload_n 0, 1) := by decide +kernel
theorem dJ3_checkIndex_8e157_17 : decode cJ3_checkIndex_8e157 17 = .ok (.ireturn, 1) := by decide +kernel
theorem dJ3_checkFromToIndex_8c36e_0 : decode cJ3_checkFromToIndex_8c36e 0 = .ok (.iload_n 0, 1) := by decide +kernel
theorem dJ3_checkFromToIndex_8c36e_1 : decode cJ3_checkFromToIndex_8c36e 1 = .ok (.ifCond .lt 13, 3) := by decide +kernel
theorem dJ3_checkFromToIndex_8c36e_4 : decode cJ3_checkFromToIndex_8c36e 4 = .ok (.iload_n 0, 1) := by decide +kernel
theorem dJ3_checkFromToIndex_8c36e_5 : decode cJ3_checkFromToIndex_8c36e 5 = .ok (.iload_n 1, 1) := by decide +kernel
theorem dJ3_checkFromToIndex_8c36e_6 : decode cJ3_checkFromToIndex_8c36e 6 = .ok (.if_icmp .gt 8, 3) := by decide +kernel
theorem dJ3_checkFromToIndex_8c36e_9 : decode cJ3_checkFromToIndex_8c36e 9 = .ok (.iload_n 1, 1) := by decide +kernel
theorem dJ3_checkFromToIndex_8c36e_10 : decode cJ3_checkFromToIndex_8c36e 10 = .ok (.iload_n 2, 1) := by decide +kernel
theorem dJ3_checkFromToIndex_8c36e_11 : decode cJ3_checkFromToIndex_8c36e 11 = .ok (.if_icmp .le 11, 3) := by decide +kernel
theorem dJ3_checkFromToIndex_8c36e_14 : decode cJ3_checkFromToIndex_8c36e 14 = .ok (.aload_n 3, 1) := by decide +kernel
theorem dJ3_checkFromToIndex_8c36e_15 : decode cJ3_checkFromToIndex_8c36e 15 = .ok (.iload_n 0, 1) := by decide +kernel
theorem dJ3_checkFromToIndex_8c36e_16 : decode cJ3_checkFromToIndex_8c36e 16 = .ok (.iload_n 1, 1) := by decide +kernel
theorem dJ3_checkFromToIndex_8c36e_17 : decode cJ3_checkFromToIndex_8c36e 17 = .ok (.iload_n 2, 1) := by decide +kernel
theorem dJ3_checkFromToIndex_8c36e_18 : decode cJ3_checkFromToIndex_8c36e 18 = .ok (.invokestatic 99, 3) := by decide +kernel
theorem dJ3_checkFromToIndex_8c36e_21 : decode cJ3_checkFromToIndex_8c36e 21 = .ok (.athrow, 1) := by decide +kernel
theorem dJ3_checkFromToIndex_8c36e_22 : decode cJ3_checkFromToIndex_8c36e 22 = .ok (.iload_n 0, 1) := by decide +kernel
theorem dJ3_checkFromToIndex_8c36e_23 : decode cJ3_checkFromToIndex_8c36e 23 = .ok (.ireturn, 1) := by decide +kernel
