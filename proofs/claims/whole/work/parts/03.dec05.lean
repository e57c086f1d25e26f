theorem dX12_first_92 : decode cX12_first 92 = .ok (.goto 4, 3) := by decide +kernel
theorem dX12_first_95 : decode cX12_first 95 = .ok (.iload_n 2, 1) := by decide +kernel
theorem dX12_first_96 : decode cX12_first 96 = .ok (.ireturn, 1) := by decide +kernel
theorem dX12_seems_0 : decode cX12_seems 0 = .ok (.aload_n 0, 1) := by decide +kernel
theorem dX12_seems_1 : decode cX12_seems 1 = .ok (.iload_n 1, 1) := by decide +kernel
theorem dX12_seems_2 : decode cX12_seems 2 = .ok (.invokevirtual 451, 3) := by decide +kernel
theorem dX12_seems_5 : decode cX12_seems 5 = .ok (.istore 5, 2) := by decide +kernel
theorem dX12_seems_7 : decode cX12_seems 7 = .ok (.iload 5, 2) := by decide +kernel
theorem dX12_seems_9 : decode cX12_seems 9 = .ok (.iconst (-1), 1) := by decide +kernel
theorem dX12_seems_10 : decode cX12_seems 10 = .ok (.if_icmp .ne 15, 3) := by decide +kernel
theorem dX12_seems_13 : decode cX12_seems 13 = .ok (.iload_n 1, 1) := by decide +kernel
theorem dX12_seems_14 : decode cX12_seems 14 = .ok (.iconst 3, 1) := by decide +kernel
theorem dX12_seems_15 : decode cX12_seems 15 = .ok (.if_icmp .ne 8, 3) := by decide +kernel
theorem dX12_seems_18 : decode cX12_seems 18 = .ok (.iload 4, 2) := by decide +kernel
theorem dX12_seems_20 : decode cX12_seems 20 = .ok (.goto 4, 3) := by decide +kernel
theorem dX12_seems_23 : decode cX12_seems 23 = .ok (.iconst 1, 1) := by decide +kernel
theorem dX12_seems_24 : decode cX12_seems 24 = .ok (.ireturn, 1) := by decide +kernel
theorem dX12_seems_25 : decode cX12_seems 25 = .ok (.aload_n 0, 1) := by decide +kernel
theorem dX12_seems_26 : decode cX12_seems 26 = .ok (.getfield 87, 3) := by decide +kernel
theorem dX12_seems_29 : decode cX12_seems 29 = .ok (.iconst 0, 1) := by decide +kernel
theorem dX12_seems_30 : decode cX12_seems 30 = .ok (.iload_n 2, 1) := by decide +kernel
theorem dX12_seems_31 : decode cX12_seems 31 = .ok (.iastore, 1) := by decide +kernel
theorem dX12_seems_32 : decode cX12_seems 32 = .ok (.aload_n 0, 1) := by decide +kernel
theorem dX12_seems_33 : decode cX12_seems 33 = .ok (.getfield 87, 3) := by decide +kernel
theorem dX12_seems_36 : decode cX12_seems 36 = .ok (.iconst 1, 1) := by decide +kernel
theorem dX12_seems_37 : decode cX12_seems 37 = .ok (.aload_n 0, 1) := by decide +kernel
theorem dX12_seems_38 : decode cX12_seems 38 = .ok (.getfield 7, 3) := by decide +kernel
theorem dX12_seems_41 : decode cX12_seems 41 = .ok (.iconst 0, 1) := by decide +kernel
theorem dX12_seems_42 : decode cX12_seems 42 = .ok (.iaload, 1) := by decide +kernel
theorem dX12_seems_43 : decode cX12_seems 43 = .ok (.iastore, 1) := by decide +kernel
theorem dX12_seems_44 : decode cX12_seems 44 = .ok (.aload_n 0, 1) := by decide +kernel
theorem dX12_seems_45 : decode cX12_seems 45 = .ok (.getfield 87, 3) := by decide +kernel
theorem dX12_seems_48 : decode cX12_seems 48 = .ok (.iconst 2, 1) := by decide +kernel
theorem dX12_seems_49 : decode cX12_seems 49 = .ok (.aload_n 0, 1) := by decide +kernel
theorem dX12_seems_50 : decode cX12_seems 50 = .ok (.getfield 7, 3) := by decide +kernel
theorem dX12_seems_53 : decode cX12_seems 53 = .ok (.bipush 90, 2) := by decide +kernel
theorem dX12_seems_55 : decode cX12_seems 55 = .ok (.iaload, 1) := by decide +kernel
theorem dX12_seems_56 : decode cX12_seems 56 = .ok (.iastore, 1) := by decide +kernel
theorem dX12_seems_57 : decode cX12_seems 57 = .ok (.aload_n 0, 1) := by decide +kernel
theorem dX12_seems_58 : decode cX12_seems 58 = .ok (.getfield 87, 3) := by decide +kernel
theorem dX12_seems_61 : decode cX12_seems 61 = .ok (.iload_n 3, 1) := by decide +kernel
theorem dX12_seems_62 : decode cX12_seems 62 = .ok (.iload 4, 2) := by decide +kernel
theorem dX12_seems_64 : decode cX12_seems 64 = .ok (.iastore, 1) := by decide +kernel
theorem dX12_seems_65 : decode cX12_seems 65 = .ok (.aload_n 0, 1) := by decide +kernel
theorem dX12_seems_66 : decode cX12_seems 66 = .ok (.iload 5, 2) := by decide +kernel
theorem dX12_seems_68 : decode cX12_seems 68 = .ok (.invokevirtual 457, 3) := by decide +kernel
theorem dX12_seems_71 : decode cX12_seems 71 = .ok (.iconst 0, 1) := by decide +kernel
theorem dX12_seems_72 : decode cX12_seems 72 = .ok (.sipush 9999, 3) := by decide +kernel
theorem dX12_seems_75 : decode cX12_seems 75 = .ok (.invokestatic 461, 3) := by decide +kernel
theorem dX12_seems_78 : decode cX12_seems 78 = .ok (.ireturn, 1) := by decide +kernel
theorem dX12_heardBegin_0 : decode cX12_heardBegin 0 = .ok (.iconst (-1), 1) := by decide +kernel
theorem dX12_heardBegin_1 : decode cX12_heardBegin 1 = .ok (.istore 4, 2) := by decide +kernel
theorem dX12_heardBegin_3 : decode cX12_heardBegin 3 = .ok (.iconst 0, 1) := by decide +kernel
theorem dX12_heardBegin_4 : decode cX12_heardBegin 4 = .ok (.istore 5, 2) := by decide +kernel
theorem dX12_heardBegin_6 : decode cX12_heardBegin 6 = .ok (.iload 5, 2) := by decide +kernel
theorem dX12_heardBegin_8 : decode cX12_heardBegin 8 = .ok (.aload_n 0, 1) := by decide +kernel
theorem dX12_heardBegin_9 : decode cX12_heardBegin 9 = .ok (.getfield 7, 3) := by decide +kernel
theorem dX12_heardBegin_12 : decode cX12_heardBegin 12 = .ok (.sipush 165, 3) := by decide +kernel
theorem dX12_heardBegin_15 : decode cX12_heardBegin 15 = .ok (.iaload, 1) := by decide +kernel
theorem dX12_heardBegin_16 : decode cX12_heardBegin 16 = .ok (.if_icmp .ge 73, 3) := by decide +kernel
theorem dX12_heardBegin_19 : decode cX12_heardBegin 19 = .ok (.aload_n 0, 1) := by decide +kernel
theorem dX12_heardBegin_20 : decode cX12_heardBegin 20 = .ok (.iload 5, 2) := by decide +kernel
theorem dX12_heardBegin_22 : decode cX12_heardBegin 22 = .ok (.iconst 0, 1) := by decide +kernel
theorem dX12_heardBegin_23 : decode cX12_heardBegin 23 = .ok (.invokevirtual 415, 3) := by decide +kernel
theorem dX12_heardBegin_26 : decode cX12_heardBegin 26 = .ok (.iload_n 1, 1) := by decide +kernel
theorem dX12_heardBegin_27 : decode cX12_heardBegin 27 = .ok (.if_icmp .ne 56, 3) := by decide +kernel
theorem dX12_heardBegin_30 : decode cX12_heardBegin 30 = .ok (.aload_n 0, 1) := by decide +kernel
theorem dX12_heardBegin_31 : decode cX12_heardBegin 31 = .ok (.iload 5, 2) := by decide +kernel
theorem dX12_heardBegin_33 : decode cX12_heardBegin 33 = .ok (.invokevirtual 445, 3) := by decide +kernel
theorem dX12_heardBegin_36 : decode cX12_heardBegin 36 = .ok (.ifCond .eq 47, 3) := by decide +kernel
theorem dX12_heardBegin_39 : decode cX12_heardBegin 39 = .ok (.aload_n 0, 1) := by decide +kernel
theorem dX12_heardBegin_40 : decode cX12_heardBegin 40 = .ok (.iload 5, 2) := by decide +kernel
theorem dX12_heardBegin_42 : decode cX12_heardBegin 42 = .ok (.iload_n 2, 1) := by decide +kernel
theorem dX12_heardBegin_43 : decode cX12_heardBegin 43 = .ok (.invokevirtual 566, 3) := by decide +kernel
theorem dX12_heardBegin_46 : decode cX12_heardBegin 46 = .ok (.istore 6, 2) := by decide +kernel
theorem dX12_heardBegin_48 : decode cX12_heardBegin 48 = .ok (.iload 6, 2) := by decide +kernel
theorem dX12_heardBegin_50 : decode cX12_heardBegin 50 = .ok (.iload_n 3, 1) := by decide +kernel
theorem dX12_heardBegin_51 : decode cX12_heardBegin 51 = .ok (.if_icmp .lt 32, 3) := by decide +kernel
theorem dX12_heardBegin_54 : decode cX12_heardBegin 54 = .ok (.iload 6, 2) := by decide +kernel
theorem dX12_heardBegin_56 : decode cX12_heardBegin 56 = .ok (.aload_n 0, 1) := by decide +kernel
theorem dX12_heardBegin_57 : decode cX12_heardBegin 57 = .ok (.getfield 7, 3) := by decide +kernel
theorem dX12_heardBegin_60 : decode cX12_heardBegin 60 = .ok (.bipush 91, 2) := by decide +kernel
theorem dX12_heardBegin_62 : decode cX12_heardBegin 62 = .ok (.iaload, 1) := by decide +kernel
theorem dX12_heardBegin_63 : decode cX12_heardBegin 63 = .ok (.if_icmp .gt 20, 3) := by decide +kernel
theorem dX12_heardBegin_66 : decode cX12_heardBegin 66 = .ok (.iload 4, 2) := by decide +kernel
theorem dX12_heardBegin_68 : decode cX12_heardBegin 68 = .ok (.iconst (-1), 1) := by decide +kernel
theorem dX12_heardBegin_69 : decode cX12_heardBegin 69 = .ok (.if_icmp .eq 10, 3) := by decide +kernel
theorem dX12_heardBegin_72 : decode cX12_heardBegin 72 = .ok (.iload 6, 2) := by decide +kernel
theorem dX12_heardBegin_74 : decode cX12_heardBegin 74 = .ok (.iload 4, 2) := by decide +kernel
theorem dX12_heardBegin_76 : decode cX12_heardBegin 76 = .ok (.if_icmp .ge 7, 3) := by decide +kernel
theorem dX12_heardBegin_79 : decode cX12_heardBegin 79 = .ok (.iload 6, 2) := by decide +kernel
theorem dX12_heardBegin_81 : decode cX12_heardBegin 81 = .ok (.istore 4, 2) := by decide +kernel
theorem dX12_heardBegin_83 : decode cX12_heardBegin 83 = .ok (.iinc 5 1, 3) := by decide +kernel
theorem dX12_heardBegin_86 : decode cX12_heardBegin 86 = .ok (.goto (-80), 3) := by decide +kernel
theorem dX12_heardBegin_89 : decode cX12_heardBegin 89 = .ok (.iload 4, 2) := by decide +kernel
theorem dX12_heardBegin_91 : decode cX12_heardBegin 91 = .ok (.ireturn, 1) := by decide +kernel
theorem dX12_hasBegun_0 : decode cX12_hasBegun 0 = .ok (.iconst 0, 1) := by decide +kernel
theorem dX12_hasBegun_1 : decode cX12_hasBegun 1 = .ok (.istore 4, 2) := by decide +kernel
theorem dX12_hasBegun_3 : decode cX12_hasBegun 3 = .ok (.iconst 0, 1) := by decide +kernel
theorem dX12_hasBegun_4 : decode cX12_hasBegun 4 = .ok (.istore 5, 2) := by decide +kernel
theorem dX12_hasBegun_6 : decode cX12_hasBegun 6 = .ok (.iload 5, 2) := by decide +kernel
theorem dX12_hasBegun_8 : decode cX12_hasBegun 8 = .ok (.aload_n 0, 1) := by decide +kernel
theorem dX12_hasBegun_9 : decode cX12_hasBegun 9 = .ok (.getfield 7, 3) := by decide +kernel
theorem dX12_hasBegun_12 : decode cX12_hasBegun 12 = .ok (.sipush 165, 3) := by decide +kernel
theorem dX12_hasBegun_15 : decode cX12_hasBegun 15 = .ok (.iaload, 1) := by decide +kernel
theorem dX12_hasBegun_16 : decode cX12_hasBegun 16 = .ok (.if_icmp .ge 56, 3) := by decide +kernel
theorem dX12_hasBegun_19 : decode cX12_hasBegun 19 = .ok (.iload 4, 2) := by decide +kernel
theorem dX12_hasBegun_21 : decode cX12_hasBegun 21 = .ok (.ifCond .ne 38, 3) := by decide +kernel
theorem dX12_hasBegun_24 : decode cX12_hasBegun 24 = .ok (.aload_n 0, 1) := by decide +kernel
theorem dX12_hasBegun_25 : decode cX12_hasBegun 25 = .ok (.iload 5, 2) := by decide +kernel
theorem dX12_hasBegun_27 : decode cX12_hasBegun 27 = .ok (.iconst 0, 1) := by decide +kernel
theorem dX12_hasBegun_28 : decode cX12_hasBegun 28 = .ok (.invokevirtual 415, 3) := by decide +kernel
theorem dX12_hasBegun_31 : decode cX12_hasBegun 31 = .ok (.iload_n 1, 1) := by decide +kernel
theorem dX12_hasBegun_32 : decode cX12_hasBegun 32 = .ok (.if_icmp .ne 31, 3) := by decide +kernel
theorem dX12_hasBegun_35 : decode cX12_hasBegun 35 = .ok (.aload_n 0, 1) := by decide +kernel
theorem dX12_hasBegun_36 : decode cX12_hasBegun 36 = .ok (.iload 5, 2) := by decide +kernel
theorem dX12_hasBegun_38 : decode cX12_hasBegun 38 = .ok (.invokevirtual 445, 3) := by decide +kernel
theorem dX12_hasBegun_41 : decode cX12_hasBegun 41 = .ok (.ifCond .eq 22, 3) := by decide +kernel
theorem dX12_hasBegun_44 : decode cX12_hasBegun 44 = .ok (.aload_n 0, 1) := by decide +kernel
theorem dX12_hasBegun_45 : decode cX12_hasBegun 45 = .ok (.iload 5, 2) := by decide +kernel
theorem dX12_hasBegun_47 : decode cX12_hasBegun 47 = .ok (.iconst 1, 1) := by decide +kernel
theorem dX12_hasBegun_48 : decode cX12_hasBegun 48 = .ok (.invokevirtual 415, 3) := by decide +kernel
theorem dX12_hasBegun_51 : decode cX12_hasBegun 51 = .ok (.iload_n 2, 1) := by decide +kernel
theorem dX12_hasBegun_52 : decode cX12_hasBegun 52 = .ok (.iload_n 3, 1) := by decide +kernel
theorem dX12_hasBegun_53 : decode cX12_hasBegun 53 = .ok (.invokestatic 173, 3) := by decide +kernel
theorem dX12_hasBegun_56 : decode cX12_hasBegun 56 = .ok (.ifCond .eq 7, 3) := by decide +kernel
theorem dX12_hasBegun_59 : decode cX12_hasBegun 59 = .ok (.iconst 1, 1) := by decide +kernel
theorem dX12_hasBegun_60 : decode cX12_hasBegun 60 = .ok (.goto 4, 3) := by decide +kernel
theorem dX12_hasBegun_63 : decode cX12_hasBegun 63 = .ok (.iconst 0, 1) := by decide +kernel
theorem dX12_hasBegun_64 : decode cX12_hasBegun 64 = .ok (.istore 4, 2) := by decide +kernel
theorem dX12_hasBegun_66 : decode cX12_hasBegun 66 = .ok (.iinc 5 1, 3) := by decide +kernel
theorem dX12_hasBegun_69 : decode cX12_hasBegun 69 = .ok (.goto (-63), 3) := by decide +kernel
theorem dX12_hasBegun_72 : decode cX12_hasBegun 72 = .ok (.iload 4, 2) := by decide +kernel
theorem dX12_hasBegun_74 : decode cX12_hasBegun 74 = .ok (.ireturn, 1) := by decide +kernel
theorem dX12_cold_0 : decode cX12_cold 0 = .ok (.aload_n 0, 1) := by decide +kernel
theorem dX12_cold_1 : decode cX12_cold 1 = .ok (.iload_n 1, 1) := by decide +kernel
theorem dX12_cold_2 : decode cX12_cold 2 = .ok (.invokevirtual 185, 3) := by decide +kernel
theorem dX12_cold_5 : decode cX12_cold 5 = .ok (.ifCond .eq 16, 3) := by decide +kernel
theorem dX12_cold_8 : decode cX12_cold 8 = .ok (.aload_n 0, 1) := by decide +kernel
theorem dX12_cold_9 : decode cX12_cold 9 = .ok (.iload_n 2, 1) := by decide +kernel
theorem dX12_cold_10 : decode cX12_cold 10 = .ok (.invokevirtual 185, 3) := by decide +kernel
theorem dX12_cold_13 : decode cX12_cold 13 = .ok (.ifCond .eq 8, 3) := by decide +kernel
theorem dX12_cold_16 : decode cX12_cold 16 = .ok (.iload_n 1, 1) := by decide +kernel
theorem dX12_cold_17 : decode cX12_cold 17 = .ok (.iload_n 2, 1) := by decide +kernel
theorem dX12_cold_18 : decode cX12_cold 18 = .ok (.if_icmp .ne 5, 3) := by decide +kernel
theorem dX12_cold_21 : decode cX12_cold 21 = .ok (.iconst (-1), 1) := by decide +kernel
theorem dX12_cold_22 : decode cX12_cold 22 = .ok (.ireturn, 1) := by decide +kernel
theorem dX12_cold_23 : decode cX12_cold 23 = .ok (.iconst 0, 1) := by decide +kernel
theorem dX12_cold_24 : decode cX12_cold 24 = .ok (.istore 4, 2) := by decide +kernel
theorem dX12_cold_26 : decode cX12_cold 26 = .ok (.iconst 0, 1) := by decide +kernel
theorem dX12_cold_27 : decode cX12_cold 27 = .ok (.istore 5, 2) := by decide +kernel
theorem dX12_cold_29 : decode cX12_cold 29 = .ok (.iload 5, 2) := by decide +kernel
theorem dX12_cold_31 : decode cX12_cold 31 = .ok (.aload_n 0, 1) := by decide +kernel
theorem dX12_cold_32 : decode cX12_cold 32 = .ok (.getfield 7, 3) := by decide +kernel
theorem dX12_cold_35 : decode cX12_cold 35 = .ok (.sipush 165, 3) := by decide +kernel
theorem dX12_cold_38 : decode cX12_cold 38 = .ok (.iaload, 1) := by decide +kernel
theorem dX12_cold_39 : decode cX12_cold 39 = .ok (.if_icmp .ge 137, 3) := by decide +kernel
theorem dX12_cold_42 : decode cX12_cold 42 = .ok (.aload_n 0, 1) := by decide +kernel
theorem dX12_cold_43 : decode cX12_cold 43 = .ok (.iload 5, 2) := by decide +kernel
theorem dX12_cold_45 : decode cX12_cold 45 = .ok (.iconst 0, 1) := by decide +kernel
theorem dX12_cold_46 : decode cX12_cold 46 = .ok (.invokevirtual 415, 3) := by decide +kernel
theorem dX12_cold_49 : decode cX12_cold 49 = .ok (.iload_n 2, 1) := by decide +kernel
theorem dX12_cold_50 : decode cX12_cold 50 = .ok (.if_icmp .ne 120, 3) := by decide +kernel
theorem dX12_cold_53 : decode cX12_cold 53 = .ok (.aload_n 0, 1) := by decide +kernel
theorem dX12_cold_54 : decode cX12_cold 54 = .ok (.iload 5, 2) := by decide +kernel
theorem dX12_cold_56 : decode cX12_cold 56 = .ok (.iconst 4, 1) := by decide +kernel
theorem dX12_cold_57 : decode cX12_cold 57 = .ok (.invokevirtual 415, 3) := by decide +kernel
theorem dX12_cold_60 : decode cX12_cold 60 = .ok (.iconst 1, 1) := by decide +kernel
theorem dX12_cold_61 : decode cX12_cold 61 = .ok (.if_icmp .ne 109, 3) := by decide +kernel
theorem dX12_cold_64 : decode cX12_cold 64 = .ok (.aload_n 0, 1) := by decide +kernel
theorem dX12_cold_65 : decode cX12_cold 65 = .ok (.iload 5, 2) := by decide +kernel
theorem dX12_cold_67 : decode cX12_cold 67 = .ok (.invokevirtual 445, 3) := by decide +kernel
theorem dX12_cold_70 : decode cX12_cold 70 = .ok (.ifCond .eq 100, 3) := by decide +kernel
theorem dX12_cold_73 : decode cX12_cold 73 = .ok (.aload_n 0, 1) := by decide +kernel
theorem dX12_cold_74 : decode cX12_cold 74 = .ok (.iload 5, 2) := by decide +kernel
theorem dX12_cold_76 : decode cX12_cold 76 = .ok (.iconst 3, 1) := by decide +kernel
theorem dX12_cold_77 : decode cX12_cold 77 = .ok (.invokevirtual 415, 3) := by decide +kernel
theorem dX12_cold_80 : decode cX12_cold 80 = .ok (.istore 6, 2) := by decide +kernel
theorem dX12_cold_82 : decode cX12_cold 82 = .ok (.aload_n 0, 1) := by decide +kernel
theorem dX12_cold_83 : decode cX12_cold 83 = .ok (.iload_n 1, 1) := by decide +kernel
theorem dX12_cold_84 : decode cX12_cold 84 = .ok (.iload_n 2, 1) := by decide +kernel
theorem dX12_cold_85 : decode cX12_cold 85 = .ok (.iload 6, 2) := by decide +kernel
theorem dX12_cold_87 : decode cX12_cold 87 = .ok (.invokevirtual 569, 3) := by decide +kernel
theorem dX12_cold_90 : decode cX12_cold 90 = .ok (.istore 7, 2) := by decide +kernel
theorem dX12_cold_92 : decode cX12_cold 92 = .ok (.iload 7, 2) := by decide +kernel
theorem dX12_cold_94 : decode cX12_cold 94 = .ok (.iconst (-1), 1) := by decide +kernel
theorem dX12_cold_95 : decode cX12_cold 95 = .ok (.if_icmp .eq 75, 3) := by decide +kernel
theorem dX12_cold_98 : decode cX12_cold 98 = .ok (.aload_n 0, 1) := by decide +kernel
theorem dX12_cold_99 : decode cX12_cold 99 = .ok (.iload_n 2, 1) := by decide +kernel
theorem dX12_cold_100 : decode cX12_cold 100 = .ok (.iload 6, 2) := by decide +kernel
theorem dX12_cold_102 : decode cX12_cold 102 = .ok (.iload 7, 2) := by decide +kernel
theorem dX12_cold_104 : decode cX12_cold 104 = .ok (.invokevirtual 572, 3) := by decide +kernel
theorem dX12_cold_107 : decode cX12_cold 107 = .ok (.ifCond .ne 63, 3) := by decide +kernel
theorem dX12_cold_110 : decode cX12_cold 110 = .ok (.iload 7, 2) := by decide +kernel
theorem dX12_cold_112 : decode cX12_cold 112 = .ok (.iload 6, 2) := by decide +kernel
theorem dX12_cold_114 : decode cX12_cold 114 = .ok (.isub, 1) := by decide +kernel
theorem dX12_cold_115 : decode cX12_cold 115 = .ok (.istore 8, 2) := by decide +kernel
theorem dX12_cold_117 : decode cX12_cold 117 = .ok (.iload 8, 2) := by decide +kernel
theorem dX12_cold_119 : decode cX12_cold 119 = .ok (.aload_n 0, 1) := by decide +kernel
theorem dX12_cold_120 : decode cX12_cold 120 = .ok (.iload_n 1, 1) := by decide +kernel
theorem dX12_cold_121 : decode cX12_cold 121 = .ok (.iload_n 2, 1) := by decide +kernel
theorem dX12_cold_122 : decode cX12_cold 122 = .ok (.invokevirtual 188, 3) := by decide +kernel
theorem dX12_cold_125 : decode cX12_cold 125 = .ok (.isub, 1) := by decide +kernel
theorem dX12_cold_126 : decode cX12_cold 126 = .ok (.aload_n 0, 1) := by decide +kernel
theorem dX12_cold_127 : decode cX12_cold 127 = .ok (.iload_n 2, 1) := by decide +kernel
theorem dX12_cold_128 : decode cX12_cold 128 = .ok (.iload_n 1, 1) := by decide +kernel
theorem dX12_cold_129 : decode cX12_cold 129 = .ok (.invokevirtual 188, 3) := by decide +kernel
theorem dX12_cold_132 : decode cX12_cold 132 = .ok (.isub, 1) := by decide +kernel
theorem dX12_cold_133 : decode cX12_cold 133 = .ok (.iconst 2, 1) := by decide +kernel
theorem dX12_cold_134 : decode cX12_cold 134 = .ok (.isub, 1) := by decide +kernel
theorem dX12_cold_135 : decode cX12_cold 135 = .ok (.istore 9, 2) := by decide +kernel
theorem dX12_cold_137 : decode cX12_cold 137 = .ok (.iload 4, 2) := by decide +kernel
theorem dX12_cold_139 : decode cX12_cold 139 = .ok (.aload_n 0, 1) := by decide +kernel
theorem dX12_cold_140 : decode cX12_cold 140 = .ok (.iconst 3, 1) := by decide +kernel
theorem dX12_cold_141 : decode cX12_cold 141 = .ok (.iload_n 1, 1) := by decide +kernel
theorem dX12_cold_142 : decode cX12_cold 142 = .ok (.bipush 9, 2) := by decide +kernel
theorem dX12_cold_144 : decode cX12_cold 144 = .ok (.iload_n 3, 1) := by decide +kernel
theorem dX12_cold_145 : decode cX12_cold 145 = .ok (.ifCond .ne 8, 3) := by decide +kernel
theorem dX12_cold_148 : decode cX12_cold 148 = .ok (.iload 8, 2) := by decide +kernel
theorem dX12_cold_150 : decode cX12_cold 150 = .ok (.goto 14, 3) := by decide +kernel
theorem dX12_cold_153 : decode cX12_cold 153 = .ok (.iload 9, 2) := by decide +kernel
theorem dX12_cold_155 : decode cX12_cold 155 = .ok (.ifCond .ge 7, 3) := by decide +kernel
theorem dX12_cold_158 : decode cX12_cold 158 = .ok (.iconst 0, 1) := by decide +kernel
theorem dX12_cold_159 : decode cX12_cold 159 = .ok (.goto 5, 3) := by decide +kernel
theorem dX12_cold_162 : decode cX12_cold 162 = .ok (.iload 9, 2) := by decide +kernel
theorem dX12_cold_164 : decode cX12_cold 164 = .ok (.invokevirtual 575, 3) := by decide +kernel
theorem dX12_cold_167 : decode cX12_cold 167 = .ok (.iadd, 1) := by decide +kernel
theorem dX12_cold_168 : decode cX12_cold 168 = .ok (.istore 4, 2) := by decide +kernel
theorem dX12_cold_170 : decode cX12_cold 170 = .ok (.iinc 5 1, 3) := by decide +kernel
theorem dX12_cold_173 : decode cX12_cold 173 = .ok (.goto (-144), 3) := by decide +kernel
theorem dX12_cold_176 : decode cX12_cold 176 = .ok (.iload 4, 2) := by decide +kernel
theorem dX12_cold_178 : decode cX12_cold 178 = .ok (.ireturn, 1) := by decide +kernel
theorem dX12_turnAt_0 : decode cX12_turnAt 0 = .ok (.iconst 0, 1) := by decide +kernel
theorem dX12_turnAt_1 : decode cX12_turnAt 1 = .ok (.istore_n 3, 1) := by decide +kernel
theorem dX12_turnAt_2 : decode cX12_turnAt 2 = .ok (.iload_n 3, 1) := by decide +kernel
theorem dX12_turnAt_3 : decode cX12_turnAt 3 = .ok (.aload_n 0, 1) := by decide +kernel
theorem dX12_turnAt_4 : decode cX12_turnAt 4 = .ok (.getfield 7, 3) := by decide +kernel
theorem dX12_turnAt_7 : decode cX12_turnAt 7 = .ok (.sipush 165, 3) := by decide +kernel
theorem dX12_turnAt_10 : decode cX12_turnAt 10 = .ok (.iaload, 1) := by decide +kernel
theorem dX12_turnAt_11 : decode cX12_turnAt 11 = .ok (.if_icmp .ge 71, 3) := by decide +kernel
theorem dX12_turnAt_14 : decode cX12_turnAt 14 = .ok (.aload_n 0, 1) := by decide +kernel
theorem dX12_turnAt_15 : decode cX12_turnAt 15 = .ok (.iload_n 3, 1) := by decide +kernel
theorem dX12_turnAt_16 : decode cX12_turnAt 16 = .ok (.iconst 0, 1) := by decide +kernel
theorem dX12_turnAt_17 : decode cX12_turnAt 17 = .ok (.invokevirtual 415, 3) := by decide +kernel
theorem dX12_turnAt_20 : decode cX12_turnAt 20 = .ok (.iload_n 1, 1) := by decide +kernel
theorem dX12_turnAt_21 : decode cX12_turnAt 21 = .ok (.if_icmp .ne 25, 3) := by decide +kernel
theorem dX12_turnAt_24 : decode cX12_turnAt 24 = .ok (.aload_n 0, 1) := by decide +kernel
theorem dX12_turnAt_25 : decode cX12_turnAt 25 = .ok (.iload_n 3, 1) := by decide +kernel
theorem dX12_turnAt_26 : decode cX12_turnAt 26 = .ok (.invokevirtual 445, 3) := by decide +kernel
theorem dX12_turnAt_29 : decode cX12_turnAt 29 = .ok (.ifCond .eq 17, 3) := by decide +kernel
theorem dX12_turnAt_32 : decode cX12_turnAt 32 = .ok (.aload_n 0, 1) := by decide +kernel
theorem dX12_turnAt_33 : decode cX12_turnAt 33 = .ok (.iload_n 3, 1) := by decide +kernel
theorem dX12_turnAt_34 : decode cX12_turnAt 34 = .ok (.iconst 1, 1) := by decide +kernel
theorem dX12_turnAt_35 : decode cX12_turnAt 35 = .ok (.invokevirtual 415, 3) := by decide +kernel
theorem dX12_turnAt_38 : decode cX12_turnAt 38 = .ok (.iload_n 2, 1) := by decide +kernel
theorem dX12_turnAt_39 : decode cX12_turnAt 39 = .ok (.if_icmp .gt 7, 3) := by decide +kernel
theorem dX12_turnAt_42 : decode cX12_turnAt 42 = .ok (.iconst 1, 1) := by decide +kernel
theorem dX12_turnAt_43 : decode cX12_turnAt 43 = .ok (.goto 4, 3) := by decide +kernel
theorem dX12_turnAt_46 : decode cX12_turnAt 46 = .ok (.iconst 0, 1) := by decide +kernel
theorem dX12_turnAt_47 : decode cX12_turnAt 47 = .ok (.istore 4, 2) := by decide +kernel
theorem dX12_turnAt_49 : decode cX12_turnAt 49 = .ok (.iload 4, 2) := by decide +kernel
theorem dX12_turnAt_51 : decode cX12_turnAt 51 = .ok (.ifCond .eq 25, 3) := by decide +kernel
theorem dX12_turnAt_54 : decode cX12_turnAt 54 = .ok (.aload_n 0, 1) := by decide +kernel
theorem dX12_turnAt_55 : decode cX12_turnAt 55 = .ok (.iload_n 3, 1) := by decide +kernel
theorem dX12_turnAt_56 : decode cX12_turnAt 56 = .ok (.iconst 3, 1) := by decide +kernel
theorem dX12_turnAt_57 : decode cX12_turnAt 57 = .ok (.invokevirtual 415, 3) := by decide +kernel
theorem dX12_turnAt_60 : decode cX12_turnAt 60 = .ok (.iconst (-1), 1) := by decide +kernel
theorem dX12_turnAt_61 : decode cX12_turnAt 61 = .ok (.if_icmp .eq 13, 3) := by decide +kernel
theorem dX12_turnAt_64 : decode cX12_turnAt 64 = .ok (.aload_n 0, 1) := by decide +kernel
theorem dX12_turnAt_65 : decode cX12_turnAt 65 = .ok (.iload_n 3, 1) := by decide +kernel
theorem dX12_turnAt_66 : decode cX12_turnAt 66 = .ok (.iconst 3, 1) := by decide +kernel
theorem dX12_turnAt_67 : decode cX12_turnAt 67 = .ok (.invokevirtual 415, 3) := by decide +kernel
theorem dX12_turnAt_70 : decode cX12_turnAt 70 = .ok (.iload_n 2, 1) := by decide +kernel
theorem dX12_turnAt_71 : decode cX12_turnAt 71 = .ok (.if_icmp .le 5, 3) := by decide +kernel
theorem dX12_turnAt_74 : decode cX12_turnAt 74 = .ok (.iload_n 3, 1) := by decide +kernel
theorem dX12_turnAt_75 : decode cX12_turnAt 75 = .ok (.ireturn, 1) := by decide +kernel
theorem dX12_turnAt_76 : decode cX12_turnAt 76 = .ok (.iinc 3 1, 3) := by decide +kernel
theorem dX12_turnAt_79 : decode cX12_turnAt 79 = .ok (.goto (-77), 3) := by decide +kernel
theorem dX12_turnAt_82 : decode cX12_turnAt 82 = .ok (.iconst (-1), 1) := by decide +kernel
theorem dX12_turnAt_83 : decode cX12_turnAt 83 = .ok (.ireturn, 1) := by decide +kernel
theorem dX12_haste_0 : decode cX12_haste 0 = .ok (.aload_n 0, 1) := by decide +kernel
theorem dX12_haste_1 : decode cX12_haste 1 = .ok (.iload_n 1, 1) := by decide +kernel
theorem dX12_haste_2 : decode cX12_haste 2 = .ok (.invokevirtual 185, 3) := by decide +kernel
theorem dX12_haste_5 : decode cX12_haste 5 = .ok (.ifCond .eq 16, 3) := by decide +kernel
theorem dX12_haste_8 : decode cX12_haste 8 = .ok (.aload_n 0, 1) := by decide +kernel
theorem dX12_haste_9 : decode cX12_haste 9 = .ok (.iload_n 2, 1) := by decide +kernel
theorem dX12_haste_10 : decode cX12_haste 10 = .ok (.invokevirtual 185, 3) := by decide +kernel
theorem dX12_haste_13 : decode cX12_haste 13 = .ok (.ifCond .eq 8, 3) := by decide +kernel
theorem dX12_haste_16 : decode cX12_haste 16 = .ok (.iload_n 1, 1) := by decide +kernel
theorem dX12_haste_17 : decode cX12_haste 17 = .ok (.iload_n 2, 1) := by decide +kernel
theorem dX12_haste_18 : decode cX12_haste 18 = .ok (.if_icmp .ne 5, 3) := by decide +kernel
theorem dX12_haste_21 : decode cX12_haste 21 = .ok (.iconst (-1), 1) := by decide +kernel
theorem dX12_haste_22 : decode cX12_haste 22 = .ok (.ireturn, 1) := by decide +kernel
theorem dX12_haste_23 : decode cX12_haste 23 = .ok (.iconst 0, 1) := by decide +kernel
theorem dX12_haste_24 : decode cX12_haste 24 = .ok (.istore 4, 2) := by decide +kernel
theorem dX12_haste_26 : decode cX12_haste 26 = .ok (.iconst 0, 1) := by decide +kernel
theorem dX12_haste_27 : decode cX12_haste 27 = .ok (.istore 5, 2) := by decide +kernel
theorem dX12_haste_29 : decode cX12_haste 29 = .ok (.iload 5, 2) := by decide +kernel
theorem dX12_haste_31 : decode cX12_haste 31 = .ok (.aload_n 0, 1) := by decide +kernel
theorem dX12_haste_32 : decode cX12_haste 32 = .ok (.getfield 7, 3) := by decide +kernel
theorem dX12_haste_35 : decode cX12_haste 35 = .ok (.sipush 165, 3) := by decide +kernel
theorem dX12_haste_38 : decode cX12_haste 38 = .ok (.iaload, 1) := by decide +kernel
theorem dX12_haste_39 : decode cX12_haste 39 = .ok (.if_icmp .ge 113, 3) := by decide +kernel
theorem dX12_haste_42 : decode cX12_haste 42 = .ok (.aload_n 0, 1) := by decide +kernel
theorem dX12_haste_43 : decode cX12_haste 43 = .ok (.iload 5, 2) := by decide +kernel
theorem dX12_haste_45 : decode cX12_haste 45 = .ok (.iconst 0, 1) := by decide +kernel
theorem dX12_haste_46 : decode cX12_haste 46 = .ok (.invokevirtual 415, 3) := by decide +kernel
theorem dX12_haste_49 : decode cX12_haste 49 = .ok (.iload_n 1, 1) := by decide +kernel
theorem dX12_haste_50 : decode cX12_haste 50 = .ok (.if_icmp .ne 96, 3) := by decide +kernel
theorem dX12_haste_53 : decode cX12_haste 53 = .ok (.aload_n 0, 1) := by decide +kernel
theorem dX12_haste_54 : decode cX12_haste 54 = .ok (.iload 5, 2) := by decide +kernel
theorem dX12_haste_56 : decode cX12_haste 56 = .ok (.invokevirtual 445, 3) := by decide +kernel
theorem dX12_haste_59 : decode cX12_haste 59 = .ok (.ifCond .eq 87, 3) := by decide +kernel
theorem dX12_haste_62 : decode cX12_haste 62 = .ok (.aload_n 0, 1) := by decide +kernel
theorem dX12_haste_63 : decode cX12_haste 63 = .ok (.iload 5, 2) := by decide +kernel
theorem dX12_haste_65 : decode cX12_haste 65 = .ok (.iload_n 2, 1) := by decide +kernel
theorem dX12_haste_66 : decode cX12_haste 66 = .ok (.invokevirtual 566, 3) := by decide +kernel
theorem dX12_haste_69 : decode cX12_haste 69 = .ok (.istore 6, 2) := by decide +kernel
theorem dX12_haste_71 : decode cX12_haste 71 = .ok (.iload 6, 2) := by decide +kernel
theorem dX12_haste_73 : decode cX12_haste 73 = .ok (.aload_n 0, 1) := by decide +kernel
theorem dX12_haste_74 : decode cX12_haste 74 = .ok (.getfield 7, 3) := by decide +kernel
theorem dX12_haste_77 : decode cX12_haste 77 = .ok (.bipush 91, 2) := by decide +kernel
theorem dX12_haste_79 : decode cX12_haste 79 = .ok (.iaload, 1) := by decide +kernel
theorem dX12_haste_80 : decode cX12_haste 80 = .ok (.if_icmp .le 7, 3) := by decide +kernel
theorem dX12_haste_83 : decode cX12_haste 83 = .ok (.iconst (-1), 1) := by decide +kernel
theorem dX12_haste_84 : decode cX12_haste 84 = .ok (.goto 10, 3) := by decide +kernel
theorem dX12_haste_87 : decode cX12_haste 87 = .ok (.aload_n 0, 1) := by decide +kernel
theorem dX12_haste_88 : decode cX12_haste 88 = .ok (.iload_n 2, 1) := by decide +kernel
theorem dX12_haste_89 : decode cX12_haste 89 = .ok (.iload 6, 2) := by decide +kernel
theorem dX12_haste_91 : decode cX12_haste 91 = .ok (.invokevirtual 579, 3) := by decide +kernel
theorem dX12_haste_94 : decode cX12_haste 94 = .ok (.istore 7, 2) := by decide +kernel
theorem dX12_haste_96 : decode cX12_haste 96 = .ok (.iload 7, 2) := by decide +kernel
theorem dX12_haste_98 : decode cX12_haste 98 = .ok (.iconst (-1), 1) := by decide +kernel
theorem dX12_haste_99 : decode cX12_haste 99 = .ok (.if_icmp .eq 47, 3) := by decide +kernel
theorem dX12_haste_102 : decode cX12_haste 102 = .ok (.iload_n 3, 1) := by decide +kernel
theorem dX12_haste_103 : decode cX12_haste 103 = .ok (.ifCond .eq 20, 3) := by decide +kernel
theorem dX12_haste_106 : decode cX12_haste 106 = .ok (.aload_n 0, 1) := by decide +kernel
theorem dX12_haste_107 : decode cX12_haste 107 = .ok (.iload 5, 2) := by decide +kernel
theorem dX12_haste_109 : decode cX12_haste 109 = .ok (.iconst 1, 1) := by decide +kernel
theorem dX12_haste_110 : decode cX12_haste 110 = .ok (.invokevirtual 415, 3) := by decide +kernel
theorem dX12_haste_113 : decode cX12_haste 113 = .ok (.aload_n 0, 1) := by decide +kernel
theorem dX12_haste_114 : decode cX12_haste 114 = .ok (.iload 7, 2) := by decide +kernel
theorem dX12_haste_116 : decode cX12_haste 116 = .ok (.iload_n 1, 1) := by decide +kernel
theorem dX12_haste_117 : decode cX12_haste 117 = .ok (.invokevirtual 566, 3) := by decide +kernel
theorem dX12_haste_120 : decode cX12_haste 120 = .ok (.if_icmp .le 26, 3) := by decide +kernel
theorem dX12_haste_123 : decode cX12_haste 123 = .ok (.iload 4, 2) := by decide +kernel
theorem dX12_haste_125 : decode cX12_haste 125 = .ok (.aload_n 0, 1) := by decide +kernel
theorem dX12_haste_126 : decode cX12_haste 126 = .ok (.iconst 4, 1) := by decide +kernel
theorem dX12_haste_127 : decode cX12_haste 127 = .ok (.iload_n 1, 1) := by decide +kernel
theorem dX12_haste_128 : decode cX12_haste 128 = .ok (.bipush 10, 2) := by decide +kernel
theorem dX12_haste_130 : decode cX12_haste 130 = .ok (.iload 6, 2) := by decide +kernel
theorem dX12_haste_132 : decode cX12_haste 132 = .ok (.aload_n 0, 1) := by decide +kernel
theorem dX12_haste_133 : decode cX12_haste 133 = .ok (.iload 7, 2) := by decide +kernel
theorem dX12_haste_135 : decode cX12_haste 135 = .ok (.iconst 1, 1) := by decide +kernel
theorem dX12_haste_136 : decode cX12_haste 136 = .ok (.invokevirtual 415, 3) := by decide +kernel
theorem dX12_haste_139 : decode cX12_haste 139 = .ok (.isub, 1) := by decide +kernel
theorem dX12_haste_140 : decode cX12_haste 140 = .ok (.invokevirtual 575, 3) := by decide +kernel
theorem dX12_haste_143 : decode cX12_haste 143 = .ok (.iadd, 1) := by decide +kernel
theorem dX12_haste_144 : decode cX12_haste 144 = .ok (.istore 4, 2) := by decide +kernel
theorem dX12_haste_146 : decode cX12_haste 146 = .ok (.iinc 5 1, 3) := by decide +kernel
theorem dX12_haste_149 : decode cX12_haste 149 = .ok (.goto (-120), 3) := by decide +kernel
theorem dX12_haste_152 : decode cX12_haste 152 = .ok (.iload 4, 2) := by decide +kernel
theorem dX12_haste_154 : decode cX12_haste 154 = .ok (.ireturn, 1) := by decide +kernel
theorem dX12_laysRule_0 : decode cX12_laysRule 0 = .ok (.aload_n 0, 1) := by decide +kernel
theorem dX12_laysRule_1 : decode cX12_laysRule 1 = .ok (.iconst 1, 1) := by decide +kernel
theorem dX12_laysRule_2 : decode cX12_laysRule 2 = .ok (.invokevirtual 514, 3) := by decide +kernel
theorem dX12_laysRule_5 : decode cX12_laysRule 5 = .ok (.aload_n 0, 1) := by decide +kernel
theorem dX12_laysRule_6 : decode cX12_laysRule 6 = .ok (.iload_n 1, 1) := by decide +kernel
theorem dX12_laysRule_7 : decode cX12_laysRule 7 = .ok (.putfield 427, 3) := by decide +kernel
theorem dX12_laysRule_10 : decode cX12_laysRule 10 = .ok (.iconst 0, 1) := by decide +kernel
theorem dX12_laysRule_11 : decode cX12_laysRule 11 = .ok (.istore_n 3, 1) := by decide +kernel
theorem dX12_laysRule_12 : decode cX12_laysRule 12 = .ok (.iload_n 3, 1) := by decide +kernel
theorem dX12_laysRule_13 : decode cX12_laysRule 13 = .ok (.iload_n 2, 1) := by decide +kernel
theorem dX12_laysRule_14 : decode cX12_laysRule 14 = .ok (.if_icmp .ge 13, 3) := by decide +kernel
theorem dX12_laysRule_17 : decode cX12_laysRule 17 = .ok (.aload_n 0, 1) := by decide +kernel
theorem dX12_laysRule_18 : decode cX12_laysRule 18 = .ok (.invokevirtual 517, 3) := by decide +kernel
theorem dX12_laysRule_21 : decode cX12_laysRule 21 = .ok (.iinc 3 1, 3) := by decide +kernel
theorem dX12_laysRule_24 : decode cX12_laysRule 24 = .ok (.goto (-12), 3) := by decide +kernel
theorem dX12_laysRule_27 : decode cX12_laysRule 27 = .ok (.return_, 1) := by decide +kernel
theorem dX12_rules_0 : decode cX12_rules 0 = .ok (.iload_n 1, 1) := by decide +kernel
theorem dX12_rules_1 : decode cX12_rules 1 = .ok (.iconst 0, 1) := by decide +kernel
theorem dX12_rules_2 : decode cX12_rules 2 = .ok (.iconst 3, 1) := by decide +kernel
theorem dX12_rules_3 : decode cX12_rules 3 = .ok (.invokestatic 173, 3) := by decide +kernel
theorem dX12_rules_6 : decode cX12_rules 6 = .ok (.ifCond .eq 14, 3) := by decide +kernel
theorem dX12_rules_9 : decode cX12_rules 9 = .ok (.iload_n 2, 1) := by decide +kernel
theorem dX12_rules_10 : decode cX12_rules 10 = .ok (.iconst 1, 1) := by decide +kernel
theorem dX12_rules_11 : decode cX12_rules 11 = .ok (.sipush 3000, 3) := by decide +kernel
theorem dX12_rules_14 : decode cX12_rules 14 = .ok (.invokestatic 173, 3) := by decide +kernel
theorem dX12_rules_17 : decode cX12_rules 17 = .ok (.ifCond .ne 5, 3) := by decide +kernel
theorem dX12_rules_20 : decode cX12_rules 20 = .ok (.iconst (-1), 1) := by decide +kernel
theorem dX12_rules_21 : decode cX12_rules 21 = .ok (.ireturn, 1) := by decide +kernel
theorem dX12_rules_22 : decode cX12_rules 22 = .ok (.aload_n 0, 1) := by decide +kernel
theorem dX12_rules_23 : decode cX12_rules 23 = .ok (.iload_n 1, 1) := by decide +kernel
theorem dX12_rules_24 : decode cX12_rules 24 = .ok (.iload_n 2, 1) := by decide +kernel
theorem dX12_rules_25 : decode cX12_rules 25 = .ok (.invokevirtual 582, 3) := by decide +kernel
theorem dX12_rules_28 : decode cX12_rules 28 = .ok (.iload_n 3, 1) := by decide +kernel
theorem dX12_rules_29 : decode cX12_rules 29 = .ok (.ifCond .eq 10, 3) := by decide +kernel
theorem dX12_rules_32 : decode cX12_rules 32 = .ok (.aload_n 0, 1) := by decide +kernel
theorem dX12_rules_33 : decode cX12_rules 33 = .ok (.getfield 439, 3) := by decide +kernel
theorem dX12_rules_36 : decode cX12_rules 36 = .ok (.goto 7, 3) := by decide +kernel
theorem dX12_rules_39 : decode cX12_rules 39 = .ok (.aload_n 0, 1) := by decide +kernel
theorem dX12_rules_40 : decode cX12_rules 40 = .ok (.getfield 436, 3) := by decide +kernel
theorem dX12_rules_43 : decode cX12_rules 43 = .ok (.ireturn, 1) := by decide +kernel
theorem dX12_bestRule_0 : decode cX12_bestRule 0 = .ok (.iload_n 1, 1) := by decide +kernel
theorem dX12_bestRule_1 : decode cX12_bestRule 1 = .ok (.iconst 1, 1) := by decide +kernel
theorem dX12_bestRule_2 : decode cX12_bestRule 2 = .ok (.sipush 3000, 3) := by decide +kernel
theorem dX12_bestRule_5 : decode cX12_bestRule 5 = .ok (.invokestatic 173, 3) := by decide +kernel
theorem dX12_bestRule_8 : decode cX12_bestRule 8 = .ok (.ifCond .ne 5, 3) := by decide +kernel
theorem dX12_bestRule_11 : decode cX12_bestRule 11 = .ok (.iconst (-1), 1) := by decide +kernel
theorem dX12_bestRule_12 : decode cX12_bestRule 12 = .ok (.ireturn, 1) := by decide +kernel
theorem dX12_bestRule_13 : decode cX12_bestRule 13 = .ok (.iconst (-1), 1) := by decide +kernel
theorem dX12_bestRule_14 : decode cX12_bestRule 14 = .ok (.istore_n 2, 1) := by decide +kernel
theorem dX12_bestRule_15 : decode cX12_bestRule 15 = .ok (.iconst 0, 1) := by decide +kernel
theorem dX12_bestRule_16 : decode cX12_bestRule 16 = .ok (.istore_n 3, 1) := by decide +kernel
theorem dX12_bestRule_17 : decode cX12_bestRule 17 = .ok (.iconst 0, 1) := by decide +kernel
theorem dX12_bestRule_18 : decode cX12_bestRule 18 = .ok (.istore 4, 2) := by decide +kernel
theorem dX12_bestRule_20 : decode cX12_bestRule 20 = .ok (.iconst 0, 1) := by decide +kernel
theorem dX12_bestRule_21 : decode cX12_bestRule 21 = .ok (.istore 5, 2) := by decide +kernel
theorem dX12_bestRule_23 : decode cX12_bestRule 23 = .ok (.iload 5, 2) := by decide +kernel
theorem dX12_bestRule_25 : decode cX12_bestRule 25 = .ok (.iconst 4, 1) := by decide +kernel
theorem dX12_bestRule_26 : decode cX12_bestRule 26 = .ok (.if_icmp .ge 60, 3) := by decide +kernel
theorem dX12_bestRule_29 : decode cX12_bestRule 29 = .ok (.aload_n 0, 1) := by decide +kernel
theorem dX12_bestRule_30 : decode cX12_bestRule 30 = .ok (.iload 5, 2) := by decide +kernel
theorem dX12_bestRule_32 : decode cX12_bestRule 32 = .ok (.iload_n 1, 1) := by decide +kernel
theorem dX12_bestRule_33 : decode cX12_bestRule 33 = .ok (.invokevirtual 582, 3) := by decide +kernel
theorem dX12_bestRule_36 : decode cX12_bestRule 36 = .ok (.iload_n 2, 1) := by decide +kernel
theorem dX12_bestRule_37 : decode cX12_bestRule 37 = .ok (.iconst (-1), 1) := by decide +kernel
theorem dX12_bestRule_38 : decode cX12_bestRule 38 = .ok (.if_icmp .eq 28, 3) := by decide +kernel
theorem dX12_bestRule_41 : decode cX12_bestRule 41 = .ok (.aload_n 0, 1) := by decide +kernel
theorem dX12_bestRule_42 : decode cX12_bestRule 42 = .ok (.getfield 436, 3) := by decide +kernel
theorem dX12_bestRule_45 : decode cX12_bestRule 45 = .ok (.iload_n 3, 1) := by decide +kernel
theorem dX12_bestRule_46 : decode cX12_bestRule 46 = .ok (.if_icmp .gt 20, 3) := by decide +kernel
theorem dX12_bestRule_49 : decode cX12_bestRule 49 = .ok (.aload_n 0, 1) := by decide +kernel
theorem dX12_bestRule_50 : decode cX12_bestRule 50 = .ok (.getfield 436, 3) := by decide +kernel
theorem dX12_bestRule_53 : decode cX12_bestRule 53 = .ok (.iload_n 3, 1) := by decide +kernel
theorem dX12_bestRule_54 : decode cX12_bestRule 54 = .ok (.if_icmp .ne 26, 3) := by decide +kernel
theorem dX12_bestRule_57 : decode cX12_bestRule 57 = .ok (.aload_n 0, 1) := by decide +kernel
theorem dX12_bestRule_58 : decode cX12_bestRule 58 = .ok (.getfield 439, 3) := by decide +kernel
theorem dX12_bestRule_61 : decode cX12_bestRule 61 = .ok (.iload 4, 2) := by decide +kernel
theorem dX12_bestRule_63 : decode cX12_bestRule 63 = .ok (.if_icmp .ge 17, 3) := by decide +kernel
theorem dX12_bestRule_66 : decode cX12_bestRule 66 = .ok (.iload 5, 2) := by decide +kernel
theorem dX12_bestRule_68 : decode cX12_bestRule 68 = .ok (.istore_n 2, 1) := by decide +kernel
theorem dX12_bestRule_69 : decode cX12_bestRule 69 = .ok (.aload_n 0, 1) := by decide +kernel
theorem dX12_bestRule_70 : decode cX12_bestRule 70 = .ok (.getfield 436, 3) := by decide +kernel
theorem dX12_bestRule_73 : decode cX12_bestRule 73 = .ok (.istore_n 3, 1) := by decide +kernel
theorem dX12_bestRule_74 : decode cX12_bestRule 74 = .ok (.aload_n 0, 1) := by decide +kernel
theorem dX12_bestRule_75 : decode cX12_bestRule 75 = .ok (.getfield 439, 3) := by decide +kernel
theorem dX12_bestRule_78 : decode cX12_bestRule 78 = .ok (.istore 4, 2) := by decide +kernel
theorem dX12_bestRule_80 : decode cX12_bestRule 80 = .ok (.iinc 5 1, 3) := by decide +kernel
theorem dX12_bestRule_83 : decode cX12_bestRule 83 = .ok (.goto (-60), 3) := by decide +kernel
theorem dX12_bestRule_86 : decode cX12_bestRule 86 = .ok (.iload_n 2, 1) := by decide +kernel
theorem dX12_bestRule_87 : decode cX12_bestRule 87 = .ok (.ireturn, 1) := by decide +kernel
theorem dX12_price_0 : decode cX12_price 0 = .ok (.iload_n 1, 1) := by decide +kernel
theorem dX12_price_1 : decode cX12_price 1 = .ok (.iconst 0, 1) := by decide +kernel
theorem dX12_price_2 : decode cX12_price 2 = .ok (.bipush 99, 2) := by decide +kernel
theorem dX12_price_4 : decode cX12_price 4 = .ok (.invokestatic 173, 3) := by decide +kernel
theorem dX12_price_7 : decode cX12_price 7 = .ok (.ifCond .eq 23, 3) := by decide +kernel
theorem dX12_price_10 : decode cX12_price 10 = .ok (.iload_n 2, 1) := by decide +kernel
theorem dX12_price_11 : decode cX12_price 11 = .ok (.iconst 0, 1) := by decide +kernel
theorem dX12_price_12 : decode cX12_price 12 = .ok (.bipush 99, 2) := by decide +kernel
theorem dX12_price_14 : decode cX12_price 14 = .ok (.invokestatic 173, 3) := by decide +kernel
theorem dX12_price_17 : decode cX12_price 17 = .ok (.ifCond .eq 13, 3) := by decide +kernel
theorem dX12_price_20 : decode cX12_price 20 = .ok (.iload_n 3, 1) := by decide +kernel
theorem dX12_price_21 : decode cX12_price 21 = .ok (.iconst 0, 1) := by decide +kernel
theorem dX12_price_22 : decode cX12_price 22 = .ok (.bipush 99, 2) := by decide +kernel
theorem dX12_price_24 : decode cX12_price 24 = .ok (.invokestatic 173, 3) := by decide +kernel
theorem dX12_price_27 : decode cX12_price 27 = .ok (.ifCond .ne 9, 3) := by decide +kernel
theorem dX12_price_30 : decode cX12_price 30 = .ok (.aload_n 0, 1) := by decide +kernel
theorem dX12_price_31 : decode cX12_price 31 = .ok (.iconst 0, 1) := by decide +kernel
theorem dX12_price_32 : decode cX12_price 32 = .ok (.invokevirtual 181, 3) := by decide +kernel
theorem dX12_price_35 : decode cX12_price 35 = .ok (.ireturn, 1) := by decide +kernel
theorem dX12_price_36 : decode cX12_price 36 = .ok (.aload_n 0, 1) := by decide +kernel
theorem dX12_price_37 : decode cX12_price 37 = .ok (.getfield 7, 3) := by decide +kernel
theorem dX12_price_40 : decode cX12_price 40 = .ok (.bipush 6, 2) := by decide +kernel
theorem dX12_price_42 : decode cX12_price 42 = .ok (.iload_n 1, 1) := by decide +kernel
theorem dX12_price_43 : decode cX12_price 43 = .ok (.iastore, 1) := by decide +kernel
theorem dX12_price_44 : decode cX12_price 44 = .ok (.aload_n 0, 1) := by decide +kernel
theorem dX12_price_45 : decode cX12_price 45 = .ok (.getfield 7, 3) := by decide +kernel
theorem dX12_price_48 : decode cX12_price 48 = .ok (.bipush 7, 2) := by decide +kernel
theorem dX12_price_50 : decode cX12_price 50 = .ok (.iload_n 2, 1) := by decide +kernel
theorem dX12_price_51 : decode cX12_price 51 = .ok (.iastore, 1) := by decide +kernel
theorem dX12_price_52 : decode cX12_price 52 = .ok (.aload_n 0, 1) := by decide +kernel
theorem dX12_price_53 : decode cX12_price 53 = .ok (.getfield 7, 3) := by decide +kernel
theorem dX12_price_56 : decode cX12_price 56 = .ok (.bipush 8, 2) := by decide +kernel
theorem dX12_price_58 : decode cX12_price 58 = .ok (.iload_n 3, 1) := by decide +kernel
theorem dX12_price_59 : decode cX12_price 59 = .ok (.iastore, 1) := by decide +kernel
theorem dX12_price_60 : decode cX12_price 60 = .ok (.iconst 1, 1) := by decide +kernel
theorem dX12_price_61 : decode cX12_price 61 = .ok (.ireturn, 1) := by decide +kernel
theorem dX12_penceOf_0 : decode cX12_penceOf 0 = .ok (.aload_n 0, 1) := by decide +kernel
theorem dX12_penceOf_1 : decode cX12_penceOf 1 = .ok (.getfield 7, 3) := by decide +kernel
theorem dX12_penceOf_4 : decode cX12_penceOf 4 = .ok (.bipush 8, 2) := by decide +kernel
theorem dX12_penceOf_6 : decode cX12_penceOf 6 = .ok (.iaload, 1) := by decide +kernel
theorem dX12_penceOf_7 : decode cX12_penceOf 7 = .ok (.istore_n 2, 1) := by decide +kernel
theorem dX12_penceOf_8 : decode cX12_penceOf 8 = .ok (.iload_n 1, 1) := by decide +kernel
theorem dX12_penceOf_9 : decode cX12_penceOf 9 = .ok (.iload_n 2, 1) := by decide +kernel
theorem dX12_penceOf_10 : decode cX12_penceOf 10 = .ok (.if_icmp .gt 15, 3) := by decide +kernel
theorem dX12_penceOf_13 : decode cX12_penceOf 13 = .ok (.aload_n 0, 1) := by decide +kernel
theorem dX12_penceOf_14 : decode cX12_penceOf 14 = .ok (.getfield 7, 3) := by decide +kernel
theorem dX12_penceOf_17 : decode cX12_penceOf 17 = .ok (.bipush 6, 2) := by decide +kernel
theorem dX12_penceOf_19 : decode cX12_penceOf 19 = .ok (.iaload, 1) := by decide +kernel
theorem dX12_penceOf_20 : decode cX12_penceOf 20 = .ok (.iload_n 1, 1) := by decide +kernel
theorem dX12_penceOf_21 : decode cX12_penceOf 21 = .ok (.imul, 1) := by decide +kernel
theorem dX12_penceOf_22 : decode cX12_penceOf 22 = .ok (.goto 24, 3) := by decide +kernel
theorem dX12_penceOf_25 : decode cX12_penceOf 25 = .ok (.aload_n 0, 1) := by decide +kernel
theorem dX12_penceOf_26 : decode cX12_penceOf 26 = .ok (.getfield 7, 3) := by decide +kernel
theorem dX12_penceOf_29 : decode cX12_penceOf 29 = .ok (.bipush 6, 2) := by decide +kernel
theorem dX12_penceOf_31 : decode cX12_penceOf 31 = .ok (.iaload, 1) := by decide +kernel
theorem dX12_penceOf_32 : decode cX12_penceOf 32 = .ok (.iload_n 2, 1) := by decide +kernel
theorem dX12_penceOf_33 : decode cX12_penceOf 33 = .ok (.imul, 1) := by decide +kernel
theorem dX12_penceOf_34 : decode cX12_penceOf 34 = .ok (.aload_n 0, 1) := by decide +kernel
theorem dX12_penceOf_35 : decode cX12_penceOf 35 = .ok (.getfield 7, 3) := by decide +kernel
theorem dX12_penceOf_38 : decode cX12_penceOf 38 = .ok (.bipush 7, 2) := by decide +kernel
theorem dX12_penceOf_40 : decode cX12_penceOf 40 = .ok (.iaload, 1) := by decide +kernel
theorem dX12_penceOf_41 : decode cX12_penceOf 41 = .ok (.iload_n 1, 1) := by decide +kernel
theorem dX12_penceOf_42 : decode cX12_penceOf 42 = .ok (.iload_n 2, 1) := by decide +kernel
theorem dX12_penceOf_43 : decode cX12_penceOf 43 = .ok (.isub, 1) := by decide +kernel
theorem dX12_penceOf_44 : decode cX12_penceOf 44 = .ok (.imul, 1) := by decide +kernel
theorem dX12_penceOf_45 : decode cX12_penceOf 45 = .ok (.iadd, 1) := by decide +kernel
theorem dX12_penceOf_46 : decode cX12_penceOf 46 = .ok (.ireturn, 1) := by decide +kernel
theorem dX12_pence_0 : decode cX12_pence 0 = .ok (.iload_n 1, 1) := by decide +kernel
theorem dX12_pence_1 : decode cX12_pence 1 = .ok (.iconst 0, 1) := by decide +kernel
theorem dX12_pence_2 : decode cX12_pence 2 = .ok (.sipush 9000, 3) := by decide +kernel
theorem dX12_pence_5 : decode cX12_pence 5 = .ok (.invokestatic 173, 3) := by decide +kernel
theorem dX12_pence_8 : decode cX12_pence 8 = .ok (.ifCond .eq 19, 3) := by decide +kernel
theorem dX12_pence_11 : decode cX12_pence 11 = .ok (.aload_n 0, 1) := by decide +kernel
theorem dX12_pence_12 : decode cX12_pence 12 = .ok (.iload_n 1, 1) := by decide +kernel
theorem dX12_pence_13 : decode cX12_pence 13 = .ok (.sipush 599, 3) := by decide +kernel
theorem dX12_pence_16 : decode cX12_pence 16 = .ok (.iadd, 1) := by decide +kernel
theorem dX12_pence_17 : decode cX12_pence 17 = .ok (.sipush 600, 3) := by decide +kernel
theorem dX12_pence_20 : decode cX12_pence 20 = .ok (.idiv, 1) := by decide +kernel
theorem dX12_pence_21 : decode cX12_pence 21 = .ok (.invokevirtual 585, 3) := by decide +kernel
theorem dX12_pence_24 : decode cX12_pence 24 = .ok (.goto 4, 3) := by decide +kernel
theorem dX12_pence_27 : decode cX12_pence 27 = .ok (.iconst (-1), 1) := by decide +kernel
theorem dX12_pence_28 : decode cX12_pence 28 = .ok (.ireturn, 1) := by decide +kernel
theorem dX12_forPence_0 : decode cX12_forPence 0 = .ok (.iload_n 1, 1) := by decide +kernel
theorem dX12_forPence_1 : decode cX12_forPence 1 = .ok (.iconst 0, 1) := by decide +kernel
theorem dX12_forPence_2 : decode cX12_forPence 2 = .ok (.sipush 9999, 3) := by decide +kernel
theorem dX12_forPence_5 : decode cX12_forPence 5 = .ok (.invokestatic 173, 3) := by decide +kernel
theorem dX12_forPence_8 : decode cX12_forPence 8 = .ok (.ifCond .eq 12, 3) := by decide +kernel
theorem dX12_forPence_11 : decode cX12_forPence 11 = .ok (.iload_n 2, 1) := by decide +kernel
theorem dX12_forPence_12 : decode cX12_forPence 12 = .ok (.iconst 0, 1) := by decide +kernel
theorem dX12_forPence_13 : decode cX12_forPence 13 = .ok (.iconst 3, 1) := by decide +kernel
theorem dX12_forPence_14 : decode cX12_forPence 14 = .ok (.invokestatic 173, 3) := by decide +kernel
theorem dX12_forPence_17 : decode cX12_forPence 17 = .ok (.ifCond .ne 5, 3) := by decide +kernel
theorem dX12_forPence_20 : decode cX12_forPence 20 = .ok (.iconst (-1), 1) := by decide +kernel
theorem dX12_forPence_21 : decode cX12_forPence 21 = .ok (.ireturn, 1) := by decide +kernel
theorem dX12_forPence_22 : decode cX12_forPence 22 = .ok (.iconst 5, 1) := by decide +kernel
theorem dX12_forPence_23 : decode cX12_forPence 23 = .ok (.istore_n 3, 1) := by decide +kernel
theorem dX12_forPence_24 : decode cX12_forPence 24 = .ok (.aload_n 0, 1) := by decide +kernel
theorem dX12_forPence_25 : decode cX12_forPence 25 = .ok (.iload_n 3, 1) := by decide +kernel
theorem dX12_forPence_26 : decode cX12_forPence 26 = .ok (.invokevirtual 585, 3) := by decide +kernel
theorem dX12_forPence_29 : decode cX12_forPence 29 = .ok (.iload_n 1, 1) := by decide +kernel
theorem dX12_forPence_30 : decode cX12_forPence 30 = .ok (.if_icmp .le 9, 3) := by decide +kernel
theorem dX12_forPence_33 : decode cX12_forPence 33 = .ok (.iinc 3 (-1), 3) := by decide +kernel
theorem dX12_forPence_36 : decode cX12_forPence 36 = .ok (.goto (-12), 3) := by decide +kernel
theorem dX12_forPence_39 : decode cX12_forPence 39 = .ok (.iload_n 3, 1) := by decide +kernel
theorem dX12_forPence_40 : decode cX12_forPence 40 = .ok (.ifCond .ne 5, 3) := by decide +kernel
theorem dX12_forPence_43 : decode cX12_forPence 43 = .ok (.iconst 0, 1) := by decide +kernel
theorem dX12_forPence_44 : decode cX12_forPence 44 = .ok (.ireturn, 1) := by decide +kernel
theorem dX12_forPence_45 : decode cX12_forPence 45 = .ok (.aload_n 0, 1) := by decide +kernel
theorem dX12_forPence_46 : decode cX12_forPence 46 = .ok (.iload_n 2, 1) := by decide +kernel
theorem dX12_forPence_47 : decode cX12_forPence 47 = .ok (.sipush 600, 3) := by decide +kernel
theorem dX12_forPence_50 : decode cX12_forPence 50 = .ok (.iload_n 3, 1) := by decide +kernel
theorem dX12_forPence_51 : decode cX12_forPence 51 = .ok (.imul, 1) := by decide +kernel
theorem dX12_forPence_52 : decode cX12_forPence 52 = .ok (.invokevirtual 582, 3) := by decide +kernel
theorem dX12_forPence_55 : decode cX12_forPence 55 = .ok (.aload_n 0, 1) := by decide +kernel
theorem dX12_forPence_56 : decode cX12_forPence 56 = .ok (.getfield 436, 3) := by decide +kernel
theorem dX12_forPence_59 : decode cX12_forPence 59 = .ok (.ireturn, 1) := by decide +kernel
theorem dX12_laysFresh_0 : decode cX12_laysFresh 0 = .ok (.aload_n 0, 1) := by decide +kernel
theorem dX12_laysFresh_1 : decode cX12_laysFresh 1 = .ok (.iconst 2, 1) := by decide +kernel
theorem dX12_laysFresh_2 : decode cX12_laysFresh 2 = .ok (.putfield 418, 3) := by decide +kernel
theorem dX12_laysFresh_5 : decode cX12_laysFresh 5 = .ok (.aload_n 0, 1) := by decide +kernel
theorem dX12_laysFresh_6 : decode cX12_laysFresh 6 = .ok (.iconst 2, 1) := by decide +kernel
theorem dX12_laysFresh_7 : decode cX12_laysFresh 7 = .ok (.putfield 421, 3) := by decide +kernel
theorem dX12_laysFresh_10 : decode cX12_laysFresh 10 = .ok (.aload_n 0, 1) := by decide +kernel
theorem dX12_laysFresh_11 : decode cX12_laysFresh 11 = .ok (.iconst 0, 1) := by decide +kernel
theorem dX12_laysFresh_12 : decode cX12_laysFresh 12 = .ok (.putfield 424, 3) := by decide +kernel
theorem dX12_laysFresh_15 : decode cX12_laysFresh 15 = .ok (.aload_n 0, 1) := by decide +kernel
theorem dX12_laysFresh_16 : decode cX12_laysFresh 16 = .ok (.iconst 0, 1) := by decide +kernel
theorem dX12_laysFresh_17 : decode cX12_laysFresh 17 = .ok (.putfield 481, 3) := by decide +kernel
theorem dX12_laysFresh_20 : decode cX12_laysFresh 20 = .ok (.aload_n 0, 1) := by decide +kernel
theorem dX12_laysFresh_21 : decode cX12_laysFresh 21 = .ok (.getfield 139, 3) := by decide +kernel
theorem dX12_laysFresh_24 : decode cX12_laysFresh 24 = .ok (.iconst 0, 1) := by decide +kernel
theorem dX12_laysFresh_25 : decode cX12_laysFresh 25 = .ok (.iload_n 1, 1) := by decide +kernel
theorem dX12_laysFresh_26 : decode cX12_laysFresh 26 = .ok (.iastore, 1) := by decide +kernel
theorem dX12_laysFresh_27 : decode cX12_laysFresh 27 = .ok (.aload_n 0, 1) := by decide +kernel
theorem dX12_laysFresh_28 : decode cX12_laysFresh 28 = .ok (.getfield 139, 3) := by decide +kernel
theorem dX12_laysFresh_31 : decode cX12_laysFresh 31 = .ok (.iconst 1, 1) := by decide +kernel
theorem dX12_laysFresh_32 : decode cX12_laysFresh 32 = .ok (.iload_n 2, 1) := by decide +kernel
theorem dX12_laysFresh_33 : decode cX12_laysFresh 33 = .ok (.iastore, 1) := by decide +kernel
theorem dX12_laysFresh_34 : decode cX12_laysFresh 34 = .ok (.aload_n 0, 1) := by decide +kernel
theorem dX12_laysFresh_35 : decode cX12_laysFresh 35 = .ok (.iload 5, 2) := by decide +kernel
theorem dX12_laysFresh_37 : decode cX12_laysFresh 37 = .ok (.putfield 472, 3) := by decide +kernel
theorem dX12_laysFresh_40 : decode cX12_laysFresh 40 = .ok (.aload_n 0, 1) := by decide +kernel
theorem dX12_laysFresh_41 : decode cX12_laysFresh 41 = .ok (.iload 6, 2) := by decide +kernel
theorem dX12_laysFresh_43 : decode cX12_laysFresh 43 = .ok (.putfield 465, 3) := by decide +kernel
theorem dX12_laysFresh_46 : decode cX12_laysFresh 46 = .ok (.aload_n 0, 1) := by decide +kernel
theorem dX12_laysFresh_47 : decode cX12_laysFresh 47 = .ok (.getfield 133, 3) := by decide +kernel
theorem dX12_laysFresh_50 : decode cX12_laysFresh 50 = .ok (.iconst 1, 1) := by decide +kernel
theorem dX12_laysFresh_51 : decode cX12_laysFresh 51 = .ok (.iload_n 3, 1) := by decide +kernel
theorem dX12_laysFresh_52 : decode cX12_laysFresh 52 = .ok (.iastore, 1) := by decide +kernel
theorem dX12_laysFresh_53 : decode cX12_laysFresh 53 = .ok (.aload_n 0, 1) := by decide +kernel
theorem dX12_laysFresh_54 : decode cX12_laysFresh 54 = .ok (.getfield 133, 3) := by decide +kernel
theorem dX12_laysFresh_57 : decode cX12_laysFresh 57 = .ok (.iconst 4, 1) := by decide +kernel
theorem dX12_laysFresh_58 : decode cX12_laysFresh 58 = .ok (.iload 4, 2) := by decide +kernel
theorem dX12_laysFresh_60 : decode cX12_laysFresh 60 = .ok (.iastore, 1) := by decide +kernel
theorem dX12_laysFresh_61 : decode cX12_laysFresh 61 = .ok (.iconst 0, 1) := by decide +kernel
theorem dX12_laysFresh_62 : decode cX12_laysFresh 62 = .ok (.istore 7, 2) := by decide +kernel
theorem dX12_laysFresh_64 : decode cX12_laysFresh 64 = .ok (.iload 7, 2) := by decide +kernel
theorem dX12_laysFresh_66 : decode cX12_laysFresh 66 = .ok (.bipush 64, 2) := by decide +kernel
theorem dX12_laysFresh_68 : decode cX12_laysFresh 68 = .ok (.if_icmp .ge 17, 3) := by decide +kernel
theorem dX12_laysFresh_71 : decode cX12_laysFresh 71 = .ok (.aload_n 0, 1) := by decide +kernel
theorem dX12_laysFresh_72 : decode cX12_laysFresh 72 = .ok (.getfield 136, 3) := by decide +kernel
theorem dX12_laysFresh_75 : decode cX12_laysFresh 75 = .ok (.iload 7, 2) := by decide +kernel
theorem dX12_laysFresh_77 : decode cX12_laysFresh 77 = .ok (.iconst 0, 1) := by decide +kernel
theorem dX12_laysFresh_78 : decode cX12_laysFresh 78 = .ok (.iastore, 1) := by decide +kernel
theorem dX12_laysFresh_79 : decode cX12_laysFresh 79 = .ok (.iinc 7 1, 3) := by decide +kernel
theorem dX12_laysFresh_82 : decode cX12_laysFresh 82 = .ok (.goto (-18), 3) := by decide +kernel
theorem dX12_laysFresh_85 : decode cX12_laysFresh 85 = .ok (.iconst 0, 1) := by decide +kernel
theorem dX12_laysFresh_86 : decode cX12_laysFresh 86 = .ok (.istore 7, 2) := by decide +kernel
theorem dX12_laysFresh_88 : decode cX12_laysFresh 88 = .ok (.iload 7, 2) := by decide +kernel
theorem dX12_laysFresh_90 : decode cX12_laysFresh 90 = .ok (.sipush 2200, 3) := by decide +kernel
theorem dX12_laysFresh_93 : decode cX12_laysFresh 93 = .ok (.if_icmp .ge 17, 3) := by decide +kernel
theorem dX12_laysFresh_96 : decode cX12_laysFresh 96 = .ok (.aload_n 0, 1) := by decide +kernel
theorem dX12_laysFresh_97 : decode cX12_laysFresh 97 = .ok (.getfield 142, 3) := by decide +kernel
theorem dX12_laysFresh_100 : decode cX12_laysFresh 100 = .ok (.iload 7, 2) := by decide +kernel
theorem dX12_laysFresh_102 : decode cX12_laysFresh 102 = .ok (.iconst 0, 1) := by decide +kernel
theorem dX12_laysFresh_103 : decode cX12_laysFresh 103 = .ok (.iastore, 1) := by decide +kernel
theorem dX12_laysFresh_104 : decode cX12_laysFresh 104 = .ok (.iinc 7 1, 3) := by decide +kernel
theorem dX12_laysFresh_107 : decode cX12_laysFresh 107 = .ok (.goto (-19), 3) := by decide +kernel
theorem dX12_laysFresh_110 : decode cX12_laysFresh 110 = .ok (.iconst 0, 1) := by decide +kernel
theorem dX12_laysFresh_111 : decode cX12_laysFresh 111 = .ok (.istore 7, 2) := by decide +kernel
theorem dX12_laysFresh_113 : decode cX12_laysFresh 113 = .ok (.iload 7, 2) := by decide +kernel
theorem dX12_laysFresh_115 : decode cX12_laysFresh 115 = .ok (.iconst 2, 1) := by decide +kernel
theorem dX12_laysFresh_116 : decode cX12_laysFresh 116 = .ok (.if_icmp .ge 55, 3) := by decide +kernel
theorem dX12_laysFresh_119 : decode cX12_laysFresh 119 = .ok (.aload_n 0, 1) := by decide +kernel
theorem dX12_laysFresh_120 : decode cX12_laysFresh 120 = .ok (.getfield 97, 3) := by decide +kernel
theorem dX12_laysFresh_123 : decode cX12_laysFresh 123 = .ok (.iload 7, 2) := by decide +kernel
theorem dX12_laysFresh_125 : decode cX12_laysFresh 125 = .ok (.iconst 0, 1) := by decide +kernel
theorem dX12_laysFresh_126 : decode cX12_laysFresh 126 = .ok (.iastore, 1) := by decide +kernel
theorem dX12_laysFresh_127 : decode cX12_laysFresh 127 = .ok (.aload_n 0, 1) := by decide +kernel
theorem dX12_laysFresh_128 : decode cX12_laysFresh 128 = .ok (.getfield 100, 3) := by decide +kernel
theorem dX12_laysFresh_131 : decode cX12_laysFresh 131 = .ok (.iload 7, 2) := by decide +kernel
theorem dX12_laysFresh_133 : decode cX12_laysFresh 133 = .ok (.iconst 0, 1) := by decide +kernel
theorem dX12_laysFresh_134 : decode cX12_laysFresh 134 = .ok (.iastore, 1) := by decide +kernel
theorem dX12_laysFresh_135 : decode cX12_laysFresh 135 = .ok (.aload_n 0, 1) := by decide +kernel
theorem dX12_laysFresh_136 : decode cX12_laysFresh 136 = .ok (.getfield 109, 3) := by decide +kernel
theorem dX12_laysFresh_139 : decode cX12_laysFresh 139 = .ok (.iload 7, 2) := by decide +kernel
theorem dX12_laysFresh_141 : decode cX12_laysFresh 141 = .ok (.iconst (-1), 1) := by decide +kernel
theorem dX12_laysFresh_142 : decode cX12_laysFresh 142 = .ok (.iastore, 1) := by decide +kernel
theorem dX12_laysFresh_143 : decode cX12_laysFresh 143 = .ok (.aload_n 0, 1) := by decide +kernel
theorem dX12_laysFresh_144 : decode cX12_laysFresh 144 = .ok (.getfield 106, 3) := by decide +kernel
theorem dX12_laysFresh_147 : decode cX12_laysFresh 147 = .ok (.iload 7, 2) := by decide +kernel
theorem dX12_laysFresh_149 : decode cX12_laysFresh 149 = .ok (.iconst (-1), 1) := by decide +kernel
theorem dX12_laysFresh_150 : decode cX12_laysFresh 150 = .ok (.iastore, 1) := by decide +kernel
theorem dX12_laysFresh_151 : decode cX12_laysFresh 151 = .ok (.aload_n 0, 1) := by decide +kernel
theorem dX12_laysFresh_152 : decode cX12_laysFresh 152 = .ok (.iload 7, 2) := by decide +kernel
theorem dX12_laysFresh_154 : decode cX12_laysFresh 154 = .ok (.invokevirtual 496, 3) := by decide +kernel
theorem dX12_laysFresh_157 : decode cX12_laysFresh 157 = .ok (.istore 8, 2) := by decide +kernel
theorem dX12_laysFresh_159 : decode cX12_laysFresh 159 = .ok (.aload_n 0, 1) := by decide +kernel
theorem dX12_laysFresh_160 : decode cX12_laysFresh 160 = .ok (.iload 7, 2) := by decide +kernel
theorem dX12_laysFresh_162 : decode cX12_laysFresh 162 = .ok (.invokevirtual 490, 3) := by decide +kernel
theorem dX12_laysFresh_165 : decode cX12_laysFresh 165 = .ok (.iinc 7 1, 3) := by decide +kernel
theorem dX12_laysFresh_168 : decode cX12_laysFresh 168 = .ok (.goto (-55), 3) := by decide +kernel
theorem dX12_laysFresh_171 : decode cX12_laysFresh 171 = .ok (.return_, 1) := by decide +kernel
theorem dX12_cameThrough_0 : decode cX12_cameThrough 0 = .ok (.aload_n 0, 1) := by decide +kernel
theorem dX12_cameThrough_1 : decode cX12_cameThrough 1 = .ok (.getfield 151, 3) := by decide +kernel
theorem dX12_cameThrough_4 : decode cX12_cameThrough 4 = .ok (.iload_n 1, 1) := by decide +kernel
theorem dX12_cameThrough_5 : decode cX12_cameThrough 5 = .ok (.iaload, 1) := by decide +kernel
theorem dX12_cameThrough_6 : decode cX12_cameThrough 6 = .ok (.ifCond .ne 5, 3) := by decide +kernel
theorem dX12_cameThrough_9 : decode cX12_cameThrough 9 = .ok (.iconst 0, 1) := by decide +kernel
theorem dX12_cameThrough_10 : decode cX12_cameThrough 10 = .ok (.ireturn, 1) := by decide +kernel
theorem dX12_cameThrough_11 : decode cX12_cameThrough 11 = .ok (.aload_n 0, 1) := by decide +kernel
theorem dX12_cameThrough_12 : decode cX12_cameThrough 12 = .ok (.getfield 148, 3) := by decide +kernel
theorem dX12_cameThrough_15 : decode cX12_cameThrough 15 = .ok (.iload_n 1, 1) := by decide +kernel
theorem dX12_cameThrough_16 : decode cX12_cameThrough 16 = .ok (.iaload, 1) := by decide +kernel
theorem dX12_cameThrough_17 : decode cX12_cameThrough 17 = .ok (.istore_n 2, 1) := by decide +kernel
theorem dX12_cameThrough_18 : decode cX12_cameThrough 18 = .ok (.iload_n 2, 1) := by decide +kernel
theorem dX12_cameThrough_19 : decode cX12_cameThrough 19 = .ok (.aload_n 0, 1) := by decide +kernel
theorem dX12_cameThrough_20 : decode cX12_cameThrough 20 = .ok (.getfield 148, 3) := by decide +kernel
theorem dX12_cameThrough_23 : decode cX12_cameThrough 23 = .ok (.iload_n 1, 1) := by decide +kernel
theorem dX12_cameThrough_24 : decode cX12_cameThrough 24 = .ok (.iaload, 1) := by decide +kernel
theorem dX12_cameThrough_25 : decode cX12_cameThrough 25 = .ok (.aload_n 0, 1) := by decide +kernel
theorem dX12_cameThrough_26 : decode cX12_cameThrough 26 = .ok (.getfield 472, 3) := by decide +kernel
theorem dX12_cameThrough_29 : decode cX12_cameThrough 29 = .ok (.iadd, 1) := by decide +kernel
theorem dX12_cameThrough_30 : decode cX12_cameThrough 30 = .ok (.if_icmp .ge 31, 3) := by decide +kernel
theorem dX12_cameThrough_33 : decode cX12_cameThrough 33 = .ok (.aload_n 0, 1) := by decide +kernel
theorem dX12_cameThrough_34 : decode cX12_cameThrough 34 = .ok (.getfield 142, 3) := by decide +kernel
theorem dX12_cameThrough_37 : decode cX12_cameThrough 37 = .ok (.sipush 1100, 3) := by decide +kernel
theorem dX12_cameThrough_40 : decode cX12_cameThrough 40 = .ok (.aload_n 0, 1) := by decide +kernel
theorem dX12_cameThrough_41 : decode cX12_cameThrough 41 = .ok (.getfield 145, 3) := by decide +kernel
theorem dX12_cameThrough_44 : decode cX12_cameThrough 44 = .ok (.iload_n 1, 1) := by decide +kernel
theorem dX12_cameThrough_45 : decode cX12_cameThrough 45 = .ok (.iaload, 1) := by decide +kernel
theorem dX12_cameThrough_46 : decode cX12_cameThrough 46 = .ok (.imul, 1) := by decide +kernel
theorem dX12_cameThrough_47 : decode cX12_cameThrough 47 = .ok (.iload_n 2, 1) := by decide +kernel
theorem dX12_cameThrough_48 : decode cX12_cameThrough 48 = .ok (.iadd, 1) := by decide +kernel
theorem dX12_cameThrough_49 : decode cX12_cameThrough 49 = .ok (.iaload, 1) := by decide +kernel
theorem dX12_cameThrough_50 : decode cX12_cameThrough 50 = .ok (.ifCond .ne 5, 3) := by decide +kernel
theorem dX12_cameThrough_53 : decode cX12_cameThrough 53 = .ok (.iconst 0, 1) := by decide +kernel
theorem dX12_cameThrough_54 : decode cX12_cameThrough 54 = .ok (.ireturn, 1) := by decide +kernel
theorem dX12_cameThrough_55 : decode cX12_cameThrough 55 = .ok (.iinc 2 1, 3) := by decide +kernel
theorem dX12_cameThrough_58 : decode cX12_cameThrough 58 = .ok (.goto (-40), 3) := by decide +kernel
theorem dX12_cameThrough_61 : decode cX12_cameThrough 61 = .ok (.iconst 1, 1) := by decide +kernel
theorem dX12_cameThrough_62 : decode cX12_cameThrough 62 = .ok (.ireturn, 1) := by decide +kernel
theorem dX12_comesOf_0 : decode cX12_comesOf 0 = .ok (.aload_n 0, 1) := by decide +kernel
theorem dX12_comesOf_1 : decode cX12_comesOf 1 = .ok (.iload_n 1, 1) := by decide +kernel
theorem dX12_comesOf_2 : decode cX12_comesOf 2 = .ok (.iload_n 2, 1) := by decide +kernel
theorem dX12_comesOf_3 : decode cX12_comesOf 3 = .ok (.iload_n 3, 1) := by decide +kernel
theorem dX12_comesOf_4 : decode cX12_comesOf 4 = .ok (.iload 4, 2) := by decide +kernel
theorem dX12_comesOf_6 : decode cX12_comesOf 6 = .ok (.iload 5, 2) := by decide +kernel
theorem dX12_comesOf_8 : decode cX12_comesOf 8 = .ok (.iload 6, 2) := by decide +kernel
theorem dX12_comesOf_10 : decode cX12_comesOf 10 = .ok (.invokevirtual 588, 3) := by decide +kernel
theorem dX12_comesOf_13 : decode cX12_comesOf 13 = .ok (.aload_n 0, 1) := by decide +kernel
theorem dX12_comesOf_14 : decode cX12_comesOf 14 = .ok (.getfield 424, 3) := by decide +kernel
theorem dX12_comesOf_17 : decode cX12_comesOf 17 = .ok (.sipush 999, 3) := by decide +kernel
theorem dX12_comesOf_20 : decode cX12_comesOf 20 = .ok (.if_icmp .ge 10, 3) := by decide +kernel
theorem dX12_comesOf_23 : decode cX12_comesOf 23 = .ok (.aload_n 0, 1) := by decide +kernel
theorem dX12_comesOf_24 : decode cX12_comesOf 24 = .ok (.invokevirtual 517, 3) := by decide +kernel
theorem dX12_comesOf_27 : decode cX12_comesOf 27 = .ok (.goto (-14), 3) := by decide +kernel
theorem dX12_comesOf_30 : decode cX12_comesOf 30 = .ok (.iconst (-1), 1) := by decide +kernel
theorem dX12_comesOf_31 : decode cX12_comesOf 31 = .ok (.istore 7, 2) := by decide +kernel
theorem dX12_comesOf_33 : decode cX12_comesOf 33 = .ok (.iconst 0, 1) := by decide +kernel
theorem dX12_comesOf_34 : decode cX12_comesOf 34 = .ok (.istore 8, 2) := by decide +kernel
theorem dX12_comesOf_36 : decode cX12_comesOf 36 = .ok (.iload 8, 2) := by decide +kernel
theorem dX12_comesOf_38 : decode cX12_comesOf 38 = .ok (.aload_n 0, 1) := by decide +kernel
theorem dX12_comesOf_39 : decode cX12_comesOf 39 = .ok (.getfield 481, 3) := by decide +kernel
theorem dX12_comesOf_42 : decode cX12_comesOf 42 = .ok (.if_icmp .ge 45, 3) := by decide +kernel
theorem dX12_comesOf_45 : decode cX12_comesOf 45 = .ok (.iload 7, 2) := by decide +kernel
theorem dX12_comesOf_47 : decode cX12_comesOf 47 = .ok (.iconst (-1), 1) := by decide +kernel
theorem dX12_comesOf_48 : decode cX12_comesOf 48 = .ok (.if_icmp .eq 15, 3) := by decide +kernel
theorem dX12_comesOf_51 : decode cX12_comesOf 51 = .ok (.aload_n 0, 1) := by decide +kernel
theorem dX12_comesOf_52 : decode cX12_comesOf 52 = .ok (.getfield 148, 3) := by decide +kernel
theorem dX12_comesOf_55 : decode cX12_comesOf 55 = .ok (.iload 8, 2) := by decide +kernel
theorem dX12_comesOf_57 : decode cX12_comesOf 57 = .ok (.iaload, 1) := by decide +kernel
theorem dX12_comesOf_58 : decode cX12_comesOf 58 = .ok (.iload 7, 2) := by decide +kernel
theorem dX12_comesOf_60 : decode cX12_comesOf 60 = .ok (.if_icmp .ge 21, 3) := by decide +kernel
theorem dX12_comesOf_63 : decode cX12_comesOf 63 = .ok (.aload_n 0, 1) := by decide +kernel
theorem dX12_comesOf_64 : decode cX12_comesOf 64 = .ok (.iload 8, 2) := by decide +kernel
theorem dX12_comesOf_66 : decode cX12_comesOf 66 = .ok (.invokevirtual 592, 3) := by decide +kernel
theorem dX12_comesOf_69 : decode cX12_comesOf 69 = .ok (.ifCond .eq 12, 3) := by decide +kernel
theorem dX12_comesOf_72 : decode cX12_comesOf 72 = .ok (.aload_n 0, 1) := by decide +kernel
theorem dX12_comesOf_73 : decode cX12_comesOf 73 = .ok (.getfield 148, 3) := by decide +kernel
theorem dX12_comesOf_76 : decode cX12_comesOf 76 = .ok (.iload 8, 2) := by decide +kernel
theorem dX12_comesOf_78 : decode cX12_comesOf 78 = .ok (.iaload, 1) := by decide +kernel
theorem dX12_comesOf_79 : decode cX12_comesOf 79 = .ok (.istore 7, 2) := by decide +kernel
theorem dX12_comesOf_81 : decode cX12_comesOf 81 = .ok (.iinc 8 1, 3) := by decide +kernel
theorem dX12_comesOf_84 : decode cX12_comesOf 84 = .ok (.goto (-48), 3) := by decide +kernel
theorem dX12_comesOf_87 : decode cX12_comesOf 87 = .ok (.iload 7, 2) := by decide +kernel
theorem dX12_comesOf_89 : decode cX12_comesOf 89 = .ok (.ireturn, 1) := by decide +kernel
theorem dX12_isLine_0 : decode cX12_isLine 0 = .ok (.iload_n 0, 1) := by decide +kernel
theorem dX12_isLine_1 : decode cX12_isLine 1 = .ok (.iconst 0, 1) := by decide +kernel
theorem dX12_isLine_2 : decode cX12_isLine 2 = .ok (.bipush 60, 2) := by decide +kernel
theorem dX12_isLine_4 : decode cX12_isLine 4 = .ok (.invokestatic 173, 3) := by decide +kernel
theorem dX12_isLine_7 : decode cX12_isLine 7 = .ok (.ifCond .eq 17, 3) := by decide +kernel
theorem dX12_isLine_10 : decode cX12_isLine 10 = .ok (.iload_n 1, 1) := by decide +kernel
theorem dX12_isLine_11 : decode cX12_isLine 11 = .ok (.iconst 0, 1) := by decide +kernel
theorem dX12_isLine_12 : decode cX12_isLine 12 = .ok (.bipush 60, 2) := by decide +kernel
theorem dX12_isLine_14 : decode cX12_isLine 14 = .ok (.invokestatic 173, 3) := by decide +kernel
theorem dX12_isLine_17 : decode cX12_isLine 17 = .ok (.ifCond .eq 7, 3) := by decide +kernel
theorem dX12_isLine_20 : decode cX12_isLine 20 = .ok (.iconst 1, 1) := by decide +kernel
theorem dX12_isLine_21 : decode cX12_isLine 21 = .ok (.goto 4, 3) := by decide +kernel
theorem dX12_isLine_24 : decode cX12_isLine 24 = .ok (.iconst 0, 1) := by decide +kernel
theorem dX12_isLine_25 : decode cX12_isLine 25 = .ok (.ireturn, 1) := by decide +kernel
theorem dX12_comes_0 : decode cX12_comes 0 = .ok (.iload_n 1, 1) := by decide +kernel
theorem dX12_comes_1 : decode cX12_comes 1 = .ok (.iconst 0, 1) := by decide +kernel
theorem dX12_comes_2 : decode cX12_comes 2 = .ok (.bipush 99, 2) := by decide +kernel
theorem dX12_comes_4 : decode cX12_comes 4 = .ok (.invokestatic 173, 3) := by decide +kernel
theorem dX12_comes_7 : decode cX12_comes 7 = .ok (.ifCond .eq 44, 3) := by decide +kernel
theorem dX12_comes_10 : decode cX12_comes 10 = .ok (.iload_n 2, 1) := by decide +kernel
theorem dX12_comes_11 : decode cX12_comes 11 = .ok (.iconst 0, 1) := by decide +kernel
theorem dX12_comes_12 : decode cX12_comes 12 = .ok (.bipush 99, 2) := by decide +kernel
theorem dX12_comes_14 : decode cX12_comes 14 = .ok (.invokestatic 173, 3) := by decide +kernel
theorem dX12_comes_17 : decode cX12_comes 17 = .ok (.ifCond .eq 34, 3) := by decide +kernel
theorem dX12_comes_20 : decode cX12_comes 20 = .ok (.iload_n 3, 1) := by decide +kernel
theorem dX12_comes_21 : decode cX12_comes 21 = .ok (.iload 4, 2) := by decide +kernel
theorem dX12_comes_23 : decode cX12_comes 23 = .ok (.invokestatic 595, 3) := by decide +kernel
theorem dX12_comes_26 : decode cX12_comes 26 = .ok (.ifCond .eq 25, 3) := by decide +kernel
theorem dX12_comes_29 : decode cX12_comes 29 = .ok (.iload 5, 2) := by decide +kernel
theorem dX12_comes_31 : decode cX12_comes 31 = .ok (.iconst 1, 1) := by decide +kernel
theorem dX12_comes_32 : decode cX12_comes 32 = .ok (.bipush 99, 2) := by decide +kernel
theorem dX12_comes_34 : decode cX12_comes 34 = .ok (.invokestatic 173, 3) := by decide +kernel
theorem dX12_comes_37 : decode cX12_comes 37 = .ok (.ifCond .eq 14, 3) := by decide +kernel
theorem dX12_comes_40 : decode cX12_comes 40 = .ok (.iload 6, 2) := by decide +kernel
theorem dX12_comes_42 : decode cX12_comes 42 = .ok (.iconst 0, 1) := by decide +kernel
theorem dX12_comes_43 : decode cX12_comes 43 = .ok (.bipush 99, 2) := by decide +kernel
theorem dX12_comes_45 : decode cX12_comes 45 = .ok (.invokestatic 173, 3) := by decide +kernel
theorem dX12_comes_48 : decode cX12_comes 48 = .ok (.ifCond .ne 5, 3) := by decide +kernel
theorem dX12_comes_51 : decode cX12_comes 51 = .ok (.iconst (-1), 1) := by decide +kernel
theorem dX12_comes_52 : decode cX12_comes 52 = .ok (.ireturn, 1) := by decide +kernel
theorem dX12_comes_53 : decode cX12_comes 53 = .ok (.aload_n 0, 1) := by decide +kernel
theorem dX12_comes_54 : decode cX12_comes 54 = .ok (.iload_n 1, 1) := by decide +kernel
theorem dX12_comes_55 : decode cX12_comes 55 = .ok (.iload_n 2, 1) := by decide +kernel
theorem dX12_comes_56 : decode cX12_comes 56 = .ok (.iload_n 3, 1) := by decide +kernel
theorem dX12_comes_57 : decode cX12_comes 57 = .ok (.iload 4, 2) := by decide +kernel
theorem dX12_comes_59 : decode cX12_comes 59 = .ok (.iload 5, 2) := by decide +kernel
theorem dX12_comes_61 : decode cX12_comes 61 = .ok (.iload 6, 2) := by decide +kernel
theorem dX12_comes_63 : decode cX12_comes 63 = .ok (.invokevirtual 598, 3) := by decide +kernel
theorem dX12_comes_66 : decode cX12_comes 66 = .ok (.ireturn, 1) := by decide +kernel
theorem dX12_apart_0 : decode cX12_apart 0 = .ok (.iload_n 1, 1) := by decide +kernel
theorem dX12_apart_1 : decode cX12_apart 1 = .ok (.iload_n 2, 1) := by decide +kernel
theorem dX12_apart_2 : decode cX12_apart 2 = .ok (.invokestatic 595, 3) := by decide +kernel
theorem dX12_apart_5 : decode cX12_apart 5 = .ok (.ifCond .eq 30, 3) := by decide +kernel
theorem dX12_apart_8 : decode cX12_apart 8 = .ok (.iload_n 3, 1) := by decide +kernel
theorem dX12_apart_9 : decode cX12_apart 9 = .ok (.iconst 1, 1) := by decide +kernel
theorem dX12_apart_10 : decode cX12_apart 10 = .ok (.bipush 99, 2) := by decide +kernel
theorem dX12_apart_12 : decode cX12_apart 12 = .ok (.invokestatic 173, 3) := by decide +kernel
theorem dX12_apart_15 : decode cX12_apart 15 = .ok (.ifCond .eq 20, 3) := by decide +kernel
theorem dX12_apart_18 : decode cX12_apart 18 = .ok (.iload 4, 2) := by decide +kernel
theorem dX12_apart_20 : decode cX12_apart 20 = .ok (.iconst 0, 1) := by decide +kernel
theorem dX12_apart_21 : decode cX12_apart 21 = .ok (.bipush 99, 2) := by decide +kernel
theorem dX12_apart_23 : decode cX12_apart 23 = .ok (.invokestatic 173, 3) := by decide +kernel
theorem dX12_apart_26 : decode cX12_apart 26 = .ok (.ifCond .eq 9, 3) := by decide +kernel
theorem dX12_apart_29 : decode cX12_apart 29 = .ok (.iload 5, 2) := by decide +kernel
theorem dX12_apart_31 : decode cX12_apart 31 = .ok (.iconst (-1), 1) := by decide +kernel
theorem dX12_apart_32 : decode cX12_apart 32 = .ok (.if_icmp .ge 5, 3) := by decide +kernel
theorem dX12_apart_35 : decode cX12_apart 35 = .ok (.iconst (-1), 1) := by decide +kernel
theorem dX12_apart_36 : decode cX12_apart 36 = .ok (.ireturn, 1) := by decide +kernel
theorem dX12_apart_37 : decode cX12_apart 37 = .ok (.iconst 0, 1) := by decide +kernel
theorem dX12_apart_38 : decode cX12_apart 38 = .ok (.istore 6, 2) := by decide +kernel
theorem dX12_apart_40 : decode cX12_apart 40 = .ok (.iconst 0, 1) := by decide +kernel
theorem dX12_apart_41 : decode cX12_apart 41 = .ok (.istore 7, 2) := by decide +kernel
theorem dX12_apart_43 : decode cX12_apart 43 = .ok (.iload 7, 2) := by decide +kernel
theorem dX12_apart_45 : decode cX12_apart 45 = .ok (.bipush 25, 2) := by decide +kernel
theorem dX12_apart_47 : decode cX12_apart 47 = .ok (.if_icmp .ge 61, 3) := by decide +kernel
theorem dX12_apart_50 : decode cX12_apart 50 = .ok (.iconst 0, 1) := by decide +kernel
theorem dX12_apart_51 : decode cX12_apart 51 = .ok (.istore 8, 2) := by decide +kernel
theorem dX12_apart_53 : decode cX12_apart 53 = .ok (.iload 8, 2) := by decide +kernel
theorem dX12_apart_55 : decode cX12_apart 55 = .ok (.bipush 25, 2) := by decide +kernel
theorem dX12_apart_57 : decode cX12_apart 57 = .ok (.if_icmp .ge 45, 3) := by decide +kernel
theorem dX12_apart_60 : decode cX12_apart 60 = .ok (.aload_n 0, 1) := by decide +kernel
theorem dX12_apart_61 : decode cX12_apart 61 = .ok (.iload 7, 2) := by decide +kernel
theorem dX12_apart_63 : decode cX12_apart 63 = .ok (.iload 8, 2) := by decide +kernel
theorem dX12_apart_65 : decode cX12_apart 65 = .ok (.iload_n 1, 1) := by decide +kernel
theorem dX12_apart_66 : decode cX12_apart 66 = .ok (.iload_n 2, 1) := by decide +kernel
theorem dX12_apart_67 : decode cX12_apart 67 = .ok (.iload_n 3, 1) := by decide +kernel
theorem dX12_apart_68 : decode cX12_apart 68 = .ok (.iload 4, 2) := by decide +kernel
theorem dX12_apart_70 : decode cX12_apart 70 = .ok (.invokevirtual 598, 3) := by decide +kernel
theorem dX12_apart_73 : decode cX12_apart 73 = .ok (.iconst (-1), 1) := by decide +kernel
theorem dX12_apart_74 : decode cX12_apart 74 = .ok (.if_icmp .eq 22, 3) := by decide +kernel
theorem dX12_apart_77 : decode cX12_apart 77 = .ok (.iload 6, 2) := by decide +kernel
theorem dX12_apart_79 : decode cX12_apart 79 = .ok (.iload 5, 2) := by decide +kernel
theorem dX12_apart_81 : decode cX12_apart 81 = .ok (.if_icmp .ne 12, 3) := by decide +kernel
theorem dX12_apart_84 : decode cX12_apart 84 = .ok (.bipush 25, 2) := by decide +kernel
theorem dX12_apart_86 : decode cX12_apart 86 = .ok (.iload 7, 2) := by decide +kernel
theorem dX12_apart_88 : decode cX12_apart 88 = .ok (.imul, 1) := by decide +kernel
theorem dX12_apart_89 : decode cX12_apart 89 = .ok (.iload 8, 2) := by decide +kernel
theorem dX12_apart_91 : decode cX12_apart 91 = .ok (.iadd, 1) := by decide +kernel
theorem dX12_apart_92 : decode cX12_apart 92 = .ok (.ireturn, 1) := by decide +kernel
theorem dX12_apart_93 : decode cX12_apart 93 = .ok (.iinc 6 1, 3) := by decide +kernel
theorem dX12_apart_96 : decode cX12_apart 96 = .ok (.iinc 8 1, 3) := by decide +kernel
theorem dX12_apart_99 : decode cX12_apart 99 = .ok (.goto (-46), 3) := by decide +kernel
theorem dX12_apart_102 : decode cX12_apart 102 = .ok (.iinc 7 1, 3) := by decide +kernel
theorem dX12_apart_105 : decode cX12_apart 105 = .ok (.goto (-62), 3) := by decide +kernel
theorem dX12_apart_108 : decode cX12_apart 108 = .ok (.iload 5, 2) := by decide +kernel
theorem dX12_apart_110 : decode cX12_apart 110 = .ok (.iconst (-1), 1) := by decide +kernel
theorem dX12_apart_111 : decode cX12_apart 111 = .ok (.if_icmp .ne 8, 3) := by decide +kernel
theorem dX12_apart_114 : decode cX12_apart 114 = .ok (.iload 6, 2) := by decide +kernel
theorem dX12_apart_116 : decode cX12_apart 116 = .ok (.goto 4, 3) := by decide +kernel
theorem dX12_apart_119 : decode cX12_apart 119 = .ok (.iconst (-1), 1) := by decide +kernel
theorem dX12_apart_120 : decode cX12_apart 120 = .ok (.ireturn, 1) := by decide +kernel
theorem dX12_comeApart_0 : decode cX12_comeApart 0 = .ok (.iconst 0, 1) := by decide +kernel
theorem dX12_comeApart_1 : decode cX12_comeApart 1 = .ok (.istore 4, 2) := by decide +kernel
theorem dX12_comeApart_3 : decode cX12_comeApart 3 = .ok (.iconst 0, 1) := by decide +kernel
theorem dX12_comeApart_4 : decode cX12_comeApart 4 = .ok (.istore 5, 2) := by decide +kernel
theorem dX12_comeApart_6 : decode cX12_comeApart 6 = .ok (.iload 5, 2) := by decide +kernel
theorem dX12_comeApart_8 : decode cX12_comeApart 8 = .ok (.iload_n 2, 1) := by decide +kernel
theorem dX12_comeApart_9 : decode cX12_comeApart 9 = .ok (.if_icmp .gt 56, 3) := by decide +kernel
theorem dX12_comeApart_12 : decode cX12_comeApart 12 = .ok (.iconst 0, 1) := by decide +kernel
theorem dX12_comeApart_13 : decode cX12_comeApart 13 = .ok (.istore 6, 2) := by decide +kernel
theorem dX12_comeApart_15 : decode cX12_comeApart 15 = .ok (.iload 6, 2) := by decide +kernel
theorem dX12_comeApart_17 : decode cX12_comeApart 17 = .ok (.iload_n 3, 1) := by decide +kernel
theorem dX12_comeApart_18 : decode cX12_comeApart 18 = .ok (.if_icmp .gt 41, 3) := by decide +kernel
theorem dX12_comeApart_21 : decode cX12_comeApart 21 = .ok (.iload 4, 2) := by decide +kernel
theorem dX12_comeApart_23 : decode cX12_comeApart 23 = .ok (.iload 5, 2) := by decide +kernel
theorem dX12_comeApart_25 : decode cX12_comeApart 25 = .ok (.iconst 1, 1) := by decide +kernel
theorem dX12_comeApart_26 : decode cX12_comeApart 26 = .ok (.iadd, 1) := by decide +kernel
theorem dX12_comeApart_27 : decode cX12_comeApart 27 = .ok (.iload_n 0, 1) := by decide +kernel
theorem dX12_comeApart_28 : decode cX12_comeApart 28 = .ok (.iadd, 1) := by decide +kernel
theorem dX12_comeApart_29 : decode cX12_comeApart 29 = .ok (.iload 6, 2) := by decide +kernel
theorem dX12_comeApart_31 : decode cX12_comeApart 31 = .ok (.if_icmp .le 14, 3) := by decide +kernel
theorem dX12_comeApart_34 : decode cX12_comeApart 34 = .ok (.iload 6, 2) := by decide +kernel
theorem dX12_comeApart_36 : decode cX12_comeApart 36 = .ok (.iconst 1, 1) := by decide +kernel
theorem dX12_comeApart_37 : decode cX12_comeApart 37 = .ok (.iadd, 1) := by decide +kernel
theorem dX12_comeApart_38 : decode cX12_comeApart 38 = .ok (.iload_n 1, 1) := by decide +kernel
theorem dX12_comeApart_39 : decode cX12_comeApart 39 = .ok (.iadd, 1) := by decide +kernel
theorem dX12_comeApart_40 : decode cX12_comeApart 40 = .ok (.iload 5, 2) := by decide +kernel
theorem dX12_comeApart_42 : decode cX12_comeApart 42 = .ok (.if_icmp .gt 7, 3) := by decide +kernel
theorem dX12_comeApart_45 : decode cX12_comeApart 45 = .ok (.iconst 1, 1) := by decide +kernel
theorem dX12_comeApart_46 : decode cX12_comeApart 46 = .ok (.goto 4, 3) := by decide +kernel
theorem dX12_comeApart_49 : decode cX12_comeApart 49 = .ok (.iconst 0, 1) := by decide +kernel
theorem dX12_comeApart_50 : decode cX12_comeApart 50 = .ok (.iadd, 1) := by decide +kernel
theorem dX12_comeApart_51 : decode cX12_comeApart 51 = .ok (.istore 4, 2) := by decide +kernel
theorem dX12_comeApart_53 : decode cX12_comeApart 53 = .ok (.iinc 6 1, 3) := by decide +kernel
theorem dX12_comeApart_56 : decode cX12_comeApart 56 = .ok (.goto (-41), 3) := by decide +kernel
theorem dX12_comeApart_59 : decode cX12_comeApart 59 = .ok (.iinc 5 1, 3) := by decide +kernel
theorem dX12_comeApart_62 : decode cX12_comeApart 62 = .ok (.goto (-56), 3) := by decide +kernel
theorem dX12_comeApart_65 : decode cX12_comeApart 65 = .ok (.iload 4, 2) := by decide +kernel
theorem dX12_comeApart_67 : decode cX12_comeApart 67 = .ok (.ireturn, 1) := by decide +kernel
theorem dX12_drawn_0 : decode cX12_drawn 0 = .ok (.iload_n 1, 1) := by decide +kernel
theorem dX12_drawn_1 : decode cX12_drawn 1 = .ok (.iload_n 2, 1) := by decide +kernel
theorem dX12_drawn_2 : decode cX12_drawn 2 = .ok (.invokestatic 595, 3) := by decide +kernel
theorem dX12_drawn_5 : decode cX12_drawn 5 = .ok (.ifCond .eq 24, 3) := by decide +kernel
theorem dX12_drawn_8 : decode cX12_drawn 8 = .ok (.iload_n 3, 1) := by decide +kernel
theorem dX12_drawn_9 : decode cX12_drawn 9 = .ok (.iconst 0, 1) := by decide +kernel
theorem dX12_drawn_10 : decode cX12_drawn 10 = .ok (.bipush 24, 2) := by decide +kernel
theorem dX12_drawn_12 : decode cX12_drawn 12 = .ok (.invokestatic 173, 3) := by decide +kernel
theorem dX12_drawn_15 : decode cX12_drawn 15 = .ok (.ifCond .eq 14, 3) := by decide +kernel
theorem dX12_drawn_18 : decode cX12_drawn 18 = .ok (.iload 4, 2) := by decide +kernel
theorem dX12_drawn_20 : decode cX12_drawn 20 = .ok (.iconst 0, 1) := by decide +kernel
theorem dX12_drawn_21 : decode cX12_drawn 21 = .ok (.bipush 24, 2) := by decide +kernel
theorem dX12_drawn_23 : decode cX12_drawn 23 = .ok (.invokestatic 173, 3) := by decide +kernel
theorem dX12_drawn_26 : decode cX12_drawn 26 = .ok (.ifCond .ne 5, 3) := by decide +kernel
theorem dX12_drawn_29 : decode cX12_drawn 29 = .ok (.iconst (-1), 1) := by decide +kernel
theorem dX12_drawn_30 : decode cX12_drawn 30 = .ok (.ireturn, 1) := by decide +kernel
theorem dX12_drawn_31 : decode cX12_drawn 31 = .ok (.iload_n 1, 1) := by decide +kernel
theorem dX12_drawn_32 : decode cX12_drawn 32 = .ok (.iload_n 2, 1) := by decide +kernel
theorem dX12_drawn_33 : decode cX12_drawn 33 = .ok (.iload_n 3, 1) := by decide +kernel
theorem dX12_drawn_34 : decode cX12_drawn 34 = .ok (.iload 4, 2) := by decide +kernel
theorem dX12_drawn_36 : decode cX12_drawn 36 = .ok (.invokestatic 602, 3) := by decide +kernel
theorem dX12_drawn_39 : decode cX12_drawn 39 = .ok (.iload_n 3, 1) := by decide +kernel
theorem dX12_drawn_40 : decode cX12_drawn 40 = .ok (.iconst 1, 1) := by decide +kernel
theorem dX12_drawn_41 : decode cX12_drawn 41 = .ok (.iadd, 1) := by decide +kernel
theorem dX12_drawn_42 : decode cX12_drawn 42 = .ok (.iload 4, 2) := by decide +kernel
theorem dX12_drawn_44 : decode cX12_drawn 44 = .ok (.iconst 1, 1) := by decide +kernel
theorem dX12_drawn_45 : decode cX12_drawn 45 = .ok (.iadd, 1) := by decide +kernel
theorem dX12_drawn_46 : decode cX12_drawn 46 = .ok (.imul, 1) := by decide +kernel
theorem dX12_drawn_47 : decode cX12_drawn 47 = .ok (.iload 5, 2) := by decide +kernel
theorem dX12_drawn_49 : decode cX12_drawn 49 = .ok (.invokestatic 562, 3) := by decide +kernel
theorem dX12_drawn_52 : decode cX12_drawn 52 = .ok (.ireturn, 1) := by decide +kernel
theorem dX12_wide_0 : decode cX12_wide 0 = .ok (.iload_n 1, 1) := by decide +kernel
theorem dX12_wide_1 : decode cX12_wide 1 = .ok (.iload_n 2, 1) := by decide +kernel
theorem dX12_wide_2 : decode cX12_wide 2 = .ok (.invokestatic 595, 3) := by decide +kernel
theorem dX12_wide_5 : decode cX12_wide 5 = .ok (.ifCond .ne 5, 3) := by decide +kernel
theorem dX12_wide_8 : decode cX12_wide 8 = .ok (.iconst (-1), 1) := by decide +kernel
theorem dX12_wide_9 : decode cX12_wide 9 = .ok (.ireturn, 1) := by decide +kernel
theorem dX12_wide_10 : decode cX12_wide 10 = .ok (.iconst (-1), 1) := by decide +kernel
theorem dX12_wide_11 : decode cX12_wide 11 = .ok (.istore_n 3, 1) := by decide +kernel
theorem dX12_wide_12 : decode cX12_wide 12 = .ok (.iconst 0, 1) := by decide +kernel
theorem dX12_wide_13 : decode cX12_wide 13 = .ok (.istore 4, 2) := by decide +kernel
theorem dX12_wide_15 : decode cX12_wide 15 = .ok (.iconst 1, 1) := by decide +kernel
theorem dX12_wide_16 : decode cX12_wide 16 = .ok (.istore 5, 2) := by decide +kernel
theorem dX12_wide_18 : decode cX12_wide 18 = .ok (.iconst 0, 1) := by decide +kernel
theorem dX12_wide_19 : decode cX12_wide 19 = .ok (.istore 6, 2) := by decide +kernel
theorem dX12_wide_21 : decode cX12_wide 21 = .ok (.iload 6, 2) := by decide +kernel
theorem dX12_wide_23 : decode cX12_wide 23 = .ok (.bipush 25, 2) := by decide +kernel
theorem dX12_wide_25 : decode cX12_wide 25 = .ok (.if_icmp .ge 72, 3) := by decide +kernel
theorem dX12_wide_28 : decode cX12_wide 28 = .ok (.iload_n 1, 1) := by decide +kernel
theorem dX12_wide_29 : decode cX12_wide 29 = .ok (.iload_n 2, 1) := by decide +kernel
theorem dX12_wide_30 : decode cX12_wide 30 = .ok (.iload 6, 2) := by decide +kernel
theorem dX12_wide_32 : decode cX12_wide 32 = .ok (.iload 6, 2) := by decide +kernel
theorem dX12_wide_34 : decode cX12_wide 34 = .ok (.invokestatic 602, 3) := by decide +kernel
theorem dX12_wide_37 : decode cX12_wide 37 = .ok (.istore 7, 2) := by decide +kernel
theorem dX12_wide_39 : decode cX12_wide 39 = .ok (.iload 6, 2) := by decide +kernel
theorem dX12_wide_41 : decode cX12_wide 41 = .ok (.iload_n 1, 1) := by decide +kernel
theorem dX12_wide_42 : decode cX12_wide 42 = .ok (.iadd, 1) := by decide +kernel
theorem dX12_wide_43 : decode cX12_wide 43 = .ok (.iload_n 2, 1) := by decide +kernel
theorem dX12_wide_44 : decode cX12_wide 44 = .ok (.iadd, 1) := by decide +kernel
theorem dX12_wide_45 : decode cX12_wide 45 = .ok (.iload 6, 2) := by decide +kernel
theorem dX12_wide_47 : decode cX12_wide 47 = .ok (.iconst 1, 1) := by decide +kernel
theorem dX12_wide_48 : decode cX12_wide 48 = .ok (.iadd, 1) := by decide +kernel
theorem dX12_wide_49 : decode cX12_wide 49 = .ok (.imul, 1) := by decide +kernel
theorem dX12_wide_50 : decode cX12_wide 50 = .ok (.iload 6, 2) := by decide +kernel
theorem dX12_wide_52 : decode cX12_wide 52 = .ok (.iconst 1, 1) := by decide +kernel
theorem dX12_wide_53 : decode cX12_wide 53 = .ok (.iadd, 1) := by decide +kernel
theorem dX12_wide_54 : decode cX12_wide 54 = .ok (.imul, 1) := by decide +kernel
theorem dX12_wide_55 : decode cX12_wide 55 = .ok (.istore 8, 2) := by decide +kernel
theorem dX12_wide_57 : decode cX12_wide 57 = .ok (.iload 7, 2) := by decide +kernel
theorem dX12_wide_59 : decode cX12_wide 59 = .ok (.ifCond .le 32, 3) := by decide +kernel
theorem dX12_wide_62 : decode cX12_wide 62 = .ok (.iload_n 3, 1) := by decide +kernel
theorem dX12_wide_63 : decode cX12_wide 63 = .ok (.iconst (-1), 1) := by decide +kernel
theorem dX12_wide_64 : decode cX12_wide 64 = .ok (.if_icmp .eq 16, 3) := by decide +kernel
theorem dX12_wide_67 : decode cX12_wide 67 = .ok (.iload 8, 2) := by decide +kernel
theorem dX12_wide_69 : decode cX12_wide 69 = .ok (.iload 5, 2) := by decide +kernel
theorem dX12_wide_71 : decode cX12_wide 71 = .ok (.imul, 1) := by decide +kernel
theorem dX12_wide_72 : decode cX12_wide 72 = .ok (.iload 4, 2) := by decide +kernel
theorem dX12_wide_74 : decode cX12_wide 74 = .ok (.iload 7, 2) := by decide +kernel
theorem dX12_wide_76 : decode cX12_wide 76 = .ok (.imul, 1) := by decide +kernel
theorem dX12_wide_77 : decode cX12_wide 77 = .ok (.if_icmp .ge 14, 3) := by decide +kernel
theorem dX12_wide_80 : decode cX12_wide 80 = .ok (.iload 6, 2) := by decide +kernel
theorem dX12_wide_82 : decode cX12_wide 82 = .ok (.istore_n 3, 1) := by decide +kernel
theorem dX12_wide_83 : decode cX12_wide 83 = .ok (.iload 8, 2) := by decide +kernel
theorem dX12_wide_85 : decode cX12_wide 85 = .ok (.istore 4, 2) := by decide +kernel
theorem dX12_wide_87 : decode cX12_wide 87 = .ok (.iload 7, 2) := by decide +kernel
theorem dX12_wide_89 : decode cX12_wide 89 = .ok (.istore 5, 2) := by decide +kernel
theorem dX12_wide_91 : decode cX12_wide 91 = .ok (.iinc 6 1, 3) := by decide +kernel
theorem dX12_wide_94 : decode cX12_wide 94 = .ok (.goto (-73), 3) := by decide +kernel
theorem dX12_wide_97 : decode cX12_wide 97 = .ok (.iload_n 3, 1) := by decide +kernel
theorem dX12_wide_98 : decode cX12_wide 98 = .ok (.ireturn, 1) := by decide +kernel
theorem dX12_worth_0 : decode cX12_worth 0 = .ok (.iload_n 1, 1) := by decide +kernel
theorem dX12_worth_1 : decode cX12_worth 1 = .ok (.iconst 1, 1) := by decide +kernel
theorem dX12_worth_2 : decode cX12_worth 2 = .ok (.bipush 99, 2) := by decide +kernel
theorem dX12_worth_4 : decode cX12_worth 4 = .ok (.invokestatic 173, 3) := by decide +kernel
theorem dX12_worth_7 : decode cX12_worth 7 = .ok (.ifCond .eq 34, 3) := by decide +kernel
theorem dX12_worth_10 : decode cX12_worth 10 = .ok (.iload_n 2, 1) := by decide +kernel
theorem dX12_worth_11 : decode cX12_worth 11 = .ok (.iconst 0, 1) := by decide +kernel
theorem dX12_worth_12 : decode cX12_worth 12 = .ok (.bipush 99, 2) := by decide +kernel
theorem dX12_worth_14 : decode cX12_worth 14 = .ok (.invokestatic 173, 3) := by decide +kernel
theorem dX12_worth_17 : decode cX12_worth 17 = .ok (.ifCond .eq 24, 3) := by decide +kernel
theorem dX12_worth_20 : decode cX12_worth 20 = .ok (.iload_n 3, 1) := by decide +kernel
theorem dX12_worth_21 : decode cX12_worth 21 = .ok (.iconst 0, 1) := by decide +kernel
theorem dX12_worth_22 : decode cX12_worth 22 = .ok (.bipush 99, 2) := by decide +kernel
theorem dX12_worth_24 : decode cX12_worth 24 = .ok (.invokestatic 173, 3) := by decide +kernel
theorem dX12_worth_27 : decode cX12_worth 27 = .ok (.ifCond .eq 14, 3) := by decide +kernel
theorem dX12_worth_30 : decode cX12_worth 30 = .ok (.iload 4, 2) := by decide +kernel
theorem dX12_worth_32 : decode cX12_worth 32 = .ok (.iconst 0, 1) := by decide +kernel
theorem dX12_worth_33 : decode cX12_worth 33 = .ok (.bipush 10, 2) := by decide +kernel
theorem dX12_worth_35 : decode cX12_worth 35 = .ok (.invokestatic 173, 3) := by decide +kernel
theorem dX12_worth_38 : decode cX12_worth 38 = .ok (.ifCond .ne 5, 3) := by decide +kernel
theorem dX12_worth_41 : decode cX12_worth 41 = .ok (.iconst (-1), 1) := by decide +kernel
theorem dX12_worth_42 : decode cX12_worth 42 = .ok (.ireturn, 1) := by decide +kernel
theorem dX12_worth_43 : decode cX12_worth 43 = .ok (.iload_n 2, 1) := by decide +kernel
theorem dX12_worth_44 : decode cX12_worth 44 = .ok (.iload 4, 2) := by decide +kernel
theorem dX12_worth_46 : decode cX12_worth 46 = .ok (.imul, 1) := by decide +kernel
theorem dX12_worth_47 : decode cX12_worth 47 = .ok (.bipush 10, 2) := by decide +kernel
theorem dX12_worth_49 : decode cX12_worth 49 = .ok (.iload_n 1, 1) := by decide +kernel
theorem dX12_worth_50 : decode cX12_worth 50 = .ok (.iload_n 2, 1) := by decide +kernel
theorem dX12_worth_51 : decode cX12_worth 51 = .ok (.iadd, 1) := by decide +kernel
theorem dX12_worth_52 : decode cX12_worth 52 = .ok (.iload_n 3, 1) := by decide +kernel
theorem dX12_worth_53 : decode cX12_worth 53 = .ok (.iadd, 1) := by decide +kernel
theorem dX12_worth_54 : decode cX12_worth 54 = .ok (.imul, 1) := by decide +kernel
theorem dX12_worth_55 : decode cX12_worth 55 = .ok (.iload 5, 2) := by decide +kernel
theorem dX12_worth_57 : decode cX12_worth 57 = .ok (.invokestatic 562, 3) := by decide +kernel
theorem dX12_worth_60 : decode cX12_worth 60 = .ok (.ireturn, 1) := by decide +kernel
theorem dX12_agree_0 : decode cX12_agree 0 = .ok (.aload_n 0, 1) := by decide +kernel
theorem dX12_agree_1 : decode cX12_agree 1 = .ok (.getfield 7, 3) := by decide +kernel
theorem dX12_agree_4 : decode cX12_agree 4 = .ok (.iconst 4, 1) := by decide +kernel
theorem dX12_agree_5 : decode cX12_agree 5 = .ok (.iaload, 1) := by decide +kernel
theorem dX12_agree_6 : decode cX12_agree 6 = .ok (.istore 4, 2) := by decide +kernel
theorem dX12_agree_8 : decode cX12_agree 8 = .ok (.iload_n 1, 1) := by decide +kernel
theorem dX12_agree_9 : decode cX12_agree 9 = .ok (.iconst (-1), 1) := by decide +kernel
theorem dX12_agree_10 : decode cX12_agree 10 = .ok (.if_icmp .ne 12, 3) := by decide +kernel
theorem dX12_agree_13 : decode cX12_agree 13 = .ok (.aload_n 0, 1) := by decide +kernel
theorem dX12_agree_14 : decode cX12_agree 14 = .ok (.getfield 7, 3) := by decide +kernel
theorem dX12_agree_17 : decode cX12_agree 17 = .ok (.iconst 4, 1) := by decide +kernel
theorem dX12_agree_18 : decode cX12_agree 18 = .ok (.iconst 0, 1) := by decide +kernel
theorem dX12_agree_19 : decode cX12_agree 19 = .ok (.iastore, 1) := by decide +kernel
theorem dX12_agree_20 : decode cX12_agree 20 = .ok (.iconst 0, 1) := by decide +kernel
theorem dX12_agree_21 : decode cX12_agree 21 = .ok (.ireturn, 1) := by decide +kernel
theorem dX12_agree_22 : decode cX12_agree 22 = .ok (.iload_n 1, 1) := by decide +kernel
theorem dX12_agree_23 : decode cX12_agree 23 = .ok (.iconst 1, 1) := by decide +kernel
theorem dX12_agree_24 : decode cX12_agree 24 = .ok (.bipush 99, 2) := by decide +kernel
theorem dX12_agree_26 : decode cX12_agree 26 = .ok (.invokestatic 173, 3) := by decide +kernel
theorem dX12_agree_29 : decode cX12_agree 29 = .ok (.ifCond .eq 27, 3) := by decide +kernel
theorem dX12_agree_32 : decode cX12_agree 32 = .ok (.iload_n 2, 1) := by decide +kernel
theorem dX12_agree_33 : decode cX12_agree 33 = .ok (.iconst 0, 1) := by decide +kernel
theorem dX12_agree_34 : decode cX12_agree 34 = .ok (.bipush 99, 2) := by decide +kernel
theorem dX12_agree_36 : decode cX12_agree 36 = .ok (.invokestatic 173, 3) := by decide +kernel
theorem dX12_agree_39 : decode cX12_agree 39 = .ok (.ifCond .eq 17, 3) := by decide +kernel
theorem dX12_agree_42 : decode cX12_agree 42 = .ok (.iload_n 3, 1) := by decide +kernel
theorem dX12_agree_43 : decode cX12_agree 43 = .ok (.iconst 0, 1) := by decide +kernel
theorem dX12_agree_44 : decode cX12_agree 44 = .ok (.iconst 1, 1) := by decide +kernel
theorem dX12_agree_45 : decode cX12_agree 45 = .ok (.iload 4, 2) := by decide +kernel
theorem dX12_agree_47 : decode cX12_agree 47 = .ok (.ishl, 1) := by decide +kernel
theorem dX12_agree_48 : decode cX12_agree 48 = .ok (.iconst 1, 1) := by decide +kernel
theorem dX12_agree_49 : decode cX12_agree 49 = .ok (.isub, 1) := by decide +kernel
theorem dX12_agree_50 : decode cX12_agree 50 = .ok (.invokestatic 173, 3) := by decide +kernel
theorem dX12_agree_53 : decode cX12_agree 53 = .ok (.ifCond .ne 11, 3) := by decide +kernel
theorem dX12_agree_56 : decode cX12_agree 56 = .ok (.aload_n 0, 1) := by decide +kernel
theorem dX12_agree_57 : decode cX12_agree 57 = .ok (.iconst 0, 1) := by decide +kernel
theorem dX12_agree_58 : decode cX12_agree 58 = .ok (.bipush (-2), 2) := by decide +kernel
theorem dX12_agree_60 : decode cX12_agree 60 = .ok (.invokevirtual 177, 3) := by decide +kernel
theorem dX12_agree_63 : decode cX12_agree 63 = .ok (.ireturn, 1) := by decide +kernel
theorem dX12_agree_64 : decode cX12_agree 64 = .ok (.iload 4, 2) := by decide +kernel
theorem dX12_agree_66 : decode cX12_agree 66 = .ok (.bipush 8, 2) := by decide +kernel
theorem dX12_agree_68 : decode cX12_agree 68 = .ok (.if_icmp .ne 11, 3) := by decide +kernel
theorem dX12_agree_71 : decode cX12_agree 71 = .ok (.aload_n 0, 1) := by decide +kernel
theorem dX12_agree_72 : decode cX12_agree 72 = .ok (.iconst 1, 1) := by decide +kernel
theorem dX12_agree_73 : decode cX12_agree 73 = .ok (.bipush (-2), 2) := by decide +kernel
theorem dX12_agree_75 : decode cX12_agree 75 = .ok (.invokevirtual 177, 3) := by decide +kernel
theorem dX12_agree_78 : decode cX12_agree 78 = .ok (.ireturn, 1) := by decide +kernel
theorem dX12_agree_79 : decode cX12_agree 79 = .ok (.aload_n 0, 1) := by decide +kernel
theorem dX12_agree_80 : decode cX12_agree 80 = .ok (.getfield 7, 3) := by decide +kernel
theorem dX12_agree_83 : decode cX12_agree 83 = .ok (.bipush 30, 2) := by decide +kernel
theorem dX12_agree_85 : decode cX12_agree 85 = .ok (.iconst 3, 1) := by decide +kernel
theorem dX12_agree_86 : decode cX12_agree 86 = .ok (.iload 4, 2) := by decide +kernel
theorem dX12_agree_88 : decode cX12_agree 88 = .ok (.imul, 1) := by decide +kernel
theorem dX12_agree_89 : decode cX12_agree 89 = .ok (.iadd, 1) := by decide +kernel
theorem dX12_agree_90 : decode cX12_agree 90 = .ok (.iload_n 1, 1) := by decide +kernel
theorem dX12_agree_91 : decode cX12_agree 91 = .ok (.iastore, 1) := by decide +kernel
theorem dX12_agree_92 : decode cX12_agree 92 = .ok (.aload_n 0, 1) := by decide +kernel
theorem dX12_agree_93 : decode cX12_agree 93 = .ok (.getfield 7, 3) := by decide +kernel
theorem dX12_agree_96 : decode cX12_agree 96 = .ok (.bipush 30, 2) := by decide +kernel
theorem dX12_agree_98 : decode cX12_agree 98 = .ok (.iconst 3, 1) := by decide +kernel
theorem dX12_agree_99 : decode cX12_agree 99 = .ok (.iload 4, 2) := by decide +kernel
theorem dX12_agree_101 : decode cX12_agree 101 = .ok (.imul, 1) := by decide +kernel
theorem dX12_agree_102 : decode cX12_agree 102 = .ok (.iadd, 1) := by decide +kernel
theorem dX12_agree_103 : decode cX12_agree 103 = .ok (.iconst 1, 1) := by decide +kernel
theorem dX12_agree_104 : decode cX12_agree 104 = .ok (.iadd, 1) := by decide +kernel
theorem dX12_agree_105 : decode cX12_agree 105 = .ok (.iload_n 2, 1) := by decide +kernel
theorem dX12_agree_106 : decode cX12_agree 106 = .ok (.iastore, 1) := by decide +kernel
theorem dX12_agree_107 : decode cX12_agree 107 = .ok (.aload_n 0, 1) := by decide +kernel
theorem dX12_agree_108 : decode cX12_agree 108 = .ok (.getfield 7, 3) := by decide +kernel
theorem dX12_agree_111 : decode cX12_agree 111 = .ok (.bipush 30, 2) := by decide +kernel
theorem dX12_agree_113 : decode cX12_agree 113 = .ok (.iconst 3, 1) := by decide +kernel
theorem dX12_agree_114 : decode cX12_agree 114 = .ok (.iload 4, 2) := by decide +kernel
theorem dX12_agree_116 : decode cX12_agree 116 = .ok (.imul, 1) := by decide +kernel
theorem dX12_agree_117 : decode cX12_agree 117 = .ok (.iadd, 1) := by decide +kernel
theorem dX12_agree_118 : decode cX12_agree 118 = .ok (.iconst 2, 1) := by decide +kernel
theorem dX12_agree_119 : decode cX12_agree 119 = .ok (.iadd, 1) := by decide +kernel
theorem dX12_agree_120 : decode cX12_agree 120 = .ok (.iload_n 3, 1) := by decide +kernel
theorem dX12_agree_121 : decode cX12_agree 121 = .ok (.iastore, 1) := by decide +kernel
theorem dX12_agree_122 : decode cX12_agree 122 = .ok (.aload_n 0, 1) := by decide +kernel
theorem dX12_agree_123 : decode cX12_agree 123 = .ok (.getfield 7, 3) := by decide +kernel
theorem dX12_agree_126 : decode cX12_agree 126 = .ok (.iconst 4, 1) := by decide +kernel
theorem dX12_agree_127 : decode cX12_agree 127 = .ok (.dup2, 1) := by decide +kernel
theorem dX12_agree_128 : decode cX12_agree 128 = .ok (.iaload, 1) := by decide +kernel
theorem dX12_agree_129 : decode cX12_agree 129 = .ok (.iconst 1, 1) := by decide +kernel
theorem dX12_agree_130 : decode cX12_agree 130 = .ok (.iadd, 1) := by decide +kernel
theorem dX12_agree_131 : decode cX12_agree 131 = .ok (.iastore, 1) := by decide +kernel
theorem dX12_agree_132 : decode cX12_agree 132 = .ok (.aload_n 0, 1) := by decide +kernel
theorem dX12_agree_133 : decode cX12_agree 133 = .ok (.getfield 7, 3) := by decide +kernel
theorem dX12_agree_136 : decode cX12_agree 136 = .ok (.iconst 4, 1) := by decide +kernel
theorem dX12_agree_137 : decode cX12_agree 137 = .ok (.iaload, 1) := by decide +kernel
theorem dX12_agree_138 : decode cX12_agree 138 = .ok (.ireturn, 1) := by decide +kernel
theorem dX12_least_0 : decode cX12_least 0 = .ok (.iload_n 1, 1) := by decide +kernel
theorem dX12_least_1 : decode cX12_least 1 = .ok (.iconst 0, 1) := by decide +kernel
theorem dX12_least_2 : decode cX12_least 2 = .ok (.sipush 999, 3) := by decide +kernel
theorem dX12_least_5 : decode cX12_least 5 = .ok (.invokestatic 173, 3) := by decide +kernel
theorem dX12_least_8 : decode cX12_least 8 = .ok (.ifCond .ne 5, 3) := by decide +kernel
theorem dX12_least_11 : decode cX12_least 11 = .ok (.iconst (-1), 1) := by decide +kernel
theorem dX12_least_12 : decode cX12_least 12 = .ok (.ireturn, 1) := by decide +kernel
theorem dX12_least_13 : decode cX12_least 13 = .ok (.iconst (-1), 1) := by decide +kernel
theorem dX12_least_14 : decode cX12_least 14 = .ok (.istore_n 2, 1) := by decide +kernel
theorem dX12_least_15 : decode cX12_least 15 = .ok (.iconst 0, 1) := by decide +kernel
theorem dX12_least_16 : decode cX12_least 16 = .ok (.istore_n 3, 1) := by decide +kernel
theorem dX12_least_17 : decode cX12_least 17 = .ok (.iconst 0, 1) := by decide +kernel
theorem dX12_least_18 : decode cX12_least 18 = .ok (.istore 4, 2) := by decide +kernel
theorem dX12_least_20 : decode cX12_least 20 = .ok (.iconst 0, 1) := by decide +kernel
theorem dX12_least_21 : decode cX12_least 21 = .ok (.istore 5, 2) := by decide +kernel
theorem dX12_least_23 : decode cX12_least 23 = .ok (.iload 5, 2) := by decide +kernel
theorem dX12_least_25 : decode cX12_least 25 = .ok (.iconst 1, 1) := by decide +kernel
theorem dX12_least_26 : decode cX12_least 26 = .ok (.aload_n 0, 1) := by decide +kernel
theorem dX12_least_27 : decode cX12_least 27 = .ok (.getfield 7, 3) := by decide +kernel
theorem dX12_least_30 : decode cX12_least 30 = .ok (.iconst 4, 1) := by decide +kernel
theorem dX12_least_31 : decode cX12_least 31 = .ok (.iaload, 1) := by decide +kernel
theorem dX12_least_32 : decode cX12_least 32 = .ok (.ishl, 1) := by decide +kernel
theorem dX12_least_33 : decode cX12_least 33 = .ok (.if_icmp .ge 170, 3) := by decide +kernel
theorem dX12_least_36 : decode cX12_least 36 = .ok (.iconst 0, 1) := by decide +kernel
theorem dX12_least_37 : decode cX12_least 37 = .ok (.istore 6, 2) := by decide +kernel
theorem dX12_least_39 : decode cX12_least 39 = .ok (.iconst 0, 1) := by decide +kernel
theorem dX12_least_40 : decode cX12_least 40 = .ok (.istore 7, 2) := by decide +kernel
theorem dX12_least_42 : decode cX12_least 42 = .ok (.iconst 0, 1) := by decide +kernel
theorem dX12_least_43 : decode cX12_least 43 = .ok (.istore 8, 2) := by decide +kernel
theorem dX12_least_45 : decode cX12_least 45 = .ok (.iconst 1, 1) := by decide +kernel
theorem dX12_least_46 : decode cX12_least 46 = .ok (.istore 9, 2) := by decide +kernel
theorem dX12_least_48 : decode cX12_least 48 = .ok (.iconst 0, 1) := by decide +kernel
theorem dX12_least_49 : decode cX12_least 49 = .ok (.istore 10, 2) := by decide +kernel
theorem dX12_least_51 : decode cX12_least 51 = .ok (.iload 10, 2) := by decide +kernel
theorem dX12_least_53 : decode cX12_least 53 = .ok (.aload_n 0, 1) := by decide +kernel
theorem dX12_least_54 : decode cX12_least 54 = .ok (.getfield 7, 3) := by decide +kernel
theorem dX12_least_57 : decode cX12_least 57 = .ok (.iconst 4, 1) := by decide +kernel
theorem dX12_least_58 : decode cX12_least 58 = .ok (.iaload, 1) := by decide +kernel
theorem dX12_least_59 : decode cX12_least 59 = .ok (.if_icmp .ge 93, 3) := by decide +kernel
theorem dX12_least_62 : decode cX12_least 62 = .ok (.iload 5, 2) := by decide +kernel
theorem dX12_least_64 : decode cX12_least 64 = .ok (.iload 10, 2) := by decide +kernel
theorem dX12_least_66 : decode cX12_least 66 = .ok (.ishr, 1) := by decide +kernel
theorem dX12_least_67 : decode cX12_least 67 = .ok (.iconst 1, 1) := by decide +kernel
theorem dX12_least_68 : decode cX12_least 68 = .ok (.iand, 1) := by decide +kernel
theorem dX12_least_69 : decode cX12_least 69 = .ok (.iconst 1, 1) := by decide +kernel
theorem dX12_least_70 : decode cX12_least 70 = .ok (.if_icmp .ne 76, 3) := by decide +kernel
theorem dX12_least_73 : decode cX12_least 73 = .ok (.iload 6, 2) := by decide +kernel
theorem dX12_least_75 : decode cX12_least 75 = .ok (.aload_n 0, 1) := by decide +kernel
theorem dX12_least_76 : decode cX12_least 76 = .ok (.getfield 7, 3) := by decide +kernel
theorem dX12_least_79 : decode cX12_least 79 = .ok (.bipush 30, 2) := by decide +kernel
theorem dX12_least_81 : decode cX12_least 81 = .ok (.iconst 3, 1) := by decide +kernel
theorem dX12_least_82 : decode cX12_least 82 = .ok (.iload 10, 2) := by decide +kernel
theorem dX12_least_84 : decode cX12_least 84 = .ok (.imul, 1) := by decide +kernel
theorem dX12_least_85 : decode cX12_least 85 = .ok (.iadd, 1) := by decide +kernel
theorem dX12_least_86 : decode cX12_least 86 = .ok (.iaload, 1) := by decide +kernel
theorem dX12_least_87 : decode cX12_least 87 = .ok (.iadd, 1) := by decide +kernel
theorem dX12_least_88 : decode cX12_least 88 = .ok (.istore 6, 2) := by decide +kernel
theorem dX12_least_90 : decode cX12_least 90 = .ok (.iload 7, 2) := by decide +kernel
theorem dX12_least_92 : decode cX12_least 92 = .ok (.aload_n 0, 1) := by decide +kernel
theorem dX12_least_93 : decode cX12_least 93 = .ok (.getfield 7, 3) := by decide +kernel
theorem dX12_least_96 : decode cX12_least 96 = .ok (.bipush 30, 2) := by decide +kernel
theorem dX12_least_98 : decode cX12_least 98 = .ok (.iconst 3, 1) := by decide +kernel
theorem dX12_least_99 : decode cX12_least 99 = .ok (.iload 10, 2) := by decide +kernel
theorem dX12_least_101 : decode cX12_least 101 = .ok (.imul, 1) := by decide +kernel
theorem dX12_least_102 : decode cX12_least 102 = .ok (.iadd, 1) := by decide +kernel
theorem dX12_least_103 : decode cX12_least 103 = .ok (.iconst 1, 1) := by decide +kernel
theorem dX12_least_104 : decode cX12_least 104 = .ok (.iadd, 1) := by decide +kernel
theorem dX12_least_105 : decode cX12_least 105 = .ok (.iaload, 1) := by decide +kernel
theorem dX12_least_106 : decode cX12_least 106 = .ok (.iadd, 1) := by decide +kernel
theorem dX12_least_107 : decode cX12_least 107 = .ok (.istore 7, 2) := by decide +kernel
theorem dX12_least_109 : decode cX12_least 109 = .ok (.iinc 8 1, 3) := by decide +kernel
theorem dX12_least_112 : decode cX12_least 112 = .ok (.iload 9, 2) := by decide +kernel
theorem dX12_least_114 : decode cX12_least 114 = .ok (.ifCond .eq 29, 3) := by decide +kernel
theorem dX12_least_117 : decode cX12_least 117 = .ok (.aload_n 0, 1) := by decide +kernel
theorem dX12_least_118 : decode cX12_least 118 = .ok (.getfield 7, 3) := by decide +kernel
theorem dX12_least_121 : decode cX12_least 121 = .ok (.bipush 30, 2) := by decide +kernel
theorem dX12_least_123 : decode cX12_least 123 = .ok (.iconst 3, 1) := by decide +kernel
theorem dX12_least_124 : decode cX12_least 124 = .ok (.iload 10, 2) := by decide +kernel
theorem dX12_least_126 : decode cX12_least 126 = .ok (.imul, 1) := by decide +kernel
theorem dX12_least_127 : decode cX12_least 127 = .ok (.iadd, 1) := by decide +kernel
theorem dX12_least_128 : decode cX12_least 128 = .ok (.iconst 2, 1) := by decide +kernel
theorem dX12_least_129 : decode cX12_least 129 = .ok (.iadd, 1) := by decide +kernel
theorem dX12_least_130 : decode cX12_least 130 = .ok (.iaload, 1) := by decide +kernel
theorem dX12_least_131 : decode cX12_least 131 = .ok (.iload 5, 2) := by decide +kernel
theorem dX12_least_133 : decode cX12_least 133 = .ok (.iconst (-1), 1) := by decide +kernel
theorem dX12_least_134 : decode cX12_least 134 = .ok (.ixor, 1) := by decide +kernel
theorem dX12_least_135 : decode cX12_least 135 = .ok (.iand, 1) := by decide +kernel
theorem dX12_least_136 : decode cX12_least 136 = .ok (.ifCond .ne 7, 3) := by decide +kernel
theorem dX12_least_139 : decode cX12_least 139 = .ok (.iconst 1, 1) := by decide +kernel
theorem dX12_least_140 : decode cX12_least 140 = .ok (.goto 4, 3) := by decide +kernel
theorem dX12_least_143 : decode cX12_least 143 = .ok (.iconst 0, 1) := by decide +kernel
theorem dX12_least_144 : decode cX12_least 144 = .ok (.istore 9, 2) := by decide +kernel
theorem dX12_least_146 : decode cX12_least 146 = .ok (.iinc 10 1, 3) := by decide +kernel
theorem dX12_least_149 : decode cX12_least 149 = .ok (.goto (-98), 3) := by decide +kernel
theorem dX12_least_152 : decode cX12_least 152 = .ok (.iload 9, 2) := by decide +kernel
theorem dX12_least_154 : decode cX12_least 154 = .ok (.ifCond .eq 43, 3) := by decide +kernel
theorem dX12_least_157 : decode cX12_least 157 = .ok (.iload 7, 2) := by decide +kernel
theorem dX12_least_159 : decode cX12_least 159 = .ok (.iload_n 1, 1) := by decide +kernel
theorem dX12_least_160 : decode cX12_least 160 = .ok (.if_icmp .lt 37, 3) := by decide +kernel
theorem dX12_least_163 : decode cX12_least 163 = .ok (.iload_n 2, 1) := by decide +kernel
theorem dX12_least_164 : decode cX12_least 164 = .ok (.iconst (-1), 1) := by decide +kernel
theorem dX12_least_165 : decode cX12_least 165 = .ok (.if_icmp .eq 22, 3) := by decide +kernel
theorem dX12_least_168 : decode cX12_least 168 = .ok (.iload 6, 2) := by decide +kernel
theorem dX12_least_170 : decode cX12_least 170 = .ok (.iload_n 3, 1) := by decide +kernel
theorem dX12_least_171 : decode cX12_least 171 = .ok (.if_icmp .lt 16, 3) := by decide +kernel
theorem dX12_least_174 : decode cX12_least 174 = .ok (.iload 6, 2) := by decide +kernel
theorem dX12_least_176 : decode cX12_least 176 = .ok (.iload_n 3, 1) := by decide +kernel
theorem dX12_least_177 : decode cX12_least 177 = .ok (.if_icmp .ne 20, 3) := by decide +kernel
theorem dX12_least_180 : decode cX12_least 180 = .ok (.iload 8, 2) := by decide +kernel
theorem dX12_least_182 : decode cX12_least 182 = .ok (.iload 4, 2) := by decide +kernel
theorem dX12_least_184 : decode cX12_least 184 = .ok (.if_icmp .ge 13, 3) := by decide +kernel
theorem dX12_least_187 : decode cX12_least 187 = .ok (.iload 5, 2) := by decide +kernel
theorem dX12_least_189 : decode cX12_least 189 = .ok (.istore_n 2, 1) := by decide +kernel
theorem dX12_least_190 : decode cX12_least 190 = .ok (.iload 6, 2) := by decide +kernel
theorem dX12_least_192 : decode cX12_least 192 = .ok (.istore_n 3, 1) := by decide +kernel
theorem dX12_least_193 : decode cX12_least 193 = .ok (.iload 8, 2) := by decide +kernel
theorem dX12_least_195 : decode cX12_least 195 = .ok (.istore 4, 2) := by decide +kernel
theorem dX12_least_197 : decode cX12_least 197 = .ok (.iinc 5 1, 3) := by decide +kernel
theorem dX12_least_200 : decode cX12_least 200 = .ok (.goto (-177), 3) := by decide +kernel
theorem dX12_least_203 : decode cX12_least 203 = .ok (.iload_n 2, 1) := by decide +kernel
theorem dX12_least_204 : decode cX12_least 204 = .ok (.ireturn, 1) := by decide +kernel
theorem dX12_heard_0 : decode cX12_heard 0 = .ok (.aload_n 0, 1) := by decide +kernel
theorem dX12_heard_1 : decode cX12_heard 1 = .ok (.getfield 7, 3) := by decide +kernel
theorem dX12_heard_4 : decode cX12_heard 4 = .ok (.iconst 5, 1) := by decide +kernel
theorem dX12_heard_5 : decode cX12_heard 5 = .ok (.iaload, 1) := by decide +kernel
theorem dX12_heard_6 : decode cX12_heard 6 = .ok (.istore 5, 2) := by decide +kernel
theorem dX12_heard_8 : decode cX12_heard 8 = .ok (.iload_n 1, 1) := by decide +kernel
theorem dX12_heard_9 : decode cX12_heard 9 = .ok (.iconst (-1), 1) := by decide +kernel
theorem dX12_heard_10 : decode cX12_heard 10 = .ok (.if_icmp .ne 12, 3) := by decide +kernel
theorem dX12_heard_13 : decode cX12_heard 13 = .ok (.aload_n 0, 1) := by decide +kernel
theorem dX12_heard_14 : decode cX12_heard 14 = .ok (.getfield 7, 3) := by decide +kernel
theorem dX12_heard_17 : decode cX12_heard 17 = .ok (.iconst 5, 1) := by decide +kernel
theorem dX12_heard_18 : decode cX12_heard 18 = .ok (.iconst 0, 1) := by decide +kernel
theorem dX12_heard_19 : decode cX12_heard 19 = .ok (.iastore, 1) := by decide +kernel
theorem dX12_heard_20 : decode cX12_heard 20 = .ok (.iconst 0, 1) := by decide +kernel
theorem dX12_heard_21 : decode cX12_heard 21 = .ok (.ireturn, 1) := by decide +kernel
theorem dX12_heard_22 : decode cX12_heard 22 = .ok (.iload_n 1, 1) := by decide +kernel
theorem dX12_heard_23 : decode cX12_heard 23 = .ok (.iconst 0, 1) := by decide +kernel
theorem dX12_heard_24 : decode cX12_heard 24 = .ok (.sipush 9000, 3) := by decide +kernel
theorem dX12_heard_27 : decode cX12_heard 27 = .ok (.invokestatic 173, 3) := by decide +kernel
theorem dX12_heard_30 : decode cX12_heard 30 = .ok (.ifCond .eq 35, 3) := by decide +kernel
theorem dX12_heard_33 : decode cX12_heard 33 = .ok (.iload_n 2, 1) := by decide +kernel
theorem dX12_heard_34 : decode cX12_heard 34 = .ok (.iload_n 1, 1) := by decide +kernel
theorem dX12_heard_35 : decode cX12_heard 35 = .ok (.sipush 9000, 3) := by decide +kernel
theorem dX12_heard_38 : decode cX12_heard 38 = .ok (.invokestatic 173, 3) := by decide +kernel
theorem dX12_heard_41 : decode cX12_heard 41 = .ok (.ifCond .eq 24, 3) := by decide +kernel
theorem dX12_heard_44 : decode cX12_heard 44 = .ok (.iload_n 3, 1) := by decide +kernel
theorem dX12_heard_45 : decode cX12_heard 45 = .ok (.iconst 0, 1) := by decide +kernel
theorem dX12_heard_46 : decode cX12_heard 46 = .ok (.bipush 99, 2) := by decide +kernel
theorem dX12_heard_48 : decode cX12_heard 48 = .ok (.invokestatic 173, 3) := by decide +kernel
theorem dX12_heard_51 : decode cX12_heard 51 = .ok (.ifCond .eq 14, 3) := by decide +kernel
theorem dX12_heard_54 : decode cX12_heard 54 = .ok (.iload 4, 2) := by decide +kernel
theorem dX12_heard_56 : decode cX12_heard 56 = .ok (.iload_n 3, 1) := by decide +kernel
theorem dX12_heard_57 : decode cX12_heard 57 = .ok (.bipush 99, 2) := by decide +kernel
theorem dX12_heard_59 : decode cX12_heard 59 = .ok (.invokestatic 173, 3) := by decide +kernel
theorem dX12_heard_62 : decode cX12_heard 62 = .ok (.ifCond .ne 11, 3) := by decide +kernel
theorem dX12_heard_65 : decode cX12_heard 65 = .ok (.aload_n 0, 1) := by decide +kernel
theorem dX12_heard_66 : decode cX12_heard 66 = .ok (.iconst 0, 1) := by decide +kernel
theorem dX12_heard_67 : decode cX12_heard 67 = .ok (.bipush (-2), 2) := by decide +kernel
theorem dX12_heard_69 : decode cX12_heard 69 = .ok (.invokevirtual 177, 3) := by decide +kernel
theorem dX12_heard_72 : decode cX12_heard 72 = .ok (.ireturn, 1) := by decide +kernel
theorem dX12_heard_73 : decode cX12_heard 73 = .ok (.iload 5, 2) := by decide +kernel
theorem dX12_heard_75 : decode cX12_heard 75 = .ok (.bipush 8, 2) := by decide +kernel
theorem dX12_heard_77 : decode cX12_heard 77 = .ok (.if_icmp .ne 11, 3) := by decide +kernel
theorem dX12_heard_80 : decode cX12_heard 80 = .ok (.aload_n 0, 1) := by decide +kernel
theorem dX12_heard_81 : decode cX12_heard 81 = .ok (.iconst 1, 1) := by decide +kernel
theorem dX12_heard_82 : decode cX12_heard 82 = .ok (.bipush (-2), 2) := by decide +kernel
theorem dX12_heard_84 : decode cX12_heard 84 = .ok (.invokevirtual 177, 3) := by decide +kernel
theorem dX12_heard_87 : decode cX12_heard 87 = .ok (.ireturn, 1) := by decide +kernel
theorem dX12_heard_88 : decode cX12_heard 88 = .ok (.aload_n 0, 1) := by decide +kernel
theorem dX12_heard_89 : decode cX12_heard 89 = .ok (.getfield 7, 3) := by decide +kernel
theorem dX12_heard_92 : decode cX12_heard 92 = .ok (.bipush 54, 2) := by decide +kernel
theorem dX12_heard_94 : decode cX12_heard 94 = .ok (.iconst 4, 1) := by decide +kernel
theorem dX12_heard_95 : decode cX12_heard 95 = .ok (.iload 5, 2) := by decide +kernel
theorem dX12_heard_97 : decode cX12_heard 97 = .ok (.imul, 1) := by decide +kernel
theorem dX12_heard_98 : decode cX12_heard 98 = .ok (.iadd, 1) := by decide +kernel
theorem dX12_heard_99 : decode cX12_heard 99 = .ok (.iload_n 1, 1) := by decide +kernel
theorem dX12_heard_100 : decode cX12_heard 100 = .ok (.iastore, 1) := by decide +kernel
theorem dX12_heard_101 : decode cX12_heard 101 = .ok (.aload_n 0, 1) := by decide +kernel
theorem dX12_heard_102 : decode cX12_heard 102 = .ok (.getfield 7, 3) := by decide +kernel
theorem dX12_heard_105 : decode cX12_heard 105 = .ok (.bipush 54, 2) := by decide +kernel
theorem dX12_heard_107 : decode cX12_heard 107 = .ok (.iconst 4, 1) := by decide +kernel
theorem dX12_heard_108 : decode cX12_heard 108 = .ok (.iload 5, 2) := by decide +kernel
theorem dX12_heard_110 : decode cX12_heard 110 = .ok (.imul, 1) := by decide +kernel
theorem dX12_heard_111 : decode cX12_heard 111 = .ok (.iadd, 1) := by decide +kernel
theorem dX12_heard_112 : decode cX12_heard 112 = .ok (.iconst 1, 1) := by decide +kernel
theorem dX12_heard_113 : decode cX12_heard 113 = .ok (.iadd, 1) := by decide +kernel
theorem dX12_heard_114 : decode cX12_heard 114 = .ok (.iload_n 2, 1) := by decide +kernel
theorem dX12_heard_115 : decode cX12_heard 115 = .ok (.iastore, 1) := by decide +kernel
theorem dX12_heard_116 : decode cX12_heard 116 = .ok (.aload_n 0, 1) := by decide +kernel
theorem dX12_heard_117 : decode cX12_heard 117 = .ok (.getfield 7, 3) := by decide +kernel
theorem dX12_heard_120 : decode cX12_heard 120 = .ok (.bipush 54, 2) := by decide +kernel
theorem dX12_heard_122 : decode cX12_heard 122 = .ok (.iconst 4, 1) := by decide +kernel
theorem dX12_heard_123 : decode cX12_heard 123 = .ok (.iload 5, 2) := by decide +kernel
theorem dX12_heard_125 : decode cX12_heard 125 = .ok (.imul, 1) := by decide +kernel
theorem dX12_heard_126 : decode cX12_heard 126 = .ok (.iadd, 1) := by decide +kernel
theorem dX12_heard_127 : decode cX12_heard 127 = .ok (.iconst 2, 1) := by decide +kernel
theorem dX12_heard_128 : decode cX12_heard 128 = .ok (.iadd, 1) := by decide +kernel
theorem dX12_heard_129 : decode cX12_heard 129 = .ok (.iload_n 3, 1) := by decide +kernel
theorem dX12_heard_130 : decode cX12_heard 130 = .ok (.iastore, 1) := by decide +kernel
theorem dX12_heard_131 : decode cX12_heard 131 = .ok (.aload_n 0, 1) := by decide +kernel
theorem dX12_heard_132 : decode cX12_heard 132 = .ok (.getfield 7, 3) := by decide +kernel
theorem dX12_heard_135 : decode cX12_heard 135 = .ok (.bipush 54, 2) := by decide +kernel
theorem dX12_heard_137 : decode cX12_heard 137 = .ok (.iconst 4, 1) := by decide +kernel
theorem dX12_heard_138 : decode cX12_heard 138 = .ok (.iload 5, 2) := by decide +kernel
theorem dX12_heard_140 : decode cX12_heard 140 = .ok (.imul, 1) := by decide +kernel
theorem dX12_heard_141 : decode cX12_heard 141 = .ok (.iadd, 1) := by decide +kernel
theorem dX12_heard_142 : decode cX12_heard 142 = .ok (.iconst 3, 1) := by decide +kernel
theorem dX12_heard_143 : decode cX12_heard 143 = .ok (.iadd, 1) := by decide +kernel
theorem dX12_heard_144 : decode cX12_heard 144 = .ok (.iload 4, 2) := by decide +kernel
theorem dX12_heard_146 : decode cX12_heard 146 = .ok (.iastore, 1) := by decide +kernel
theorem dX12_heard_147 : decode cX12_heard 147 = .ok (.aload_n 0, 1) := by decide +kernel
theorem dX12_heard_148 : decode cX12_heard 148 = .ok (.getfield 7, 3) := by decide +kernel
theorem dX12_heard_151 : decode cX12_heard 151 = .ok (.iconst 5, 1) := by decide +kernel
theorem dX12_heard_152 : decode cX12_heard 152 = .ok (.dup2, 1) := by decide +kernel
theorem dX12_heard_153 : decode cX12_heard 153 = .ok (.iaload, 1) := by decide +kernel
theorem dX12_heard_154 : decode cX12_heard 154 = .ok (.iconst 1, 1) := by decide +kernel
theorem dX12_heard_155 : decode cX12_heard 155 = .ok (.iadd, 1) := by decide +kernel
theorem dX12_heard_156 : decode cX12_heard 156 = .ok (.iastore, 1) := by decide +kernel
theorem dX12_heard_157 : decode cX12_heard 157 = .ok (.aload_n 0, 1) := by decide +kernel
theorem dX12_heard_158 : decode cX12_heard 158 = .ok (.getfield 7, 3) := by decide +kernel
theorem dX12_heard_161 : decode cX12_heard 161 = .ok (.iconst 5, 1) := by decide +kernel
theorem dX12_heard_162 : decode cX12_heard 162 = .ok (.iaload, 1) := by decide +kernel
theorem dX12_heard_163 : decode cX12_heard 163 = .ok (.ireturn, 1) := by decide +kernel
theorem dX12_span_0 : decode cX12_span 0 = .ok (.iconst 0, 1) := by decide +kernel
theorem dX12_span_1 : decode cX12_span 1 = .ok (.istore_n 2, 1) := by decide +kernel
theorem dX12_span_2 : decode cX12_span 2 = .ok (.bipush 122, 2) := by decide +kernel
theorem dX12_span_4 : decode cX12_span 4 = .ok (.istore_n 3, 1) := by decide +kernel
theorem dX12_span_5 : decode cX12_span 5 = .ok (.iconst 0, 1) := by decide +kernel
theorem dX12_span_6 : decode cX12_span 6 = .ok (.istore 4, 2) := by decide +kernel
theorem dX12_span_8 : decode cX12_span 8 = .ok (.iload 4, 2) := by decide +kernel
theorem dX12_span_10 : decode cX12_span 10 = .ok (.aload_n 0, 1) := by decide +kernel
theorem dX12_span_11 : decode cX12_span 11 = .ok (.getfield 7, 3) := by decide +kernel
theorem dX12_span_14 : decode cX12_span 14 = .ok (.iconst 5, 1) := by decide +kernel
theorem dX12_span_15 : decode cX12_span 15 = .ok (.iaload, 1) := by decide +kernel
theorem dX12_span_16 : decode cX12_span 16 = .ok (.if_icmp .ge 102, 3) := by decide +kernel
theorem dX12_span_19 : decode cX12_span 19 = .ok (.aload_n 0, 1) := by decide +kernel
theorem dX12_span_20 : decode cX12_span 20 = .ok (.getfield 7, 3) := by decide +kernel
theorem dX12_span_23 : decode cX12_span 23 = .ok (.bipush 54, 2) := by decide +kernel
theorem dX12_span_25 : decode cX12_span 25 = .ok (.iconst 4, 1) := by decide +kernel
theorem dX12_span_26 : decode cX12_span 26 = .ok (.iload 4, 2) := by decide +kernel
theorem dX12_span_28 : decode cX12_span 28 = .ok (.imul, 1) := by decide +kernel
theorem dX12_span_29 : decode cX12_span 29 = .ok (.iadd, 1) := by decide +kernel
theorem dX12_span_30 : decode cX12_span 30 = .ok (.iconst 1, 1) := by decide +kernel
theorem dX12_span_31 : decode cX12_span 31 = .ok (.iadd, 1) := by decide +kernel
theorem dX12_span_32 : decode cX12_span 32 = .ok (.iaload, 1) := by decide +kernel
theorem dX12_span_33 : decode cX12_span 33 = .ok (.aload_n 0, 1) := by decide +kernel
theorem dX12_span_34 : decode cX12_span 34 = .ok (.getfield 7, 3) := by decide +kernel
theorem dX12_span_37 : decode cX12_span 37 = .ok (.bipush 54, 2) := by decide +kernel
theorem dX12_span_39 : decode cX12_span 39 = .ok (.iconst 4, 1) := by decide +kernel
theorem dX12_span_40 : decode cX12_span 40 = .ok (.iload 4, 2) := by decide +kernel
theorem dX12_span_42 : decode cX12_span 42 = .ok (.imul, 1) := by decide +kernel
theorem dX12_span_43 : decode cX12_span 43 = .ok (.iadd, 1) := by decide +kernel
theorem dX12_span_44 : decode cX12_span 44 = .ok (.iaload, 1) := by decide +kernel
theorem dX12_span_45 : decode cX12_span 45 = .ok (.isub, 1) := by decide +kernel
theorem dX12_span_46 : decode cX12_span 46 = .ok (.istore 5, 2) := by decide +kernel
theorem dX12_span_48 : decode cX12_span 48 = .ok (.iload 5, 2) := by decide +kernel
theorem dX12_span_50 : decode cX12_span 50 = .ok (.aload_n 0, 1) := by decide +kernel
theorem dX12_span_51 : decode cX12_span 51 = .ok (.getfield 7, 3) := by decide +kernel
theorem dX12_span_54 : decode cX12_span 54 = .ok (.bipush 54, 2) := by decide +kernel
theorem dX12_span_56 : decode cX12_span 56 = .ok (.iconst 4, 1) := by decide +kernel
theorem dX12_span_57 : decode cX12_span 57 = .ok (.iload 4, 2) := by decide +kernel
theorem dX12_span_59 : decode cX12_span 59 = .ok (.imul, 1) := by decide +kernel
theorem dX12_span_60 : decode cX12_span 60 = .ok (.iadd, 1) := by decide +kernel
theorem dX12_span_61 : decode cX12_span 61 = .ok (.iconst 3, 1) := by decide +kernel
theorem dX12_span_62 : decode cX12_span 62 = .ok (.iadd, 1) := by decide +kernel
theorem dX12_span_63 : decode cX12_span 63 = .ok (.iaload, 1) := by decide +kernel
theorem dX12_span_64 : decode cX12_span 64 = .ok (.isub, 1) := by decide +kernel
theorem dX12_span_65 : decode cX12_span 65 = .ok (.istore 6, 2) := by decide +kernel
theorem dX12_span_67 : decode cX12_span 67 = .ok (.iload 5, 2) := by decide +kernel
theorem dX12_span_69 : decode cX12_span 69 = .ok (.aload_n 0, 1) := by decide +kernel
theorem dX12_span_70 : decode cX12_span 70 = .ok (.getfield 7, 3) := by decide +kernel
theorem dX12_span_73 : decode cX12_span 73 = .ok (.bipush 54, 2) := by decide +kernel
theorem dX12_span_75 : decode cX12_span 75 = .ok (.iconst 4, 1) := by decide +kernel
theorem dX12_span_76 : decode cX12_span 76 = .ok (.iload 4, 2) := by decide +kernel
theorem dX12_span_78 : decode cX12_span 78 = .ok (.imul, 1) := by decide +kernel
theorem dX12_span_79 : decode cX12_span 79 = .ok (.iadd, 1) := by decide +kernel
theorem dX12_span_80 : decode cX12_span 80 = .ok (.iconst 2, 1) := by decide +kernel
theorem dX12_span_81 : decode cX12_span 81 = .ok (.iadd, 1) := by decide +kernel
theorem dX12_span_82 : decode cX12_span 82 = .ok (.iaload, 1) := by decide +kernel
theorem dX12_span_83 : decode cX12_span 83 = .ok (.isub, 1) := by decide +kernel
theorem dX12_span_84 : decode cX12_span 84 = .ok (.istore 7, 2) := by decide +kernel
theorem dX12_span_86 : decode cX12_span 86 = .ok (.iload 6, 2) := by decide +kernel
theorem dX12_span_88 : decode cX12_span 88 = .ok (.iload_n 2, 1) := by decide +kernel
theorem dX12_span_89 : decode cX12_span 89 = .ok (.if_icmp .le 8, 3) := by decide +kernel
theorem dX12_span_92 : decode cX12_span 92 = .ok (.iload 6, 2) := by decide +kernel
theorem dX12_span_94 : decode cX12_span 94 = .ok (.goto 4, 3) := by decide +kernel
theorem dX12_span_97 : decode cX12_span 97 = .ok (.iload_n 2, 1) := by decide +kernel
theorem dX12_span_98 : decode cX12_span 98 = .ok (.istore_n 2, 1) := by decide +kernel
theorem dX12_span_99 : decode cX12_span 99 = .ok (.iload 7, 2) := by decide +kernel
theorem dX12_span_101 : decode cX12_span 101 = .ok (.iload_n 3, 1) := by decide +kernel
theorem dX12_span_102 : decode cX12_span 102 = .ok (.if_icmp .ge 8, 3) := by decide +kernel
theorem dX12_span_105 : decode cX12_span 105 = .ok (.iload 7, 2) := by decide +kernel
theorem dX12_span_107 : decode cX12_span 107 = .ok (.goto 4, 3) := by decide +kernel
theorem dX12_span_110 : decode cX12_span 110 = .ok (.iload_n 3, 1) := by decide +kernel
theorem dX12_span_111 : decode cX12_span 111 = .ok (.istore_n 3, 1) := by decide +kernel
theorem dX12_span_112 : decode cX12_span 112 = .ok (.iinc 4 1, 3) := by decide +kernel
theorem dX12_span_115 : decode cX12_span 115 = .ok (.goto (-107), 3) := by decide +kernel
theorem dX12_span_118 : decode cX12_span 118 = .ok (.iload_n 2, 1) := by decide +kernel
theorem dX12_span_119 : decode cX12_span 119 = .ok (.iload_n 3, 1) := by decide +kernel
theorem dX12_span_120 : decode cX12_span 120 = .ok (.if_icmp .le 7, 3) := by decide +kernel
theorem dX12_span_123 : decode cX12_span 123 = .ok (.iconst (-1), 1) := by decide +kernel
theorem dX12_span_124 : decode cX12_span 124 = .ok (.goto 12, 3) := by decide +kernel
theorem dX12_span_127 : decode cX12_span 127 = .ok (.iload_n 1, 1) := by decide +kernel
theorem dX12_span_128 : decode cX12_span 128 = .ok (.ifCond .eq 7, 3) := by decide +kernel
theorem dX12_span_131 : decode cX12_span 131 = .ok (.iload_n 3, 1) := by decide +kernel
theorem dX12_span_132 : decode cX12_span 132 = .ok (.goto 4, 3) := by decide +kernel
theorem dX12_span_135 : decode cX12_span 135 = .ok (.iload_n 2, 1) := by decide +kernel
theorem dX12_span_136 : decode cX12_span 136 = .ok (.ireturn, 1) := by decide +kernel
theorem dX12_way_0 : decode cX12_way 0 = .ok (.aload_n 0, 1) := by decide +kernel
theorem dX12_way_1 : decode cX12_way 1 = .ok (.iload_n 1, 1) := by decide +kernel
theorem dX12_way_2 : decode cX12_way 2 = .ok (.invokevirtual 185, 3) := by decide +kernel
theorem dX12_way_5 : decode cX12_way 5 = .ok (.ifCond .eq 26, 3) := by decide +kernel
theorem dX12_way_8 : decode cX12_way 8 = .ok (.aload_n 0, 1) := by decide +kernel
theorem dX12_way_9 : decode cX12_way 9 = .ok (.iload_n 2, 1) := by decide +kernel
theorem dX12_way_10 : decode cX12_way 10 = .ok (.invokevirtual 185, 3) := by decide +kernel
theorem dX12_way_13 : decode cX12_way 13 = .ok (.ifCond .eq 18, 3) := by decide +kernel
theorem dX12_way_16 : decode cX12_way 16 = .ok (.iload_n 1, 1) := by decide +kernel
theorem dX12_way_17 : decode cX12_way 17 = .ok (.iload_n 2, 1) := by decide +kernel
theorem dX12_way_18 : decode cX12_way 18 = .ok (.if_icmp .eq 13, 3) := by decide +kernel
theorem dX12_way_21 : decode cX12_way 21 = .ok (.iload_n 3, 1) := by decide +kernel
theorem dX12_way_22 : decode cX12_way 22 = .ok (.iconst 0, 1) := by decide +kernel
theorem dX12_way_23 : decode cX12_way 23 = .ok (.bipush 99, 2) := by decide +kernel
theorem dX12_way_25 : decode cX12_way 25 = .ok (.invokestatic 173, 3) := by decide +kernel
theorem dX12_way_28 : decode cX12_way 28 = .ok (.ifCond .ne 5, 3) := by decide +kernel
theorem dX12_way_31 : decode cX12_way 31 = .ok (.iconst (-1), 1) := by decide +kernel
theorem dX12_way_32 : decode cX12_way 32 = .ok (.ireturn, 1) := by decide +kernel
theorem dX12_way_33 : decode cX12_way 33 = .ok (.iconst 0, 1) := by decide +kernel
theorem dX12_way_34 : decode cX12_way 34 = .ok (.istore 4, 2) := by decide +kernel
theorem dX12_way_36 : decode cX12_way 36 = .ok (.iload 4, 2) := by decide +kernel
theorem dX12_way_38 : decode cX12_way 38 = .ok (.sipush 600, 3) := by decide +kernel
theorem dX12_way_41 : decode cX12_way 41 = .ok (.if_icmp .ge 17, 3) := by decide +kernel
theorem dX12_way_44 : decode cX12_way 44 = .ok (.aload_n 0, 1) := by decide +kernel
theorem dX12_way_45 : decode cX12_way 45 = .ok (.getfield 166, 3) := by decide +kernel
theorem dX12_way_48 : decode cX12_way 48 = .ok (.iload 4, 2) := by decide +kernel
theorem dX12_way_50 : decode cX12_way 50 = .ok (.iconst 0, 1) := by decide +kernel
theorem dX12_way_51 : decode cX12_way 51 = .ok (.iastore, 1) := by decide +kernel
theorem dX12_way_52 : decode cX12_way 52 = .ok (.iinc 4 1, 3) := by decide +kernel
theorem dX12_way_55 : decode cX12_way 55 = .ok (.goto (-19), 3) := by decide +kernel
theorem dX12_way_58 : decode cX12_way 58 = .ok (.iconst 0, 1) := by decide +kernel
theorem dX12_way_59 : decode cX12_way 59 = .ok (.istore 4, 2) := by decide +kernel
theorem dX12_way_61 : decode cX12_way 61 = .ok (.iload 4, 2) := by decide +kernel
theorem dX12_way_63 : decode cX12_way 63 = .ok (.iconst 2, 1) := by decide +kernel
theorem dX12_way_64 : decode cX12_way 64 = .ok (.if_icmp .ge 42, 3) := by decide +kernel
theorem dX12_way_67 : decode cX12_way 67 = .ok (.aload_n 0, 1) := by decide +kernel
theorem dX12_way_68 : decode cX12_way 68 = .ok (.getfield 157, 3) := by decide +kernel
theorem dX12_way_71 : decode cX12_way 71 = .ok (.iload 4, 2) := by decide +kernel
theorem dX12_way_73 : decode cX12_way 73 = .ok (.iconst 0, 1) := by decide +kernel
theorem dX12_way_74 : decode cX12_way 74 = .ok (.iastore, 1) := by decide +kernel
theorem dX12_way_75 : decode cX12_way 75 = .ok (.aload_n 0, 1) := by decide +kernel
theorem dX12_way_76 : decode cX12_way 76 = .ok (.getfield 160, 3) := by decide +kernel
theorem dX12_way_79 : decode cX12_way 79 = .ok (.iload 4, 2) := by decide +kernel
theorem dX12_way_81 : decode cX12_way 81 = .ok (.iload 4, 2) := by decide +kernel
theorem dX12_way_83 : decode cX12_way 83 = .ok (.ifCond .ne 7, 3) := by decide +kernel
theorem dX12_way_86 : decode cX12_way 86 = .ok (.iconst 0, 1) := by decide +kernel
theorem dX12_way_87 : decode cX12_way 87 = .ok (.goto 4, 3) := by decide +kernel
theorem dX12_way_90 : decode cX12_way 90 = .ok (.iload_n 3, 1) := by decide +kernel
theorem dX12_way_91 : decode cX12_way 91 = .ok (.iastore, 1) := by decide +kernel
theorem dX12_way_92 : decode cX12_way 92 = .ok (.aload_n 0, 1) := by decide +kernel
theorem dX12_way_93 : decode cX12_way 93 = .ok (.getfield 163, 3) := by decide +kernel
theorem dX12_way_96 : decode cX12_way 96 = .ok (.iload 4, 2) := by decide +kernel
theorem dX12_way_98 : decode cX12_way 98 = .ok (.iconst 0, 1) := by decide +kernel
theorem dX12_way_99 : decode cX12_way 99 = .ok (.iastore, 1) := by decide +kernel
theorem dX12_way_100 : decode cX12_way 100 = .ok (.iinc 4 1, 3) := by decide +kernel
theorem dX12_way_103 : decode cX12_way 103 = .ok (.goto (-42), 3) := by decide +kernel
theorem dX12_way_106 : decode cX12_way 106 = .ok (.iconst 0, 1) := by decide +kernel
theorem dX12_way_107 : decode cX12_way 107 = .ok (.istore 4, 2) := by decide +kernel
theorem dX12_way_109 : decode cX12_way 109 = .ok (.iconst 0, 1) := by decide +kernel
theorem dX12_way_110 : decode cX12_way 110 = .ok (.istore 5, 2) := by decide +kernel
theorem dX12_way_112 : decode cX12_way 112 = .ok (.iload 5, 2) := by decide +kernel
theorem dX12_way_114 : decode cX12_way 114 = .ok (.sipush 300, 3) := by decide +kernel
theorem dX12_way_117 : decode cX12_way 117 = .ok (.if_icmp .ge 262, 3) := by decide +kernel
theorem dX12_way_120 : decode cX12_way 120 = .ok (.iconst 0, 1) := by decide +kernel
theorem dX12_way_121 : decode cX12_way 121 = .ok (.istore 6, 2) := by decide +kernel
theorem dX12_way_123 : decode cX12_way 123 = .ok (.iload 6, 2) := by decide +kernel
theorem dX12_way_125 : decode cX12_way 125 = .ok (.iconst 2, 1) := by decide +kernel
theorem dX12_way_126 : decode cX12_way 126 = .ok (.if_icmp .ge 247, 3) := by decide +kernel
theorem dX12_way_129 : decode cX12_way 129 = .ok (.iload 6, 2) := by decide +kernel
theorem dX12_way_131 : decode cX12_way 131 = .ok (.ifCond .ne 7, 3) := by decide +kernel
theorem dX12_way_134 : decode cX12_way 134 = .ok (.iload_n 1, 1) := by decide +kernel
theorem dX12_way_135 : decode cX12_way 135 = .ok (.goto 4, 3) := by decide +kernel
theorem dX12_way_138 : decode cX12_way 138 = .ok (.iload_n 2, 1) := by decide +kernel
theorem dX12_way_139 : decode cX12_way 139 = .ok (.istore 7, 2) := by decide +kernel
theorem dX12_way_141 : decode cX12_way 141 = .ok (.iload 5, 2) := by decide +kernel
theorem dX12_way_143 : decode cX12_way 143 = .ok (.iconst 1, 1) := by decide +kernel
theorem dX12_way_144 : decode cX12_way 144 = .ok (.isub, 1) := by decide +kernel
theorem dX12_way_145 : decode cX12_way 145 = .ok (.aload_n 0, 1) := by decide +kernel
theorem dX12_way_146 : decode cX12_way 146 = .ok (.iload 6, 2) := by decide +kernel
theorem dX12_way_148 : decode cX12_way 148 = .ok (.ifCond .ne 7, 3) := by decide +kernel
theorem dX12_way_151 : decode cX12_way 151 = .ok (.iload_n 2, 1) := by decide +kernel
theorem dX12_way_152 : decode cX12_way 152 = .ok (.goto 4, 3) := by decide +kernel
theorem dX12_way_155 : decode cX12_way 155 = .ok (.iload_n 1, 1) := by decide +kernel
theorem dX12_way_156 : decode cX12_way 156 = .ok (.iload 7, 2) := by decide +kernel
theorem dX12_way_158 : decode cX12_way 158 = .ok (.invokevirtual 188, 3) := by decide +kernel
theorem dX12_way_161 : decode cX12_way 161 = .ok (.isub, 1) := by decide +kernel
theorem dX12_way_162 : decode cX12_way 162 = .ok (.istore 8, 2) := by decide +kernel
theorem dX12_way_164 : decode cX12_way 164 = .ok (.iload 8, 2) := by decide +kernel
theorem dX12_way_166 : decode cX12_way 166 = .ok (.ifCond .lt 25, 3) := by decide +kernel
theorem dX12_way_169 : decode cX12_way 169 = .ok (.aload_n 0, 1) := by decide +kernel
theorem dX12_way_170 : decode cX12_way 170 = .ok (.getfield 166, 3) := by decide +kernel
theorem dX12_way_173 : decode cX12_way 173 = .ok (.iload 8, 2) := by decide +kernel
theorem dX12_way_175 : decode cX12_way 175 = .ok (.iaload, 1) := by decide +kernel
theorem dX12_way_176 : decode cX12_way 176 = .ok (.iconst 1, 1) := by decide +kernel
theorem dX12_way_177 : decode cX12_way 177 = .ok (.iload 6, 2) := by decide +kernel
theorem dX12_way_179 : decode cX12_way 179 = .ok (.isub, 1) := by decide +kernel
theorem dX12_way_180 : decode cX12_way 180 = .ok (.ishr, 1) := by decide +kernel
theorem dX12_way_181 : decode cX12_way 181 = .ok (.iconst 1, 1) := by decide +kernel
theorem dX12_way_182 : decode cX12_way 182 = .ok (.iand, 1) := by decide +kernel
theorem dX12_way_183 : decode cX12_way 183 = .ok (.iconst 1, 1) := by decide +kernel
theorem dX12_way_184 : decode cX12_way 184 = .ok (.if_icmp .ne 7, 3) := by decide +kernel
theorem dX12_way_187 : decode cX12_way 187 = .ok (.iconst 1, 1) := by decide +kernel
theorem dX12_way_188 : decode cX12_way 188 = .ok (.goto 4, 3) := by decide +kernel
theorem dX12_way_191 : decode cX12_way 191 = .ok (.iconst 0, 1) := by decide +kernel
theorem dX12_way_192 : decode cX12_way 192 = .ok (.istore 9, 2) := by decide +kernel
theorem dX12_way_194 : decode cX12_way 194 = .ok (.aload_n 0, 1) := by decide +kernel
theorem dX12_way_195 : decode cX12_way 195 = .ok (.getfield 157, 3) := by decide +kernel
theorem dX12_way_198 : decode cX12_way 198 = .ok (.iload 6, 2) := by decide +kernel
theorem dX12_way_200 : decode cX12_way 200 = .ok (.iaload, 1) := by decide +kernel
theorem dX12_way_201 : decode cX12_way 201 = .ok (.iconst 1, 1) := by decide +kernel
theorem dX12_way_202 : decode cX12_way 202 = .ok (.if_icmp .ne 105, 3) := by decide +kernel
theorem dX12_way_205 : decode cX12_way 205 = .ok (.aload_n 0, 1) := by decide +kernel
theorem dX12_way_206 : decode cX12_way 206 = .ok (.getfield 163, 3) := by decide +kernel
theorem dX12_way_209 : decode cX12_way 209 = .ok (.iload 6, 2) := by decide +kernel
theorem dX12_way_211 : decode cX12_way 211 = .ok (.iload 9, 2) := by decide +kernel
theorem dX12_way_213 : decode cX12_way 213 = .ok (.ifCond .eq 15, 3) := by decide +kernel
theorem dX12_way_216 : decode cX12_way 216 = .ok (.aload_n 0, 1) := by decide +kernel
theorem dX12_way_217 : decode cX12_way 217 = .ok (.getfield 163, 3) := by decide +kernel
theorem dX12_way_220 : decode cX12_way 220 = .ok (.iload 6, 2) := by decide +kernel
theorem dX12_way_222 : decode cX12_way 222 = .ok (.iaload, 1) := by decide +kernel
theorem dX12_way_223 : decode cX12_way 223 = .ok (.iconst 1, 1) := by decide +kernel
theorem dX12_way_224 : decode cX12_way 224 = .ok (.iadd, 1) := by decide +kernel
theorem dX12_way_225 : decode cX12_way 225 = .ok (.goto 4, 3) := by decide +kernel
theorem dX12_way_228 : decode cX12_way 228 = .ok (.iconst 0, 1) := by decide +kernel
theorem dX12_way_229 : decode cX12_way 229 = .ok (.iastore, 1) := by decide +kernel
theorem dX12_way_230 : decode cX12_way 230 = .ok (.aload_n 0, 1) := by decide +kernel
theorem dX12_way_231 : decode cX12_way 231 = .ok (.iload 7, 2) := by decide +kernel
theorem dX12_way_233 : decode cX12_way 233 = .ok (.iconst 2, 1) := by decide +kernel
theorem dX12_way_234 : decode cX12_way 234 = .ok (.invokevirtual 448, 3) := by decide +kernel
theorem dX12_way_237 : decode cX12_way 237 = .ok (.istore 10, 2) := by decide +kernel
theorem dX12_way_239 : decode cX12_way 239 = .ok (.iload 10, 2) := by decide +kernel
theorem dX12_way_241 : decode cX12_way 241 = .ok (.ifCond .eq 35, 3) := by decide +kernel
theorem dX12_way_244 : decode cX12_way 244 = .ok (.aload_n 0, 1) := by decide +kernel
theorem dX12_way_245 : decode cX12_way 245 = .ok (.getfield 163, 3) := by decide +kernel
theorem dX12_way_248 : decode cX12_way 248 = .ok (.iload 6, 2) := by decide +kernel
theorem dX12_way_250 : decode cX12_way 250 = .ok (.iaload, 1) := by decide +kernel
theorem dX12_way_251 : decode cX12_way 251 = .ok (.iload 10, 2) := by decide +kernel
theorem dX12_way_253 : decode cX12_way 253 = .ok (.if_icmp .ne 23, 3) := by decide +kernel
theorem dX12_way_256 : decode cX12_way 256 = .ok (.iload 4, 2) := by decide +kernel
theorem dX12_way_258 : decode cX12_way 258 = .ok (.iconst 1, 1) := by decide +kernel
theorem dX12_way_259 : decode cX12_way 259 = .ok (.iload 6, 2) := by decide +kernel
theorem dX12_way_261 : decode cX12_way 261 = .ok (.ishl, 1) := by decide +kernel
theorem dX12_way_262 : decode cX12_way 262 = .ok (.ior, 1) := by decide +kernel
theorem dX12_way_263 : decode cX12_way 263 = .ok (.istore 4, 2) := by decide +kernel
theorem dX12_way_265 : decode cX12_way 265 = .ok (.aload_n 0, 1) := by decide +kernel
theorem dX12_way_266 : decode cX12_way 266 = .ok (.getfield 157, 3) := by decide +kernel
theorem dX12_way_269 : decode cX12_way 269 = .ok (.iload 6, 2) := by decide +kernel
theorem dX12_way_271 : decode cX12_way 271 = .ok (.iconst 2, 1) := by decide +kernel
theorem dX12_way_272 : decode cX12_way 272 = .ok (.iastore, 1) := by decide +kernel
theorem dX12_way_273 : decode cX12_way 273 = .ok (.goto 31, 3) := by decide +kernel
theorem dX12_way_276 : decode cX12_way 276 = .ok (.iload 5, 2) := by decide +kernel
theorem dX12_way_278 : decode cX12_way 278 = .ok (.aload_n 0, 1) := by decide +kernel
theorem dX12_way_279 : decode cX12_way 279 = .ok (.getfield 160, 3) := by decide +kernel
theorem dX12_way_282 : decode cX12_way 282 = .ok (.iload 6, 2) := by decide +kernel
theorem dX12_way_284 : decode cX12_way 284 = .ok (.iaload, 1) := by decide +kernel
theorem dX12_way_285 : decode cX12_way 285 = .ok (.isub, 1) := by decide +kernel
theorem dX12_way_286 : decode cX12_way 286 = .ok (.aload_n 0, 1) := by decide +kernel
theorem dX12_way_287 : decode cX12_way 287 = .ok (.iload 7, 2) := by decide +kernel
theorem dX12_way_289 : decode cX12_way 289 = .ok (.iconst 3, 1) := by decide +kernel
theorem dX12_way_290 : decode cX12_way 290 = .ok (.invokevirtual 448, 3) := by decide +kernel
theorem dX12_way_293 : decode cX12_way 293 = .ok (.if_icmp .lt 11, 3) := by decide +kernel
theorem dX12_way_296 : decode cX12_way 296 = .ok (.aload_n 0, 1) := by decide +kernel
theorem dX12_way_297 : decode cX12_way 297 = .ok (.getfield 157, 3) := by decide +kernel
theorem dX12_way_300 : decode cX12_way 300 = .ok (.iload 6, 2) := by decide +kernel
theorem dX12_way_302 : decode cX12_way 302 = .ok (.iconst 2, 1) := by decide +kernel
theorem dX12_way_303 : decode cX12_way 303 = .ok (.iastore, 1) := by decide +kernel
theorem dX12_way_304 : decode cX12_way 304 = .ok (.goto 33, 3) := by decide +kernel
theorem dX12_way_307 : decode cX12_way 307 = .ok (.aload_n 0, 1) := by decide +kernel
theorem dX12_way_308 : decode cX12_way 308 = .ok (.getfield 157, 3) := by decide +kernel
theorem dX12_way_311 : decode cX12_way 311 = .ok (.iload 6, 2) := by decide +kernel
theorem dX12_way_313 : decode cX12_way 313 = .ok (.iaload, 1) := by decide +kernel
theorem dX12_way_314 : decode cX12_way 314 = .ok (.ifCond .ne 23, 3) := by decide +kernel
theorem dX12_way_317 : decode cX12_way 317 = .ok (.iload 5, 2) := by decide +kernel
theorem dX12_way_319 : decode cX12_way 319 = .ok (.aload_n 0, 1) := by decide +kernel
theorem dX12_way_320 : decode cX12_way 320 = .ok (.getfield 160, 3) := by decide +kernel
theorem dX12_way_323 : decode cX12_way 323 = .ok (.iload 6, 2) := by decide +kernel
theorem dX12_way_325 : decode cX12_way 325 = .ok (.iaload, 1) := by decide +kernel
theorem dX12_way_326 : decode cX12_way 326 = .ok (.if_icmp .ne 11, 3) := by decide +kernel
theorem dX12_way_329 : decode cX12_way 329 = .ok (.aload_n 0, 1) := by decide +kernel
theorem dX12_way_330 : decode cX12_way 330 = .ok (.getfield 157, 3) := by decide +kernel
theorem dX12_way_333 : decode cX12_way 333 = .ok (.iload 6, 2) := by decide +kernel
theorem dX12_way_335 : decode cX12_way 335 = .ok (.iconst 1, 1) := by decide +kernel
theorem dX12_way_336 : decode cX12_way 336 = .ok (.iastore, 1) := by decide +kernel
theorem dX12_way_337 : decode cX12_way 337 = .ok (.aload_n 0, 1) := by decide +kernel
theorem dX12_way_338 : decode cX12_way 338 = .ok (.getfield 157, 3) := by decide +kernel
theorem dX12_way_341 : decode cX12_way 341 = .ok (.iload 6, 2) := by decide +kernel
theorem dX12_way_343 : decode cX12_way 343 = .ok (.iaload, 1) := by decide +kernel
theorem dX12_way_344 : decode cX12_way 344 = .ok (.iconst 1, 1) := by decide +kernel
theorem dX12_way_345 : decode cX12_way 345 = .ok (.if_icmp .ne 22, 3) := by decide +kernel
theorem dX12_way_348 : decode cX12_way 348 = .ok (.aload_n 0, 1) := by decide +kernel
theorem dX12_way_349 : decode cX12_way 349 = .ok (.getfield 166, 3) := by decide +kernel
theorem dX12_way_352 : decode cX12_way 352 = .ok (.iload 5, 2) := by decide +kernel
theorem dX12_way_354 : decode cX12_way 354 = .ok (.aload_n 0, 1) := by decide +kernel
theorem dX12_way_355 : decode cX12_way 355 = .ok (.getfield 166, 3) := by decide +kernel
theorem dX12_way_358 : decode cX12_way 358 = .ok (.iload 5, 2) := by decide +kernel
theorem dX12_way_360 : decode cX12_way 360 = .ok (.iaload, 1) := by decide +kernel
theorem dX12_way_361 : decode cX12_way 361 = .ok (.iconst 1, 1) := by decide +kernel
theorem dX12_way_362 : decode cX12_way 362 = .ok (.iload 6, 2) := by decide +kernel
theorem dX12_way_364 : decode cX12_way 364 = .ok (.ishl, 1) := by decide +kernel
theorem dX12_way_365 : decode cX12_way 365 = .ok (.ior, 1) := by decide +kernel
theorem dX12_way_366 : decode cX12_way 366 = .ok (.iastore, 1) := by decide +kernel
theorem dX12_way_367 : decode cX12_way 367 = .ok (.iinc 6 1, 3) := by decide +kernel
theorem dX12_way_370 : decode cX12_way 370 = .ok (.goto (-247), 3) := by decide +kernel
theorem dX12_way_373 : decode cX12_way 373 = .ok (.iinc 5 1, 3) := by decide +kernel
theorem dX12_way_376 : decode cX12_way 376 = .ok (.goto (-264), 3) := by decide +kernel
theorem dX12_way_379 : decode cX12_way 379 = .ok (.iload 4, 2) := by decide +kernel
theorem dX12_way_381 : decode cX12_way 381 = .ok (.ireturn, 1) := by decide +kernel
theorem dX12_refused_0 : decode cX12_refused 0 = .ok (.iload_n 1, 1) := by decide +kernel
theorem dX12_refused_1 : decode cX12_refused 1 = .ok (.iconst 0, 1) := by decide +kernel
theorem dX12_refused_2 : decode cX12_refused 2 = .ok (.iconst 2, 1) := by decide +kernel
theorem dX12_refused_3 : decode cX12_refused 3 = .ok (.invokestatic 173, 3) := by decide +kernel
theorem dX12_refused_6 : decode cX12_refused 6 = .ok (.ifCond .eq 15, 3) := by decide +kernel
theorem dX12_refused_9 : decode cX12_refused 9 = .ok (.aload_n 0, 1) := by decide +kernel
theorem dX12_refused_10 : decode cX12_refused 10 = .ok (.getfield 7, 3) := by decide +kernel
theorem dX12_refused_13 : decode cX12_refused 13 = .ok (.bipush 9, 2) := by decide +kernel
theorem dX12_refused_15 : decode cX12_refused 15 = .ok (.iload_n 1, 1) := by decide +kernel
theorem dX12_refused_16 : decode cX12_refused 16 = .ok (.iadd, 1) := by decide +kernel
theorem dX12_refused_17 : decode cX12_refused 17 = .ok (.iaload, 1) := by decide +kernel
theorem dX12_refused_18 : decode cX12_refused 18 = .ok (.goto 4, 3) := by decide +kernel
theorem dX12_refused_21 : decode cX12_refused 21 = .ok (.iconst (-1), 1) := by decide +kernel
theorem dX12_refused_22 : decode cX12_refused 22 = .ok (.ireturn, 1) := by decide +kernel
theorem dX12_image_0 : decode cX12_image 0 = .ok (.aload_n 0, 1) := by decide +kernel
theorem dX12_image_1 : decode cX12_image 1 = .ok (.iconst 1, 1) := by decide +kernel
theorem dX12_image_2 : decode cX12_image 2 = .ok (.invokevirtual 169, 3) := by decide +kernel
theorem dX12_image_5 : decode cX12_image 5 = .ok (.aload_n 0, 1) := by decide +kernel
theorem dX12_image_6 : decode cX12_image 6 = .ok (.getfield 7, 3) := by decide +kernel
theorem dX12_image_9 : decode cX12_image 9 = .ok (.bipush 91, 2) := by decide +kernel
theorem dX12_image_11 : decode cX12_image 11 = .ok (.iaload, 1) := by decide +kernel
theorem dX12_image_12 : decode cX12_image 12 = .ok (.ireturn, 1) := by decide +kernel
theorem dX12_back_0 : decode cX12_back 0 = .ok (.aload_n 0, 1) := by decide +kernel
theorem dX12_back_1 : decode cX12_back 1 = .ok (.iconst 0, 1) := by decide +kernel
theorem dX12_back_2 : decode cX12_back 2 = .ok (.invokevirtual 169, 3) := by decide +kernel
theorem dX12_back_5 : decode cX12_back 5 = .ok (.aload_n 0, 1) := by decide +kernel
theorem dX12_back_6 : decode cX12_back 6 = .ok (.getfield 7, 3) := by decide +kernel
theorem dX12_back_9 : decode cX12_back 9 = .ok (.bipush 91, 2) := by decide +kernel
theorem dX12_back_11 : decode cX12_back 11 = .ok (.iaload, 1) := by decide +kernel
theorem dX12_back_12 : decode cX12_back 12 = .ok (.ireturn, 1) := by decide +kernel
theorem dX12_about_0 : decode cX12_about 0 = .ok (.iload_n 1, 1) := by decide +kernel
theorem dX12_about_1 : decode cX12_about 1 = .ok (.tableswitch 126 0 9 #[55, 62, 70, 78, 86, 93, 100, 107, 114, 121], 55) := by decide +kernel
theorem dX12_about_56 : decode cX12_about 56 = .ok (.aload_n 0, 1) := by decide +kernel
theorem dX12_about_57 : decode cX12_about 57 = .ok (.getfield 7, 3) := by decide +kernel
theorem dX12_about_60 : decode cX12_about 60 = .ok (.iconst 0, 1) := by decide +kernel
theorem dX12_about_61 : decode cX12_about 61 = .ok (.iaload, 1) := by decide +kernel
theorem dX12_about_62 : decode cX12_about 62 = .ok (.ireturn, 1) := by decide +kernel
theorem dX12_about_63 : decode cX12_about 63 = .ok (.aload_n 0, 1) := by decide +kernel
theorem dX12_about_64 : decode cX12_about 64 = .ok (.getfield 7, 3) := by decide +kernel
theorem dX12_about_67 : decode cX12_about 67 = .ok (.bipush 91, 2) := by decide +kernel
theorem dX12_about_69 : decode cX12_about 69 = .ok (.iaload, 1) := by decide +kernel
theorem dX12_about_70 : decode cX12_about 70 = .ok (.ireturn, 1) := by decide +kernel
theorem dX12_about_71 : decode cX12_about 71 = .ok (.aload_n 0, 1) := by decide +kernel
theorem dX12_about_72 : decode cX12_about 72 = .ok (.getfield 7, 3) := by decide +kernel
theorem dX12_about_75 : decode cX12_about 75 = .ok (.bipush 90, 2) := by decide +kernel
theorem dX12_about_77 : decode cX12_about 77 = .ok (.iaload, 1) := by decide +kernel
theorem dX12_about_78 : decode cX12_about 78 = .ok (.ireturn, 1) := by decide +kernel
theorem dX12_about_79 : decode cX12_about 79 = .ok (.aload_n 0, 1) := by decide +kernel
theorem dX12_about_80 : decode cX12_about 80 = .ok (.getfield 7, 3) := by decide +kernel
theorem dX12_about_83 : decode cX12_about 83 = .ok (.bipush 92, 2) := by decide +kernel
theorem dX12_about_85 : decode cX12_about 85 = .ok (.iaload, 1) := by decide +kernel
theorem dX12_about_86 : decode cX12_about 86 = .ok (.ireturn, 1) := by decide +kernel
theorem dX12_about_87 : decode cX12_about 87 = .ok (.aload_n 0, 1) := by decide +kernel
theorem dX12_about_88 : decode cX12_about 88 = .ok (.getfield 7, 3) := by decide +kernel
theorem dX12_about_91 : decode cX12_about 91 = .ok (.iconst 1, 1) := by decide +kernel
theorem dX12_about_92 : decode cX12_about 92 = .ok (.iaload, 1) := by decide +kernel
theorem dX12_about_93 : decode cX12_about 93 = .ok (.ireturn, 1) := by decide +kernel
theorem dX12_about_94 : decode cX12_about 94 = .ok (.aload_n 0, 1) := by decide +kernel
theorem dX12_about_95 : decode cX12_about 95 = .ok (.getfield 7, 3) := by decide +kernel
theorem dX12_about_98 : decode cX12_about 98 = .ok (.iconst 2, 1) := by decide +kernel
theorem dX12_about_99 : decode cX12_about 99 = .ok (.iaload, 1) := by decide +kernel
theorem dX12_about_100 : decode cX12_about 100 = .ok (.ireturn, 1) := by decide +kernel
theorem dX12_about_101 : decode cX12_about 101 = .ok (.aload_n 0, 1) := by decide +kernel
theorem dX12_about_102 : decode cX12_about 102 = .ok (.getfield 7, 3) := by decide +kernel
theorem dX12_about_105 : decode cX12_about 105 = .ok (.iconst 3, 1) := by decide +kernel
theorem dX12_about_106 : decode cX12_about 106 = .ok (.iaload, 1) := by decide +kernel
theorem dX12_about_107 : decode cX12_about 107 = .ok (.ireturn, 1) := by decide +kernel
theorem dX12_about_108 : decode cX12_about 108 = .ok (.aload_n 0, 1) := by decide +kernel
theorem dX12_about_109 : decode cX12_about 109 = .ok (.getfield 7, 3) := by decide +kernel
theorem dX12_about_112 : decode cX12_about 112 = .ok (.iconst 4, 1) := by decide +kernel
theorem dX12_about_113 : decode cX12_about 113 = .ok (.iaload, 1) := by decide +kernel
theorem dX12_about_114 : decode cX12_about 114 = .ok (.ireturn, 1) := by decide +kernel
theorem dX12_about_115 : decode cX12_about 115 = .ok (.aload_n 0, 1) := by decide +kernel
theorem dX12_about_116 : decode cX12_about 116 = .ok (.getfield 7, 3) := by decide +kernel
theorem dX12_about_119 : decode cX12_about 119 = .ok (.iconst 5, 1) := by decide +kernel
theorem dX12_about_120 : decode cX12_about 120 = .ok (.iaload, 1) := by decide +kernel
theorem dX12_about_121 : decode cX12_about 121 = .ok (.ireturn, 1) := by decide +kernel
theorem dX12_about_122 : decode cX12_about 122 = .ok (.aload_n 0, 1) := by decide +kernel
theorem dX12_about_123 : decode cX12_about 123 = .ok (.getfield 194, 3) := by decide +kernel
theorem dX12_about_126 : decode cX12_about 126 = .ok (.ireturn, 1) := by decide +kernel
theorem dX12_about_127 : decode cX12_about 127 = .ok (.bipush (-2), 2) := by decide +kernel
theorem dX12_about_129 : decode cX12_about 129 = .ok (.ireturn, 1) := by decide +kernel
