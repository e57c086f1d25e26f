theorem dX11_init_0 : decode cX11_init 0 = .ok (.aload_n 0, 1) := by decide +kernel
theorem dX11_init_1 : decode cX11_init 1 = .ok (.invokespecial 1, 3) := by decide +kernel
theorem dX11_init_4 : decode cX11_init 4 = .ok (.aload_n 0, 1) := by decide +kernel
theorem dX11_init_5 : decode cX11_init 5 = .ok (.new 7, 3) := by decide +kernel
theorem dX11_init_8 : decode cX11_init 8 = .ok (.dup, 1) := by decide +kernel
theorem dX11_init_9 : decode cX11_init 9 = .ok (.invokespecial 9, 3) := by decide +kernel
theorem dX11_init_12 : decode cX11_init 12 = .ok (.putfield 10, 3) := by decide +kernel
theorem dX11_init_15 : decode cX11_init 15 = .ok (.aload_n 0, 1) := by decide +kernel
theorem dX11_init_16 : decode cX11_init 16 = .ok (.new 7, 3) := by decide +kernel
theorem dX11_init_19 : decode cX11_init 19 = .ok (.dup, 1) := by decide +kernel
theorem dX11_init_20 : decode cX11_init 20 = .ok (.invokespecial 9, 3) := by decide +kernel
theorem dX11_init_23 : decode cX11_init 23 = .ok (.putfield 16, 3) := by decide +kernel
theorem dX11_init_26 : decode cX11_init 26 = .ok (.aload_n 0, 1) := by decide +kernel
theorem dX11_init_27 : decode cX11_init 27 = .ok (.new 19, 3) := by decide +kernel
theorem dX11_init_30 : decode cX11_init 30 = .ok (.dup, 1) := by decide +kernel
theorem dX11_init_31 : decode cX11_init 31 = .ok (.invokespecial 21, 3) := by decide +kernel
theorem dX11_init_34 : decode cX11_init 34 = .ok (.putfield 22, 3) := by decide +kernel
theorem dX11_init_37 : decode cX11_init 37 = .ok (.aload_n 0, 1) := by decide +kernel
theorem dX11_init_38 : decode cX11_init 38 = .ok (.new 26, 3) := by decide +kernel
theorem dX11_init_41 : decode cX11_init 41 = .ok (.dup, 1) := by decide +kernel
theorem dX11_init_42 : decode cX11_init 42 = .ok (.iconst 0, 1) := by decide +kernel
theorem dX11_init_43 : decode cX11_init 43 = .ok (.iconst 0, 1) := by decide +kernel
theorem dX11_init_44 : decode cX11_init 44 = .ok (.invokespecial 28, 3) := by decide +kernel
theorem dX11_init_47 : decode cX11_init 47 = .ok (.putfield 31, 3) := by decide +kernel
theorem dX11_init_50 : decode cX11_init 50 = .ok (.aload_n 0, 1) := by decide +kernel
theorem dX11_init_51 : decode cX11_init 51 = .ok (.iconst 4, 1) := by decide +kernel
theorem dX11_init_52 : decode cX11_init 52 = .ok (.anewarray 35, 3) := by decide +kernel
theorem dX11_init_55 : decode cX11_init 55 = .ok (.putfield 37, 3) := by decide +kernel
theorem dX11_init_58 : decode cX11_init 58 = .ok (.aload_n 0, 1) := by decide +kernel
theorem dX11_init_59 : decode cX11_init 59 = .ok (.new 41, 3) := by decide +kernel
theorem dX11_init_62 : decode cX11_init 62 = .ok (.dup, 1) := by decide +kernel
theorem dX11_init_63 : decode cX11_init 63 = .ok (.invokespecial 43, 3) := by decide +kernel
theorem dX11_init_66 : decode cX11_init 66 = .ok (.putfield 44, 3) := by decide +kernel
theorem dX11_init_69 : decode cX11_init 69 = .ok (.aload_n 0, 1) := by decide +kernel
theorem dX11_init_70 : decode cX11_init 70 = .ok (.new 48, 3) := by decide +kernel
theorem dX11_init_73 : decode cX11_init 73 = .ok (.dup, 1) := by decide +kernel
theorem dX11_init_74 : decode cX11_init 74 = .ok (.invokespecial 50, 3) := by decide +kernel
theorem dX11_init_77 : decode cX11_init 77 = .ok (.putfield 51, 3) := by decide +kernel
theorem dX11_init_80 : decode cX11_init 80 = .ok (.iconst 0, 1) := by decide +kernel
theorem dX11_init_81 : decode cX11_init 81 = .ok (.istore_n 1, 1) := by decide +kernel
theorem dX11_init_82 : decode cX11_init 82 = .ok (.iload_n 1, 1) := by decide +kernel
theorem dX11_init_83 : decode cX11_init 83 = .ok (.iconst 4, 1) := by decide +kernel
theorem dX11_init_84 : decode cX11_init 84 = .ok (.if_icmp .ge 22, 3) := by decide +kernel
theorem dX11_init_87 : decode cX11_init 87 = .ok (.aload_n 0, 1) := by decide +kernel
theorem dX11_init_88 : decode cX11_init 88 = .ok (.getfield 37, 3) := by decide +kernel
theorem dX11_init_91 : decode cX11_init 91 = .ok (.iload_n 1, 1) := by decide +kernel
theorem dX11_init_92 : decode cX11_init 92 = .ok (.new 35, 3) := by decide +kernel
theorem dX11_init_95 : decode cX11_init 95 = .ok (.dup, 1) := by decide +kernel
theorem dX11_init_96 : decode cX11_init 96 = .ok (.invokespecial 55, 3) := by decide +kernel
theorem dX11_init_99 : decode cX11_init 99 = .ok (.aastore, 1) := by decide +kernel
theorem dX11_init_100 : decode cX11_init 100 = .ok (.iinc 1 1, 3) := by decide +kernel
theorem dX11_init_103 : decode cX11_init 103 = .ok (.goto (-21), 3) := by decide +kernel
theorem dX11_init_106 : decode cX11_init 106 = .ok (.return_, 1) := by decide +kernel
theorem dX11_tellEnd_0 : decode cX11_tellEnd 0 = .ok (.iload_n 1, 1) := by decide +kernel
theorem dX11_tellEnd_1 : decode cX11_tellEnd 1 = .ok (.iconst 0, 1) := by decide +kernel
theorem dX11_tellEnd_2 : decode cX11_tellEnd 2 = .ok (.bipush 99, 2) := by decide +kernel
theorem dX11_tellEnd_4 : decode cX11_tellEnd 4 = .ok (.invokestatic 56, 3) := by decide +kernel
theorem dX11_tellEnd_7 : decode cX11_tellEnd 7 = .ok (.ifCond .eq 34, 3) := by decide +kernel
theorem dX11_tellEnd_10 : decode cX11_tellEnd 10 = .ok (.iload_n 2, 1) := by decide +kernel
theorem dX11_tellEnd_11 : decode cX11_tellEnd 11 = .ok (.iconst 0, 1) := by decide +kernel
theorem dX11_tellEnd_12 : decode cX11_tellEnd 12 = .ok (.bipush 24, 2) := by decide +kernel
theorem dX11_tellEnd_14 : decode cX11_tellEnd 14 = .ok (.invokestatic 56, 3) := by decide +kernel
theorem dX11_tellEnd_17 : decode cX11_tellEnd 17 = .ok (.ifCond .eq 24, 3) := by decide +kernel
theorem dX11_tellEnd_20 : decode cX11_tellEnd 20 = .ok (.iload_n 3, 1) := by decide +kernel
theorem dX11_tellEnd_21 : decode cX11_tellEnd 21 = .ok (.iconst 0, 1) := by decide +kernel
theorem dX11_tellEnd_22 : decode cX11_tellEnd 22 = .ok (.bipush 99, 2) := by decide +kernel
theorem dX11_tellEnd_24 : decode cX11_tellEnd 24 = .ok (.invokestatic 56, 3) := by decide +kernel
theorem dX11_tellEnd_27 : decode cX11_tellEnd 27 = .ok (.ifCond .eq 14, 3) := by decide +kernel
theorem dX11_tellEnd_30 : decode cX11_tellEnd 30 = .ok (.iload 4, 2) := by decide +kernel
theorem dX11_tellEnd_32 : decode cX11_tellEnd 32 = .ok (.iconst 1, 1) := by decide +kernel
theorem dX11_tellEnd_33 : decode cX11_tellEnd 33 = .ok (.bipush 99, 2) := by decide +kernel
theorem dX11_tellEnd_35 : decode cX11_tellEnd 35 = .ok (.invokestatic 56, 3) := by decide +kernel
theorem dX11_tellEnd_38 : decode cX11_tellEnd 38 = .ok (.ifCond .ne 10, 3) := by decide +kernel
theorem dX11_tellEnd_41 : decode cX11_tellEnd 41 = .ok (.aload_n 0, 1) := by decide +kernel
theorem dX11_tellEnd_42 : decode cX11_tellEnd 42 = .ok (.iconst 0, 1) := by decide +kernel
theorem dX11_tellEnd_43 : decode cX11_tellEnd 43 = .ok (.iconst (-1), 1) := by decide +kernel
theorem dX11_tellEnd_44 : decode cX11_tellEnd 44 = .ok (.invokevirtual 60, 3) := by decide +kernel
theorem dX11_tellEnd_47 : decode cX11_tellEnd 47 = .ok (.ireturn, 1) := by decide +kernel
theorem dX11_tellEnd_48 : decode cX11_tellEnd 48 = .ok (.aload_n 0, 1) := by decide +kernel
theorem dX11_tellEnd_49 : decode cX11_tellEnd 49 = .ok (.getfield 10, 3) := by decide +kernel
theorem dX11_tellEnd_52 : decode cX11_tellEnd 52 = .ok (.getfield 64, 3) := by decide +kernel
theorem dX11_tellEnd_55 : decode cX11_tellEnd 55 = .ok (.getfield 68, 3) := by decide +kernel
theorem dX11_tellEnd_58 : decode cX11_tellEnd 58 = .ok (.iconst 4, 1) := by decide +kernel
theorem dX11_tellEnd_59 : decode cX11_tellEnd 59 = .ok (.if_icmp .lt 10, 3) := by decide +kernel
theorem dX11_tellEnd_62 : decode cX11_tellEnd 62 = .ok (.aload_n 0, 1) := by decide +kernel
theorem dX11_tellEnd_63 : decode cX11_tellEnd 63 = .ok (.iconst 1, 1) := by decide +kernel
theorem dX11_tellEnd_64 : decode cX11_tellEnd 64 = .ok (.iconst (-1), 1) := by decide +kernel
theorem dX11_tellEnd_65 : decode cX11_tellEnd 65 = .ok (.invokevirtual 60, 3) := by decide +kernel
theorem dX11_tellEnd_68 : decode cX11_tellEnd 68 = .ok (.ireturn, 1) := by decide +kernel
theorem dX11_tellEnd_69 : decode cX11_tellEnd 69 = .ok (.aload_n 0, 1) := by decide +kernel
theorem dX11_tellEnd_70 : decode cX11_tellEnd 70 = .ok (.getfield 10, 3) := by decide +kernel
theorem dX11_tellEnd_73 : decode cX11_tellEnd 73 = .ok (.getfield 64, 3) := by decide +kernel
theorem dX11_tellEnd_76 : decode cX11_tellEnd 76 = .ok (.iload_n 1, 1) := by decide +kernel
theorem dX11_tellEnd_77 : decode cX11_tellEnd 77 = .ok (.iload_n 2, 1) := by decide +kernel
theorem dX11_tellEnd_78 : decode cX11_tellEnd 78 = .ok (.iload_n 3, 1) := by decide +kernel
theorem dX11_tellEnd_79 : decode cX11_tellEnd 79 = .ok (.iload 4, 2) := by decide +kernel
theorem dX11_tellEnd_81 : decode cX11_tellEnd 81 = .ok (.invokevirtual 74, 3) := by decide +kernel
theorem dX11_tellEnd_84 : decode cX11_tellEnd 84 = .ok (.ireturn, 1) := by decide +kernel
theorem dX11_seed_0 : decode cX11_seed 0 = .ok (.iload_n 1, 1) := by decide +kernel
theorem dX11_seed_1 : decode cX11_seed 1 = .ok (.iconst 0, 1) := by decide +kernel
theorem dX11_seed_2 : decode cX11_seed 2 = .ok (.sipush 9999, 3) := by decide +kernel
theorem dX11_seed_5 : decode cX11_seed 5 = .ok (.invokestatic 56, 3) := by decide +kernel
theorem dX11_seed_8 : decode cX11_seed 8 = .ok (.ifCond .ne 9, 3) := by decide +kernel
theorem dX11_seed_11 : decode cX11_seed 11 = .ok (.aload_n 0, 1) := by decide +kernel
theorem dX11_seed_12 : decode cX11_seed 12 = .ok (.iconst 0, 1) := by decide +kernel
theorem dX11_seed_13 : decode cX11_seed 13 = .ok (.invokevirtual 78, 3) := by decide +kernel
theorem dX11_seed_16 : decode cX11_seed 16 = .ok (.ireturn, 1) := by decide +kernel
theorem dX11_seed_17 : decode cX11_seed 17 = .ok (.aload_n 0, 1) := by decide +kernel
theorem dX11_seed_18 : decode cX11_seed 18 = .ok (.getfield 10, 3) := by decide +kernel
theorem dX11_seed_21 : decode cX11_seed 21 = .ok (.getfield 82, 3) := by decide +kernel
theorem dX11_seed_24 : decode cX11_seed 24 = .ok (.iload_n 1, 1) := by decide +kernel
theorem dX11_seed_25 : decode cX11_seed 25 = .ok (.iconst 3, 1) := by decide +kernel
theorem dX11_seed_26 : decode cX11_seed 26 = .ok (.imul, 1) := by decide +kernel
theorem dX11_seed_27 : decode cX11_seed 27 = .ok (.bipush 13, 2) := by decide +kernel
theorem dX11_seed_29 : decode cX11_seed 29 = .ok (.iadd, 1) := by decide +kernel
theorem dX11_seed_30 : decode cX11_seed 30 = .ok (.putfield 85, 3) := by decide +kernel
theorem dX11_seed_33 : decode cX11_seed 33 = .ok (.iconst 1, 1) := by decide +kernel
theorem dX11_seed_34 : decode cX11_seed 34 = .ok (.ireturn, 1) := by decide +kernel
theorem dX11_delay_0 : decode cX11_delay 0 = .ok (.aload_n 0, 1) := by decide +kernel
theorem dX11_delay_1 : decode cX11_delay 1 = .ok (.iload_n 1, 1) := by decide +kernel
theorem dX11_delay_2 : decode cX11_delay 2 = .ok (.iload_n 2, 1) := by decide +kernel
theorem dX11_delay_3 : decode cX11_delay 3 = .ok (.invokevirtual 88, 3) := by decide +kernel
theorem dX11_delay_6 : decode cX11_delay 6 = .ok (.ifCond .eq 13, 3) := by decide +kernel
theorem dX11_delay_9 : decode cX11_delay 9 = .ok (.iload_n 3, 1) := by decide +kernel
theorem dX11_delay_10 : decode cX11_delay 10 = .ok (.iconst 0, 1) := by decide +kernel
theorem dX11_delay_11 : decode cX11_delay 11 = .ok (.bipush 60, 2) := by decide +kernel
theorem dX11_delay_13 : decode cX11_delay 13 = .ok (.invokestatic 56, 3) := by decide +kernel
theorem dX11_delay_16 : decode cX11_delay 16 = .ok (.ifCond .ne 9, 3) := by decide +kernel
theorem dX11_delay_19 : decode cX11_delay 19 = .ok (.aload_n 0, 1) := by decide +kernel
theorem dX11_delay_20 : decode cX11_delay 20 = .ok (.iconst 0, 1) := by decide +kernel
theorem dX11_delay_21 : decode cX11_delay 21 = .ok (.invokevirtual 78, 3) := by decide +kernel
theorem dX11_delay_24 : decode cX11_delay 24 = .ok (.ireturn, 1) := by decide +kernel
theorem dX11_delay_25 : decode cX11_delay 25 = .ok (.aload_n 0, 1) := by decide +kernel
theorem dX11_delay_26 : decode cX11_delay 26 = .ok (.getfield 10, 3) := by decide +kernel
theorem dX11_delay_29 : decode cX11_delay 29 = .ok (.getfield 82, 3) := by decide +kernel
theorem dX11_delay_32 : decode cX11_delay 32 = .ok (.iload_n 1, 1) := by decide +kernel
theorem dX11_delay_33 : decode cX11_delay 33 = .ok (.iload_n 2, 1) := by decide +kernel
theorem dX11_delay_34 : decode cX11_delay 34 = .ok (.invokevirtual 92, 3) := by decide +kernel
theorem dX11_delay_37 : decode cX11_delay 37 = .ok (.iload_n 3, 1) := by decide +kernel
theorem dX11_delay_38 : decode cX11_delay 38 = .ok (.if_icmp .ne 9, 3) := by decide +kernel
theorem dX11_delay_41 : decode cX11_delay 41 = .ok (.aload_n 0, 1) := by decide +kernel
theorem dX11_delay_42 : decode cX11_delay 42 = .ok (.iconst 2, 1) := by decide +kernel
theorem dX11_delay_43 : decode cX11_delay 43 = .ok (.invokevirtual 78, 3) := by decide +kernel
theorem dX11_delay_46 : decode cX11_delay 46 = .ok (.ireturn, 1) := by decide +kernel
theorem dX11_delay_47 : decode cX11_delay 47 = .ok (.aload_n 0, 1) := by decide +kernel
theorem dX11_delay_48 : decode cX11_delay 48 = .ok (.getfield 10, 3) := by decide +kernel
theorem dX11_delay_51 : decode cX11_delay 51 = .ok (.invokevirtual 95, 3) := by decide +kernel
theorem dX11_delay_54 : decode cX11_delay 54 = .ok (.aload_n 0, 1) := by decide +kernel
theorem dX11_delay_55 : decode cX11_delay 55 = .ok (.getfield 10, 3) := by decide +kernel
theorem dX11_delay_58 : decode cX11_delay 58 = .ok (.getfield 82, 3) := by decide +kernel
theorem dX11_delay_61 : decode cX11_delay 61 = .ok (.getfield 98, 3) := by decide +kernel
theorem dX11_delay_64 : decode cX11_delay 64 = .ok (.iload_n 1, 1) := by decide +kernel
theorem dX11_delay_65 : decode cX11_delay 65 = .ok (.iconst 4, 1) := by decide +kernel
theorem dX11_delay_66 : decode cX11_delay 66 = .ok (.imul, 1) := by decide +kernel
theorem dX11_delay_67 : decode cX11_delay 67 = .ok (.iload_n 2, 1) := by decide +kernel
theorem dX11_delay_68 : decode cX11_delay 68 = .ok (.iadd, 1) := by decide +kernel
theorem dX11_delay_69 : decode cX11_delay 69 = .ok (.iload_n 3, 1) := by decide +kernel
theorem dX11_delay_70 : decode cX11_delay 70 = .ok (.iastore, 1) := by decide +kernel
theorem dX11_delay_71 : decode cX11_delay 71 = .ok (.iconst 1, 1) := by decide +kernel
theorem dX11_delay_72 : decode cX11_delay 72 = .ok (.ireturn, 1) := by decide +kernel
theorem dX11_rule_0 : decode cX11_rule 0 = .ok (.iload_n 1, 1) := by decide +kernel
theorem dX11_rule_1 : decode cX11_rule 1 = .ok (.iconst 0, 1) := by decide +kernel
theorem dX11_rule_2 : decode cX11_rule 2 = .ok (.iconst 3, 1) := by decide +kernel
theorem dX11_rule_3 : decode cX11_rule 3 = .ok (.invokestatic 56, 3) := by decide +kernel
theorem dX11_rule_6 : decode cX11_rule 6 = .ok (.ifCond .ne 9, 3) := by decide +kernel
theorem dX11_rule_9 : decode cX11_rule 9 = .ok (.aload_n 0, 1) := by decide +kernel
theorem dX11_rule_10 : decode cX11_rule 10 = .ok (.iconst 0, 1) := by decide +kernel
theorem dX11_rule_11 : decode cX11_rule 11 = .ok (.invokevirtual 78, 3) := by decide +kernel
theorem dX11_rule_14 : decode cX11_rule 14 = .ok (.ireturn, 1) := by decide +kernel
theorem dX11_rule_15 : decode cX11_rule 15 = .ok (.aload_n 0, 1) := by decide +kernel
theorem dX11_rule_16 : decode cX11_rule 16 = .ok (.getfield 10, 3) := by decide +kernel
theorem dX11_rule_19 : decode cX11_rule 19 = .ok (.getfield 82, 3) := by decide +kernel
theorem dX11_rule_22 : decode cX11_rule 22 = .ok (.getfield 102, 3) := by decide +kernel
theorem dX11_rule_25 : decode cX11_rule 25 = .ok (.iload_n 1, 1) := by decide +kernel
theorem dX11_rule_26 : decode cX11_rule 26 = .ok (.if_icmp .ne 9, 3) := by decide +kernel
theorem dX11_rule_29 : decode cX11_rule 29 = .ok (.aload_n 0, 1) := by decide +kernel
theorem dX11_rule_30 : decode cX11_rule 30 = .ok (.iconst 2, 1) := by decide +kernel
theorem dX11_rule_31 : decode cX11_rule 31 = .ok (.invokevirtual 78, 3) := by decide +kernel
theorem dX11_rule_34 : decode cX11_rule 34 = .ok (.ireturn, 1) := by decide +kernel
theorem dX11_rule_35 : decode cX11_rule 35 = .ok (.aload_n 0, 1) := by decide +kernel
theorem dX11_rule_36 : decode cX11_rule 36 = .ok (.getfield 10, 3) := by decide +kernel
theorem dX11_rule_39 : decode cX11_rule 39 = .ok (.invokevirtual 95, 3) := by decide +kernel
theorem dX11_rule_42 : decode cX11_rule 42 = .ok (.aload_n 0, 1) := by decide +kernel
theorem dX11_rule_43 : decode cX11_rule 43 = .ok (.getfield 10, 3) := by decide +kernel
theorem dX11_rule_46 : decode cX11_rule 46 = .ok (.getfield 82, 3) := by decide +kernel
theorem dX11_rule_49 : decode cX11_rule 49 = .ok (.iload_n 1, 1) := by decide +kernel
theorem dX11_rule_50 : decode cX11_rule 50 = .ok (.putfield 102, 3) := by decide +kernel
theorem dX11_rule_53 : decode cX11_rule 53 = .ok (.iconst 1, 1) := by decide +kernel
theorem dX11_rule_54 : decode cX11_rule 54 = .ok (.ireturn, 1) := by decide +kernel
theorem dX11_speak_0 : decode cX11_speak 0 = .ok (.aload_n 0, 1) := by decide +kernel
theorem dX11_speak_1 : decode cX11_speak 1 = .ok (.iload_n 1, 1) := by decide +kernel
theorem dX11_speak_2 : decode cX11_speak 2 = .ok (.invokevirtual 105, 3) := by decide +kernel
theorem dX11_speak_5 : decode cX11_speak 5 = .ok (.ifCond .eq 13, 3) := by decide +kernel
theorem dX11_speak_8 : decode cX11_speak 8 = .ok (.iload_n 2, 1) := by decide +kernel
theorem dX11_speak_9 : decode cX11_speak 9 = .ok (.iconst 1, 1) := by decide +kernel
theorem dX11_speak_10 : decode cX11_speak 10 = .ok (.bipush 99, 2) := by decide +kernel
theorem dX11_speak_12 : decode cX11_speak 12 = .ok (.invokestatic 56, 3) := by decide +kernel
theorem dX11_speak_15 : decode cX11_speak 15 = .ok (.ifCond .ne 10, 3) := by decide +kernel
theorem dX11_speak_18 : decode cX11_speak 18 = .ok (.aload_n 0, 1) := by decide +kernel
theorem dX11_speak_19 : decode cX11_speak 19 = .ok (.iconst 0, 1) := by decide +kernel
theorem dX11_speak_20 : decode cX11_speak 20 = .ok (.iconst (-1), 1) := by decide +kernel
theorem dX11_speak_21 : decode cX11_speak 21 = .ok (.invokevirtual 60, 3) := by decide +kernel
theorem dX11_speak_24 : decode cX11_speak 24 = .ok (.ireturn, 1) := by decide +kernel
theorem dX11_speak_25 : decode cX11_speak 25 = .ok (.aload_n 0, 1) := by decide +kernel
theorem dX11_speak_26 : decode cX11_speak 26 = .ok (.getfield 10, 3) := by decide +kernel
theorem dX11_speak_29 : decode cX11_speak 29 = .ok (.getfield 108, 3) := by decide +kernel
theorem dX11_speak_32 : decode cX11_speak 32 = .ok (.aload_n 0, 1) := by decide +kernel
theorem dX11_speak_33 : decode cX11_speak 33 = .ok (.getfield 10, 3) := by decide +kernel
theorem dX11_speak_36 : decode cX11_speak 36 = .ok (.getfield 82, 3) := by decide +kernel
theorem dX11_speak_39 : decode cX11_speak 39 = .ok (.getfield 111, 3) := by decide +kernel
theorem dX11_speak_42 : decode cX11_speak 42 = .ok (.invokevirtual 114, 3) := by decide +kernel
theorem dX11_speak_45 : decode cX11_speak 45 = .ok (.ifCond .eq 10, 3) := by decide +kernel
theorem dX11_speak_48 : decode cX11_speak 48 = .ok (.aload_n 0, 1) := by decide +kernel
theorem dX11_speak_49 : decode cX11_speak 49 = .ok (.iconst 1, 1) := by decide +kernel
theorem dX11_speak_50 : decode cX11_speak 50 = .ok (.iconst (-1), 1) := by decide +kernel
theorem dX11_speak_51 : decode cX11_speak 51 = .ok (.invokevirtual 60, 3) := by decide +kernel
theorem dX11_speak_54 : decode cX11_speak 54 = .ok (.ireturn, 1) := by decide +kernel
theorem dX11_speak_55 : decode cX11_speak 55 = .ok (.aload_n 0, 1) := by decide +kernel
theorem dX11_speak_56 : decode cX11_speak 56 = .ok (.getfield 10, 3) := by decide +kernel
theorem dX11_speak_59 : decode cX11_speak 59 = .ok (.getfield 82, 3) := by decide +kernel
theorem dX11_speak_62 : decode cX11_speak 62 = .ok (.getfield 117, 3) := by decide +kernel
theorem dX11_speak_65 : decode cX11_speak 65 = .ok (.iload_n 1, 1) := by decide +kernel
theorem dX11_speak_66 : decode cX11_speak 66 = .ok (.aaload, 1) := by decide +kernel
theorem dX11_speak_67 : decode cX11_speak 67 = .ok (.getfield 121, 3) := by decide +kernel
theorem dX11_speak_70 : decode cX11_speak 70 = .ok (.ifCond .eq 10, 3) := by decide +kernel
theorem dX11_speak_73 : decode cX11_speak 73 = .ok (.aload_n 0, 1) := by decide +kernel
theorem dX11_speak_74 : decode cX11_speak 74 = .ok (.iconst 2, 1) := by decide +kernel
theorem dX11_speak_75 : decode cX11_speak 75 = .ok (.iconst (-1), 1) := by decide +kernel
theorem dX11_speak_76 : decode cX11_speak 76 = .ok (.invokevirtual 60, 3) := by decide +kernel
theorem dX11_speak_79 : decode cX11_speak 79 = .ok (.ireturn, 1) := by decide +kernel
theorem dX11_speak_80 : decode cX11_speak 80 = .ok (.aload_n 0, 1) := by decide +kernel
theorem dX11_speak_81 : decode cX11_speak 81 = .ok (.getfield 10, 3) := by decide +kernel
theorem dX11_speak_84 : decode cX11_speak 84 = .ok (.invokevirtual 95, 3) := by decide +kernel
theorem dX11_speak_87 : decode cX11_speak 87 = .ok (.aload_n 0, 1) := by decide +kernel
theorem dX11_speak_88 : decode cX11_speak 88 = .ok (.getfield 10, 3) := by decide +kernel
theorem dX11_speak_91 : decode cX11_speak 91 = .ok (.getfield 82, 3) := by decide +kernel
theorem dX11_speak_94 : decode cX11_speak 94 = .ok (.iload_n 1, 1) := by decide +kernel
theorem dX11_speak_95 : decode cX11_speak 95 = .ok (.aload_n 0, 1) := by decide +kernel
theorem dX11_speak_96 : decode cX11_speak 96 = .ok (.getfield 10, 3) := by decide +kernel
theorem dX11_speak_99 : decode cX11_speak 99 = .ok (.getfield 82, 3) := by decide +kernel
theorem dX11_speak_102 : decode cX11_speak 102 = .ok (.getfield 127, 3) := by decide +kernel
theorem dX11_speak_105 : decode cX11_speak 105 = .ok (.iconst 1, 1) := by decide +kernel
theorem dX11_speak_106 : decode cX11_speak 106 = .ok (.iadd, 1) := by decide +kernel
theorem dX11_speak_107 : decode cX11_speak 107 = .ok (.iload_n 2, 1) := by decide +kernel
theorem dX11_speak_108 : decode cX11_speak 108 = .ok (.aload_n 0, 1) := by decide +kernel
theorem dX11_speak_109 : decode cX11_speak 109 = .ok (.getfield 10, 3) := by decide +kernel
theorem dX11_speak_112 : decode cX11_speak 112 = .ok (.getfield 108, 3) := by decide +kernel
theorem dX11_speak_115 : decode cX11_speak 115 = .ok (.invokevirtual 130, 3) := by decide +kernel
theorem dX11_speak_118 : decode cX11_speak 118 = .ok (.aload_n 0, 1) := by decide +kernel
theorem dX11_speak_119 : decode cX11_speak 119 = .ok (.getfield 10, 3) := by decide +kernel
theorem dX11_speak_122 : decode cX11_speak 122 = .ok (.getfield 82, 3) := by decide +kernel
theorem dX11_speak_125 : decode cX11_speak 125 = .ok (.getfield 117, 3) := by decide +kernel
theorem dX11_speak_128 : decode cX11_speak 128 = .ok (.iload_n 1, 1) := by decide +kernel
theorem dX11_speak_129 : decode cX11_speak 129 = .ok (.aaload, 1) := by decide +kernel
theorem dX11_speak_130 : decode cX11_speak 130 = .ok (.getfield 134, 3) := by decide +kernel
theorem dX11_speak_133 : decode cX11_speak 133 = .ok (.ireturn, 1) := by decide +kernel
theorem dX11_hush_0 : decode cX11_hush 0 = .ok (.aload_n 0, 1) := by decide +kernel
theorem dX11_hush_1 : decode cX11_hush 1 = .ok (.iload_n 1, 1) := by decide +kernel
theorem dX11_hush_2 : decode cX11_hush 2 = .ok (.invokevirtual 105, 3) := by decide +kernel
theorem dX11_hush_5 : decode cX11_hush 5 = .ok (.ifCond .ne 10, 3) := by decide +kernel
theorem dX11_hush_8 : decode cX11_hush 8 = .ok (.aload_n 0, 1) := by decide +kernel
theorem dX11_hush_9 : decode cX11_hush 9 = .ok (.iconst 0, 1) := by decide +kernel
theorem dX11_hush_10 : decode cX11_hush 10 = .ok (.iconst (-1), 1) := by decide +kernel
theorem dX11_hush_11 : decode cX11_hush 11 = .ok (.invokevirtual 60, 3) := by decide +kernel
theorem dX11_hush_14 : decode cX11_hush 14 = .ok (.ireturn, 1) := by decide +kernel
theorem dX11_hush_15 : decode cX11_hush 15 = .ok (.aload_n 0, 1) := by decide +kernel
theorem dX11_hush_16 : decode cX11_hush 16 = .ok (.getfield 10, 3) := by decide +kernel
theorem dX11_hush_19 : decode cX11_hush 19 = .ok (.getfield 82, 3) := by decide +kernel
theorem dX11_hush_22 : decode cX11_hush 22 = .ok (.getfield 117, 3) := by decide +kernel
theorem dX11_hush_25 : decode cX11_hush 25 = .ok (.iload_n 1, 1) := by decide +kernel
theorem dX11_hush_26 : decode cX11_hush 26 = .ok (.aaload, 1) := by decide +kernel
theorem dX11_hush_27 : decode cX11_hush 27 = .ok (.getfield 121, 3) := by decide +kernel
theorem dX11_hush_30 : decode cX11_hush 30 = .ok (.ifCond .ne 10, 3) := by decide +kernel
theorem dX11_hush_33 : decode cX11_hush 33 = .ok (.aload_n 0, 1) := by decide +kernel
theorem dX11_hush_34 : decode cX11_hush 34 = .ok (.iconst 2, 1) := by decide +kernel
theorem dX11_hush_35 : decode cX11_hush 35 = .ok (.iconst (-1), 1) := by decide +kernel
theorem dX11_hush_36 : decode cX11_hush 36 = .ok (.invokevirtual 60, 3) := by decide +kernel
theorem dX11_hush_39 : decode cX11_hush 39 = .ok (.ireturn, 1) := by decide +kernel
theorem dX11_hush_40 : decode cX11_hush 40 = .ok (.aload_n 0, 1) := by decide +kernel
theorem dX11_hush_41 : decode cX11_hush 41 = .ok (.getfield 10, 3) := by decide +kernel
theorem dX11_hush_44 : decode cX11_hush 44 = .ok (.invokevirtual 95, 3) := by decide +kernel
theorem dX11_hush_47 : decode cX11_hush 47 = .ok (.aload_n 0, 1) := by decide +kernel
theorem dX11_hush_48 : decode cX11_hush 48 = .ok (.getfield 10, 3) := by decide +kernel
theorem dX11_hush_51 : decode cX11_hush 51 = .ok (.getfield 82, 3) := by decide +kernel
theorem dX11_hush_54 : decode cX11_hush 54 = .ok (.iload_n 1, 1) := by decide +kernel
theorem dX11_hush_55 : decode cX11_hush 55 = .ok (.aload_n 0, 1) := by decide +kernel
theorem dX11_hush_56 : decode cX11_hush 56 = .ok (.getfield 10, 3) := by decide +kernel
theorem dX11_hush_59 : decode cX11_hush 59 = .ok (.getfield 82, 3) := by decide +kernel
theorem dX11_hush_62 : decode cX11_hush 62 = .ok (.getfield 127, 3) := by decide +kernel
theorem dX11_hush_65 : decode cX11_hush 65 = .ok (.iconst 1, 1) := by decide +kernel
theorem dX11_hush_66 : decode cX11_hush 66 = .ok (.iadd, 1) := by decide +kernel
theorem dX11_hush_67 : decode cX11_hush 67 = .ok (.iconst 3, 1) := by decide +kernel
theorem dX11_hush_68 : decode cX11_hush 68 = .ok (.aload_n 0, 1) := by decide +kernel
theorem dX11_hush_69 : decode cX11_hush 69 = .ok (.getfield 10, 3) := by decide +kernel
theorem dX11_hush_72 : decode cX11_hush 72 = .ok (.getfield 108, 3) := by decide +kernel
theorem dX11_hush_75 : decode cX11_hush 75 = .ok (.invokevirtual 137, 3) := by decide +kernel
theorem dX11_hush_78 : decode cX11_hush 78 = .ok (.aload_n 0, 1) := by decide +kernel
theorem dX11_hush_79 : decode cX11_hush 79 = .ok (.getfield 10, 3) := by decide +kernel
theorem dX11_hush_82 : decode cX11_hush 82 = .ok (.getfield 82, 3) := by decide +kernel
theorem dX11_hush_85 : decode cX11_hush 85 = .ok (.getfield 117, 3) := by decide +kernel
theorem dX11_hush_88 : decode cX11_hush 88 = .ok (.iload_n 1, 1) := by decide +kernel
theorem dX11_hush_89 : decode cX11_hush 89 = .ok (.aaload, 1) := by decide +kernel
theorem dX11_hush_90 : decode cX11_hush 90 = .ok (.getfield 134, 3) := by decide +kernel
theorem dX11_hush_93 : decode cX11_hush 93 = .ok (.ireturn, 1) := by decide +kernel
theorem dX11_yes_0 : decode cX11_yes 0 = .ok (.aload_n 0, 1) := by decide +kernel
theorem dX11_yes_1 : decode cX11_yes 1 = .ok (.iload_n 1, 1) := by decide +kernel
theorem dX11_yes_2 : decode cX11_yes 2 = .ok (.invokevirtual 105, 3) := by decide +kernel
theorem dX11_yes_5 : decode cX11_yes 5 = .ok (.ifCond .ne 11, 3) := by decide +kernel
theorem dX11_yes_8 : decode cX11_yes 8 = .ok (.aload_n 0, 1) := by decide +kernel
theorem dX11_yes_9 : decode cX11_yes 9 = .ok (.iconst 0, 1) := by decide +kernel
theorem dX11_yes_10 : decode cX11_yes 10 = .ok (.bipush (-2), 2) := by decide +kernel
theorem dX11_yes_12 : decode cX11_yes 12 = .ok (.invokevirtual 60, 3) := by decide +kernel
theorem dX11_yes_15 : decode cX11_yes 15 = .ok (.ireturn, 1) := by decide +kernel
theorem dX11_yes_16 : decode cX11_yes 16 = .ok (.aload_n 0, 1) := by decide +kernel
theorem dX11_yes_17 : decode cX11_yes 17 = .ok (.getfield 10, 3) := by decide +kernel
theorem dX11_yes_20 : decode cX11_yes 20 = .ok (.getfield 82, 3) := by decide +kernel
theorem dX11_yes_23 : decode cX11_yes 23 = .ok (.getfield 140, 3) := by decide +kernel
theorem dX11_yes_26 : decode cX11_yes 26 = .ok (.bipush 40, 2) := by decide +kernel
theorem dX11_yes_28 : decode cX11_yes 28 = .ok (.if_icmp .lt 11, 3) := by decide +kernel
theorem dX11_yes_31 : decode cX11_yes 31 = .ok (.aload_n 0, 1) := by decide +kernel
theorem dX11_yes_32 : decode cX11_yes 32 = .ok (.iconst 1, 1) := by decide +kernel
theorem dX11_yes_33 : decode cX11_yes 33 = .ok (.bipush (-2), 2) := by decide +kernel
theorem dX11_yes_35 : decode cX11_yes 35 = .ok (.invokevirtual 60, 3) := by decide +kernel
theorem dX11_yes_38 : decode cX11_yes 38 = .ok (.ireturn, 1) := by decide +kernel
theorem dX11_yes_39 : decode cX11_yes 39 = .ok (.aload_n 0, 1) := by decide +kernel
theorem dX11_yes_40 : decode cX11_yes 40 = .ok (.getfield 10, 3) := by decide +kernel
theorem dX11_yes_43 : decode cX11_yes 43 = .ok (.invokevirtual 95, 3) := by decide +kernel
theorem dX11_yes_46 : decode cX11_yes 46 = .ok (.aload_n 0, 1) := by decide +kernel
theorem dX11_yes_47 : decode cX11_yes 47 = .ok (.getfield 10, 3) := by decide +kernel
theorem dX11_yes_50 : decode cX11_yes 50 = .ok (.getfield 108, 3) := by decide +kernel
theorem dX11_yes_53 : decode cX11_yes 53 = .ok (.iload_n 1, 1) := by decide +kernel
theorem dX11_yes_54 : decode cX11_yes 54 = .ok (.aload_n 0, 1) := by decide +kernel
theorem dX11_yes_55 : decode cX11_yes 55 = .ok (.getfield 10, 3) := by decide +kernel
theorem dX11_yes_58 : decode cX11_yes 58 = .ok (.getfield 82, 3) := by decide +kernel
theorem dX11_yes_61 : decode cX11_yes 61 = .ok (.invokevirtual 143, 3) := by decide +kernel
theorem dX11_yes_64 : decode cX11_yes 64 = .ok (.ireturn, 1) := by decide +kernel
theorem dX11_go_0 : decode cX11_go 0 = .ok (.iload_n 1, 1) := by decide +kernel
theorem dX11_go_1 : decode cX11_go 1 = .ok (.iconst 1, 1) := by decide +kernel
theorem dX11_go_2 : decode cX11_go 2 = .ok (.sipush 300, 3) := by decide +kernel
theorem dX11_go_5 : decode cX11_go 5 = .ok (.invokestatic 56, 3) := by decide +kernel
theorem dX11_go_8 : decode cX11_go 8 = .ok (.ifCond .ne 10, 3) := by decide +kernel
theorem dX11_go_11 : decode cX11_go 11 = .ok (.aload_n 0, 1) := by decide +kernel
theorem dX11_go_12 : decode cX11_go 12 = .ok (.iconst 0, 1) := by decide +kernel
theorem dX11_go_13 : decode cX11_go 13 = .ok (.iconst (-1), 1) := by decide +kernel
theorem dX11_go_14 : decode cX11_go 14 = .ok (.invokevirtual 60, 3) := by decide +kernel
theorem dX11_go_17 : decode cX11_go 17 = .ok (.ireturn, 1) := by decide +kernel
theorem dX11_go_18 : decode cX11_go 18 = .ok (.aload_n 0, 1) := by decide +kernel
theorem dX11_go_19 : decode cX11_go 19 = .ok (.getfield 10, 3) := by decide +kernel
theorem dX11_go_22 : decode cX11_go 22 = .ok (.getfield 82, 3) := by decide +kernel
theorem dX11_go_25 : decode cX11_go 25 = .ok (.getfield 127, 3) := by decide +kernel
theorem dX11_go_28 : decode cX11_go 28 = .ok (.iload_n 1, 1) := by decide +kernel
theorem dX11_go_29 : decode cX11_go 29 = .ok (.iadd, 1) := by decide +kernel
theorem dX11_go_30 : decode cX11_go 30 = .ok (.sipush 9000, 3) := by decide +kernel
theorem dX11_go_33 : decode cX11_go 33 = .ok (.if_icmp .le 10, 3) := by decide +kernel
theorem dX11_go_36 : decode cX11_go 36 = .ok (.aload_n 0, 1) := by decide +kernel
theorem dX11_go_37 : decode cX11_go 37 = .ok (.iconst 1, 1) := by decide +kernel
theorem dX11_go_38 : decode cX11_go 38 = .ok (.iconst (-1), 1) := by decide +kernel
theorem dX11_go_39 : decode cX11_go 39 = .ok (.invokevirtual 60, 3) := by decide +kernel
theorem dX11_go_42 : decode cX11_go 42 = .ok (.ireturn, 1) := by decide +kernel
theorem dX11_go_43 : decode cX11_go 43 = .ok (.aload_n 0, 1) := by decide +kernel
theorem dX11_go_44 : decode cX11_go 44 = .ok (.getfield 10, 3) := by decide +kernel
theorem dX11_go_47 : decode cX11_go 47 = .ok (.invokevirtual 95, 3) := by decide +kernel
theorem dX11_go_50 : decode cX11_go 50 = .ok (.aload_n 0, 1) := by decide +kernel
theorem dX11_go_51 : decode cX11_go 51 = .ok (.getfield 10, 3) := by decide +kernel
theorem dX11_go_54 : decode cX11_go 54 = .ok (.getfield 82, 3) := by decide +kernel
theorem dX11_go_57 : decode cX11_go 57 = .ok (.iload_n 1, 1) := by decide +kernel
theorem dX11_go_58 : decode cX11_go 58 = .ok (.aload_n 0, 1) := by decide +kernel
theorem dX11_go_59 : decode cX11_go 59 = .ok (.getfield 10, 3) := by decide +kernel
theorem dX11_go_62 : decode cX11_go 62 = .ok (.getfield 64, 3) := by decide +kernel
theorem dX11_go_65 : decode cX11_go 65 = .ok (.aload_n 0, 1) := by decide +kernel
theorem dX11_go_66 : decode cX11_go 66 = .ok (.invokevirtual 147, 3) := by decide +kernel
theorem dX11_go_69 : decode cX11_go 69 = .ok (.aload_n 0, 1) := by decide +kernel
theorem dX11_go_70 : decode cX11_go 70 = .ok (.getfield 10, 3) := by decide +kernel
theorem dX11_go_73 : decode cX11_go 73 = .ok (.getfield 108, 3) := by decide +kernel
theorem dX11_go_76 : decode cX11_go 76 = .ok (.invokevirtual 151, 3) := by decide +kernel
theorem dX11_go_79 : decode cX11_go 79 = .ok (.ireturn, 1) := by decide +kernel
theorem dX11_feed_0 : decode cX11_feed 0 = .ok (.aload_n 0, 1) := by decide +kernel
theorem dX11_feed_1 : decode cX11_feed 1 = .ok (.getfield 44, 3) := by decide +kernel
theorem dX11_feed_4 : decode cX11_feed 4 = .ok (.getfield 155, 3) := by decide +kernel
theorem dX11_feed_7 : decode cX11_feed 7 = .ok (.bipush 20, 2) := by decide +kernel
theorem dX11_feed_9 : decode cX11_feed 9 = .ok (.iadd, 1) := by decide +kernel
theorem dX11_feed_10 : decode cX11_feed 10 = .ok (.sipush 300, 3) := by decide +kernel
theorem dX11_feed_13 : decode cX11_feed 13 = .ok (.if_icmp .le 10, 3) := by decide +kernel
theorem dX11_feed_16 : decode cX11_feed 16 = .ok (.aload_n 0, 1) := by decide +kernel
theorem dX11_feed_17 : decode cX11_feed 17 = .ok (.iconst 1, 1) := by decide +kernel
theorem dX11_feed_18 : decode cX11_feed 18 = .ok (.iconst (-1), 1) := by decide +kernel
theorem dX11_feed_19 : decode cX11_feed 19 = .ok (.invokevirtual 60, 3) := by decide +kernel
theorem dX11_feed_22 : decode cX11_feed 22 = .ok (.ireturn, 1) := by decide +kernel
theorem dX11_feed_23 : decode cX11_feed 23 = .ok (.aload_n 0, 1) := by decide +kernel
theorem dX11_feed_24 : decode cX11_feed 24 = .ok (.getfield 44, 3) := by decide +kernel
theorem dX11_feed_27 : decode cX11_feed 27 = .ok (.iload_n 1, 1) := by decide +kernel
theorem dX11_feed_28 : decode cX11_feed 28 = .ok (.invokevirtual 158, 3) := by decide +kernel
theorem dX11_feed_31 : decode cX11_feed 31 = .ok (.aload_n 0, 1) := by decide +kernel
theorem dX11_feed_32 : decode cX11_feed 32 = .ok (.getfield 44, 3) := by decide +kernel
theorem dX11_feed_35 : decode cX11_feed 35 = .ok (.iload_n 2, 1) := by decide +kernel
theorem dX11_feed_36 : decode cX11_feed 36 = .ok (.invokevirtual 158, 3) := by decide +kernel
theorem dX11_feed_39 : decode cX11_feed 39 = .ok (.aload_n 0, 1) := by decide +kernel
theorem dX11_feed_40 : decode cX11_feed 40 = .ok (.getfield 44, 3) := by decide +kernel
theorem dX11_feed_43 : decode cX11_feed 43 = .ok (.iload_n 3, 1) := by decide +kernel
theorem dX11_feed_44 : decode cX11_feed 44 = .ok (.invokevirtual 158, 3) := by decide +kernel
theorem dX11_feed_47 : decode cX11_feed 47 = .ok (.aload_n 0, 1) := by decide +kernel
theorem dX11_feed_48 : decode cX11_feed 48 = .ok (.getfield 44, 3) := by decide +kernel
theorem dX11_feed_51 : decode cX11_feed 51 = .ok (.iload 4, 2) := by decide +kernel
theorem dX11_feed_53 : decode cX11_feed 53 = .ok (.invokevirtual 158, 3) := by decide +kernel
theorem dX11_feed_56 : decode cX11_feed 56 = .ok (.aload_n 0, 1) := by decide +kernel
theorem dX11_feed_57 : decode cX11_feed 57 = .ok (.getfield 44, 3) := by decide +kernel
theorem dX11_feed_60 : decode cX11_feed 60 = .ok (.iload 5, 2) := by decide +kernel
theorem dX11_feed_62 : decode cX11_feed 62 = .ok (.invokevirtual 158, 3) := by decide +kernel
theorem dX11_feed_65 : decode cX11_feed 65 = .ok (.aload_n 0, 1) := by decide +kernel
theorem dX11_feed_66 : decode cX11_feed 66 = .ok (.getfield 44, 3) := by decide +kernel
theorem dX11_feed_69 : decode cX11_feed 69 = .ok (.getfield 155, 3) := by decide +kernel
theorem dX11_feed_72 : decode cX11_feed 72 = .ok (.ireturn, 1) := by decide +kernel
theorem dX11_end_0 : decode cX11_end 0 = .ok (.iload_n 1, 1) := by decide +kernel
theorem dX11_end_1 : decode cX11_end 1 = .ok (.iconst 0, 1) := by decide +kernel
theorem dX11_end_2 : decode cX11_end 2 = .ok (.aload_n 0, 1) := by decide +kernel
theorem dX11_end_3 : decode cX11_end 3 = .ok (.getfield 44, 3) := by decide +kernel
theorem dX11_end_6 : decode cX11_end 6 = .ok (.getfield 155, 3) := by decide +kernel
theorem dX11_end_9 : decode cX11_end 9 = .ok (.invokestatic 56, 3) := by decide +kernel
theorem dX11_end_12 : decode cX11_end 12 = .ok (.ifCond .ne 10, 3) := by decide +kernel
theorem dX11_end_15 : decode cX11_end 15 = .ok (.aload_n 0, 1) := by decide +kernel
theorem dX11_end_16 : decode cX11_end 16 = .ok (.iconst 0, 1) := by decide +kernel
theorem dX11_end_17 : decode cX11_end 17 = .ok (.iconst (-1), 1) := by decide +kernel
theorem dX11_end_18 : decode cX11_end 18 = .ok (.invokevirtual 60, 3) := by decide +kernel
theorem dX11_end_21 : decode cX11_end 21 = .ok (.ireturn, 1) := by decide +kernel
theorem dX11_end_22 : decode cX11_end 22 = .ok (.aload_n 0, 1) := by decide +kernel
theorem dX11_end_23 : decode cX11_end 23 = .ok (.getfield 44, 3) := by decide +kernel
theorem dX11_end_26 : decode cX11_end 26 = .ok (.iload_n 1, 1) := by decide +kernel
theorem dX11_end_27 : decode cX11_end 27 = .ok (.putfield 155, 3) := by decide +kernel
theorem dX11_end_30 : decode cX11_end 30 = .ok (.iload_n 1, 1) := by decide +kernel
theorem dX11_end_31 : decode cX11_end 31 = .ok (.ireturn, 1) := by decide +kernel
theorem dX11_text_0 : decode cX11_text 0 = .ok (.aload_n 0, 1) := by decide +kernel
theorem dX11_text_1 : decode cX11_text 1 = .ok (.getfield 10, 3) := by decide +kernel
theorem dX11_text_4 : decode cX11_text 4 = .ok (.getfield 162, 3) := by decide +kernel
theorem dX11_text_7 : decode cX11_text 7 = .ok (.iconst 4, 1) := by decide +kernel
theorem dX11_text_8 : decode cX11_text 8 = .ok (.if_icmp .lt 10, 3) := by decide +kernel
theorem dX11_text_11 : decode cX11_text 11 = .ok (.aload_n 0, 1) := by decide +kernel
theorem dX11_text_12 : decode cX11_text 12 = .ok (.iconst 1, 1) := by decide +kernel
theorem dX11_text_13 : decode cX11_text 13 = .ok (.iconst (-1), 1) := by decide +kernel
theorem dX11_text_14 : decode cX11_text 14 = .ok (.invokevirtual 60, 3) := by decide +kernel
theorem dX11_text_17 : decode cX11_text 17 = .ok (.ireturn, 1) := by decide +kernel
theorem dX11_text_18 : decode cX11_text 18 = .ok (.aload_n 0, 1) := by decide +kernel
theorem dX11_text_19 : decode cX11_text 19 = .ok (.getfield 44, 3) := by decide +kernel
theorem dX11_text_22 : decode cX11_text 22 = .ok (.aload_n 0, 1) := by decide +kernel
theorem dX11_text_23 : decode cX11_text 23 = .ok (.getfield 37, 3) := by decide +kernel
theorem dX11_text_26 : decode cX11_text 26 = .ok (.aload_n 0, 1) := by decide +kernel
theorem dX11_text_27 : decode cX11_text 27 = .ok (.getfield 10, 3) := by decide +kernel
theorem dX11_text_30 : decode cX11_text 30 = .ok (.getfield 162, 3) := by decide +kernel
theorem dX11_text_33 : decode cX11_text 33 = .ok (.aaload, 1) := by decide +kernel
theorem dX11_text_34 : decode cX11_text 34 = .ok (.invokevirtual 164, 3) := by decide +kernel
theorem dX11_text_37 : decode cX11_text 37 = .ok (.aload_n 0, 1) := by decide +kernel
theorem dX11_text_38 : decode cX11_text 38 = .ok (.getfield 44, 3) := by decide +kernel
theorem dX11_text_41 : decode cX11_text 41 = .ok (.getfield 168, 3) := by decide +kernel
theorem dX11_text_44 : decode cX11_text 44 = .ok (.ifCond .eq 5, 3) := by decide +kernel
theorem dX11_text_47 : decode cX11_text 47 = .ok (.iconst (-1), 1) := by decide +kernel
theorem dX11_text_48 : decode cX11_text 48 = .ok (.ireturn, 1) := by decide +kernel
theorem dX11_text_49 : decode cX11_text 49 = .ok (.aload_n 0, 1) := by decide +kernel
theorem dX11_text_50 : decode cX11_text 50 = .ok (.getfield 10, 3) := by decide +kernel
theorem dX11_text_53 : decode cX11_text 53 = .ok (.dup, 1) := by decide +kernel
theorem dX11_text_54 : decode cX11_text 54 = .ok (.getfield 162, 3) := by decide +kernel
theorem dX11_text_57 : decode cX11_text 57 = .ok (.iconst 1, 1) := by decide +kernel
theorem dX11_text_58 : decode cX11_text 58 = .ok (.iadd, 1) := by decide +kernel
theorem dX11_text_59 : decode cX11_text 59 = .ok (.putfield 162, 3) := by decide +kernel
theorem dX11_text_62 : decode cX11_text 62 = .ok (.aload_n 0, 1) := by decide +kernel
theorem dX11_text_63 : decode cX11_text 63 = .ok (.getfield 10, 3) := by decide +kernel
theorem dX11_text_66 : decode cX11_text 66 = .ok (.getfield 162, 3) := by decide +kernel
theorem dX11_text_69 : decode cX11_text 69 = .ok (.iconst 1, 1) := by decide +kernel
theorem dX11_text_70 : decode cX11_text 70 = .ok (.isub, 1) := by decide +kernel
theorem dX11_text_71 : decode cX11_text 71 = .ok (.ireturn, 1) := by decide +kernel
theorem dX11_by_0 : decode cX11_by 0 = .ok (.iload_n 1, 1) := by decide +kernel
theorem dX11_by_1 : decode cX11_by 1 = .ok (.iconst (-1), 1) := by decide +kernel
theorem dX11_by_2 : decode cX11_by 2 = .ok (.if_icmp .eq 26, 3) := by decide +kernel
theorem dX11_by_5 : decode cX11_by 5 = .ok (.iload_n 1, 1) := by decide +kernel
theorem dX11_by_6 : decode cX11_by 6 = .ok (.iconst 0, 1) := by decide +kernel
theorem dX11_by_7 : decode cX11_by 7 = .ok (.aload_n 0, 1) := by decide +kernel
theorem dX11_by_8 : decode cX11_by 8 = .ok (.getfield 10, 3) := by decide +kernel
theorem dX11_by_11 : decode cX11_by 11 = .ok (.getfield 162, 3) := by decide +kernel
theorem dX11_by_14 : decode cX11_by 14 = .ok (.iconst 1, 1) := by decide +kernel
theorem dX11_by_15 : decode cX11_by 15 = .ok (.isub, 1) := by decide +kernel
theorem dX11_by_16 : decode cX11_by 16 = .ok (.invokestatic 56, 3) := by decide +kernel
theorem dX11_by_19 : decode cX11_by 19 = .ok (.ifCond .ne 9, 3) := by decide +kernel
theorem dX11_by_22 : decode cX11_by 22 = .ok (.aload_n 0, 1) := by decide +kernel
theorem dX11_by_23 : decode cX11_by 23 = .ok (.iconst 0, 1) := by decide +kernel
theorem dX11_by_24 : decode cX11_by 24 = .ok (.invokevirtual 78, 3) := by decide +kernel
theorem dX11_by_27 : decode cX11_by 27 = .ok (.ireturn, 1) := by decide +kernel
theorem dX11_by_28 : decode cX11_by 28 = .ok (.aload_n 0, 1) := by decide +kernel
theorem dX11_by_29 : decode cX11_by 29 = .ok (.getfield 10, 3) := by decide +kernel
theorem dX11_by_32 : decode cX11_by 32 = .ok (.iload_n 1, 1) := by decide +kernel
theorem dX11_by_33 : decode cX11_by 33 = .ok (.putfield 171, 3) := by decide +kernel
theorem dX11_by_36 : decode cX11_by 36 = .ok (.iconst 1, 1) := by decide +kernel
theorem dX11_by_37 : decode cX11_by 37 = .ok (.ireturn, 1) := by decide +kernel
theorem dX11_played_0 : decode cX11_played 0 = .ok (.iload_n 1, 1) := by decide +kernel
theorem dX11_played_1 : decode cX11_played 1 = .ok (.iconst 0, 1) := by decide +kernel
theorem dX11_played_2 : decode cX11_played 2 = .ok (.aload_n 0, 1) := by decide +kernel
theorem dX11_played_3 : decode cX11_played 3 = .ok (.getfield 10, 3) := by decide +kernel
theorem dX11_played_6 : decode cX11_played 6 = .ok (.getfield 162, 3) := by decide +kernel
theorem dX11_played_9 : decode cX11_played 9 = .ok (.iconst 1, 1) := by decide +kernel
theorem dX11_played_10 : decode cX11_played 10 = .ok (.isub, 1) := by decide +kernel
theorem dX11_played_11 : decode cX11_played 11 = .ok (.invokestatic 56, 3) := by decide +kernel
theorem dX11_played_14 : decode cX11_played 14 = .ok (.ifCond .ne 11, 3) := by decide +kernel
theorem dX11_played_17 : decode cX11_played 17 = .ok (.aload_n 0, 1) := by decide +kernel
theorem dX11_played_18 : decode cX11_played 18 = .ok (.iconst 0, 1) := by decide +kernel
theorem dX11_played_19 : decode cX11_played 19 = .ok (.bipush (-2), 2) := by decide +kernel
theorem dX11_played_21 : decode cX11_played 21 = .ok (.invokevirtual 60, 3) := by decide +kernel
theorem dX11_played_24 : decode cX11_played 24 = .ok (.ireturn, 1) := by decide +kernel
theorem dX11_played_25 : decode cX11_played 25 = .ok (.aload_n 0, 1) := by decide +kernel
theorem dX11_played_26 : decode cX11_played 26 = .ok (.getfield 37, 3) := by decide +kernel
theorem dX11_played_29 : decode cX11_played 29 = .ok (.iload_n 1, 1) := by decide +kernel
theorem dX11_played_30 : decode cX11_played 30 = .ok (.aaload, 1) := by decide +kernel
theorem dX11_played_31 : decode cX11_played 31 = .ok (.astore_n 2, 1) := by decide +kernel
theorem dX11_played_32 : decode cX11_played 32 = .ok (.iconst 0, 1) := by decide +kernel
theorem dX11_played_33 : decode cX11_played 33 = .ok (.istore_n 3, 1) := by decide +kernel
theorem dX11_played_34 : decode cX11_played 34 = .ok (.iload_n 3, 1) := by decide +kernel
theorem dX11_played_35 : decode cX11_played 35 = .ok (.aload_n 2, 1) := by decide +kernel
theorem dX11_played_36 : decode cX11_played 36 = .ok (.getfield 174, 3) := by decide +kernel
theorem dX11_played_39 : decode cX11_played 39 = .ok (.if_icmp .ge 191, 3) := by decide +kernel
theorem dX11_played_42 : decode cX11_played 42 = .ok (.aload_n 2, 1) := by decide +kernel
theorem dX11_played_43 : decode cX11_played 43 = .ok (.getfield 177, 3) := by decide +kernel
theorem dX11_played_46 : decode cX11_played 46 = .ok (.iload_n 3, 1) := by decide +kernel
theorem dX11_played_47 : decode cX11_played 47 = .ok (.iaload, 1) := by decide +kernel
theorem dX11_played_48 : decode cX11_played 48 = .ok (.istore 4, 2) := by decide +kernel
theorem dX11_played_50 : decode cX11_played 50 = .ok (.aload_n 2, 1) := by decide +kernel
theorem dX11_played_51 : decode cX11_played 51 = .ok (.getfield 180, 3) := by decide +kernel
theorem dX11_played_54 : decode cX11_played 54 = .ok (.iload_n 3, 1) := by decide +kernel
theorem dX11_played_55 : decode cX11_played 55 = .ok (.iaload, 1) := by decide +kernel
theorem dX11_played_56 : decode cX11_played 56 = .ok (.istore 5, 2) := by decide +kernel
theorem dX11_played_58 : decode cX11_played 58 = .ok (.iconst 1, 1) := by decide +kernel
theorem dX11_played_59 : decode cX11_played 59 = .ok (.istore 6, 2) := by decide +kernel
theorem dX11_played_61 : decode cX11_played 61 = .ok (.aload_n 2, 1) := by decide +kernel
theorem dX11_played_62 : decode cX11_played 62 = .ok (.getfield 183, 3) := by decide +kernel
theorem dX11_played_65 : decode cX11_played 65 = .ok (.iload_n 3, 1) := by decide +kernel
theorem dX11_played_66 : decode cX11_played 66 = .ok (.iaload, 1) := by decide +kernel
theorem dX11_played_67 : decode cX11_played 67 = .ok (.tableswitch 150 5 10 #[37, 59, 79, 100, 120, 139], 37) := by decide +kernel
theorem dX11_played_104 : decode cX11_played 104 = .ok (.aload_n 0, 1) := by decide +kernel
theorem dX11_played_105 : decode cX11_played 105 = .ok (.iload 4, 2) := by decide +kernel
theorem dX11_played_107 : decode cX11_played 107 = .ok (.iload 5, 2) := by decide +kernel
theorem dX11_played_109 : decode cX11_played 109 = .ok (.invokevirtual 186, 3) := by decide +kernel
theorem dX11_played_112 : decode cX11_played 112 = .ok (.iconst (-1), 1) := by decide +kernel
theorem dX11_played_113 : decode cX11_played 113 = .ok (.if_icmp .eq 7, 3) := by decide +kernel
theorem dX11_played_116 : decode cX11_played 116 = .ok (.iconst 1, 1) := by decide +kernel
theorem dX11_played_117 : decode cX11_played 117 = .ok (.goto 4, 3) := by decide +kernel
theorem dX11_played_120 : decode cX11_played 120 = .ok (.iconst 0, 1) := by decide +kernel
theorem dX11_played_121 : decode cX11_played 121 = .ok (.istore 6, 2) := by decide +kernel
theorem dX11_played_123 : decode cX11_played 123 = .ok (.goto 94, 3) := by decide +kernel
theorem dX11_played_126 : decode cX11_played 126 = .ok (.aload_n 0, 1) := by decide +kernel
theorem dX11_played_127 : decode cX11_played 127 = .ok (.iload 4, 2) := by decide +kernel
theorem dX11_played_129 : decode cX11_played 129 = .ok (.invokevirtual 189, 3) := by decide +kernel
theorem dX11_played_132 : decode cX11_played 132 = .ok (.iconst (-1), 1) := by decide +kernel
theorem dX11_played_133 : decode cX11_played 133 = .ok (.if_icmp .eq 7, 3) := by decide +kernel
theorem dX11_played_136 : decode cX11_played 136 = .ok (.iconst 1, 1) := by decide +kernel
theorem dX11_played_137 : decode cX11_played 137 = .ok (.goto 4, 3) := by decide +kernel
theorem dX11_played_140 : decode cX11_played 140 = .ok (.iconst 0, 1) := by decide +kernel
theorem dX11_played_141 : decode cX11_played 141 = .ok (.istore 6, 2) := by decide +kernel
theorem dX11_played_143 : decode cX11_played 143 = .ok (.goto 74, 3) := by decide +kernel
theorem dX11_played_146 : decode cX11_played 146 = .ok (.aload_n 0, 1) := by decide +kernel
theorem dX11_played_147 : decode cX11_played 147 = .ok (.iload 4, 2) := by decide +kernel
theorem dX11_played_149 : decode cX11_played 149 = .ok (.invokevirtual 193, 3) := by decide +kernel
theorem dX11_played_152 : decode cX11_played 152 = .ok (.bipush (-2), 2) := by decide +kernel
theorem dX11_played_154 : decode cX11_played 154 = .ok (.if_icmp .eq 7, 3) := by decide +kernel
theorem dX11_played_157 : decode cX11_played 157 = .ok (.iconst 1, 1) := by decide +kernel
theorem dX11_played_158 : decode cX11_played 158 = .ok (.goto 4, 3) := by decide +kernel
theorem dX11_played_161 : decode cX11_played 161 = .ok (.iconst 0, 1) := by decide +kernel
theorem dX11_played_162 : decode cX11_played 162 = .ok (.istore 6, 2) := by decide +kernel
theorem dX11_played_164 : decode cX11_played 164 = .ok (.goto 53, 3) := by decide +kernel
theorem dX11_played_167 : decode cX11_played 167 = .ok (.aload_n 0, 1) := by decide +kernel
theorem dX11_played_168 : decode cX11_played 168 = .ok (.iload 4, 2) := by decide +kernel
theorem dX11_played_170 : decode cX11_played 170 = .ok (.invokevirtual 196, 3) := by decide +kernel
theorem dX11_played_173 : decode cX11_played 173 = .ok (.iconst (-1), 1) := by decide +kernel
theorem dX11_played_174 : decode cX11_played 174 = .ok (.if_icmp .eq 7, 3) := by decide +kernel
theorem dX11_played_177 : decode cX11_played 177 = .ok (.iconst 1, 1) := by decide +kernel
theorem dX11_played_178 : decode cX11_played 178 = .ok (.goto 4, 3) := by decide +kernel
theorem dX11_played_181 : decode cX11_played 181 = .ok (.iconst 0, 1) := by decide +kernel
theorem dX11_played_182 : decode cX11_played 182 = .ok (.istore 6, 2) := by decide +kernel
theorem dX11_played_184 : decode cX11_played 184 = .ok (.goto 33, 3) := by decide +kernel
theorem dX11_played_187 : decode cX11_played 187 = .ok (.aload_n 0, 1) := by decide +kernel
theorem dX11_played_188 : decode cX11_played 188 = .ok (.iload 4, 2) := by decide +kernel
theorem dX11_played_190 : decode cX11_played 190 = .ok (.iload 5, 2) := by decide +kernel
theorem dX11_played_192 : decode cX11_played 192 = .ok (.aload_n 2, 1) := by decide +kernel
theorem dX11_played_193 : decode cX11_played 193 = .ok (.getfield 199, 3) := by decide +kernel
theorem dX11_played_196 : decode cX11_played 196 = .ok (.iload_n 3, 1) := by decide +kernel
theorem dX11_played_197 : decode cX11_played 197 = .ok (.iaload, 1) := by decide +kernel
theorem dX11_played_198 : decode cX11_played 198 = .ok (.invokevirtual 202, 3) := by decide +kernel
theorem dX11_played_201 : decode cX11_played 201 = .ok (.istore 6, 2) := by decide +kernel
theorem dX11_played_203 : decode cX11_played 203 = .ok (.goto 14, 3) := by decide +kernel
theorem dX11_played_206 : decode cX11_played 206 = .ok (.aload_n 0, 1) := by decide +kernel
theorem dX11_played_207 : decode cX11_played 207 = .ok (.iload 4, 2) := by decide +kernel
theorem dX11_played_209 : decode cX11_played 209 = .ok (.invokevirtual 205, 3) := by decide +kernel
theorem dX11_played_212 : decode cX11_played 212 = .ok (.istore 6, 2) := by decide +kernel
theorem dX11_played_214 : decode cX11_played 214 = .ok (.goto 3, 3) := by decide +kernel
theorem dX11_played_217 : decode cX11_played 217 = .ok (.iload 6, 2) := by decide +kernel
theorem dX11_played_219 : decode cX11_played 219 = .ok (.ifCond .ne 5, 3) := by decide +kernel
theorem dX11_played_222 : decode cX11_played 222 = .ok (.iload_n 3, 1) := by decide +kernel
theorem dX11_played_223 : decode cX11_played 223 = .ok (.ireturn, 1) := by decide +kernel
theorem dX11_played_224 : decode cX11_played 224 = .ok (.iinc 3 1, 3) := by decide +kernel
theorem dX11_played_227 : decode cX11_played 227 = .ok (.goto (-193), 3) := by decide +kernel
theorem dX11_played_230 : decode cX11_played 230 = .ok (.iconst (-1), 1) := by decide +kernel
theorem dX11_played_231 : decode cX11_played 231 = .ok (.ireturn, 1) := by decide +kernel
theorem dX11_undo_0 : decode cX11_undo 0 = .ok (.aload_n 0, 1) := by decide +kernel
theorem dX11_undo_1 : decode cX11_undo 1 = .ok (.getfield 10, 3) := by decide +kernel
theorem dX11_undo_4 : decode cX11_undo 4 = .ok (.getfield 207, 3) := by decide +kernel
theorem dX11_undo_7 : decode cX11_undo 7 = .ok (.ifCond .ne 10, 3) := by decide +kernel
theorem dX11_undo_10 : decode cX11_undo 10 = .ok (.aload_n 0, 1) := by decide +kernel
theorem dX11_undo_11 : decode cX11_undo 11 = .ok (.iconst 2, 1) := by decide +kernel
theorem dX11_undo_12 : decode cX11_undo 12 = .ok (.iconst (-1), 1) := by decide +kernel
theorem dX11_undo_13 : decode cX11_undo 13 = .ok (.invokevirtual 60, 3) := by decide +kernel
theorem dX11_undo_16 : decode cX11_undo 16 = .ok (.ireturn, 1) := by decide +kernel
theorem dX11_undo_17 : decode cX11_undo 17 = .ok (.aload_n 0, 1) := by decide +kernel
theorem dX11_undo_18 : decode cX11_undo 18 = .ok (.getfield 10, 3) := by decide +kernel
theorem dX11_undo_21 : decode cX11_undo 21 = .ok (.invokevirtual 210, 3) := by decide +kernel
theorem dX11_undo_24 : decode cX11_undo 24 = .ok (.aload_n 0, 1) := by decide +kernel
theorem dX11_undo_25 : decode cX11_undo 25 = .ok (.getfield 10, 3) := by decide +kernel
theorem dX11_undo_28 : decode cX11_undo 28 = .ok (.getfield 207, 3) := by decide +kernel
theorem dX11_undo_31 : decode cX11_undo 31 = .ok (.ireturn, 1) := by decide +kernel
theorem dX11_price_0 : decode cX11_price 0 = .ok (.iload_n 1, 1) := by decide +kernel
theorem dX11_price_1 : decode cX11_price 1 = .ok (.iconst 0, 1) := by decide +kernel
theorem dX11_price_2 : decode cX11_price 2 = .ok (.bipush 99, 2) := by decide +kernel
theorem dX11_price_4 : decode cX11_price 4 = .ok (.invokestatic 56, 3) := by decide +kernel
theorem dX11_price_7 : decode cX11_price 7 = .ok (.ifCond .eq 23, 3) := by decide +kernel
theorem dX11_price_10 : decode cX11_price 10 = .ok (.iload_n 2, 1) := by decide +kernel
theorem dX11_price_11 : decode cX11_price 11 = .ok (.iconst 0, 1) := by decide +kernel
theorem dX11_price_12 : decode cX11_price 12 = .ok (.bipush 99, 2) := by decide +kernel
theorem dX11_price_14 : decode cX11_price 14 = .ok (.invokestatic 56, 3) := by decide +kernel
theorem dX11_price_17 : decode cX11_price 17 = .ok (.ifCond .eq 13, 3) := by decide +kernel
theorem dX11_price_20 : decode cX11_price 20 = .ok (.iload_n 3, 1) := by decide +kernel
theorem dX11_price_21 : decode cX11_price 21 = .ok (.iconst 0, 1) := by decide +kernel
theorem dX11_price_22 : decode cX11_price 22 = .ok (.bipush 99, 2) := by decide +kernel
theorem dX11_price_24 : decode cX11_price 24 = .ok (.invokestatic 56, 3) := by decide +kernel
theorem dX11_price_27 : decode cX11_price 27 = .ok (.ifCond .ne 9, 3) := by decide +kernel
theorem dX11_price_30 : decode cX11_price 30 = .ok (.aload_n 0, 1) := by decide +kernel
theorem dX11_price_31 : decode cX11_price 31 = .ok (.iconst 0, 1) := by decide +kernel
theorem dX11_price_32 : decode cX11_price 32 = .ok (.invokevirtual 78, 3) := by decide +kernel
theorem dX11_price_35 : decode cX11_price 35 = .ok (.ireturn, 1) := by decide +kernel
theorem dX11_price_36 : decode cX11_price 36 = .ok (.aload_n 0, 1) := by decide +kernel
theorem dX11_price_37 : decode cX11_price 37 = .ok (.getfield 10, 3) := by decide +kernel
theorem dX11_price_40 : decode cX11_price 40 = .ok (.iload_n 1, 1) := by decide +kernel
theorem dX11_price_41 : decode cX11_price 41 = .ok (.putfield 213, 3) := by decide +kernel
theorem dX11_price_44 : decode cX11_price 44 = .ok (.aload_n 0, 1) := by decide +kernel
theorem dX11_price_45 : decode cX11_price 45 = .ok (.getfield 10, 3) := by decide +kernel
theorem dX11_price_48 : decode cX11_price 48 = .ok (.iload_n 2, 1) := by decide +kernel
theorem dX11_price_49 : decode cX11_price 49 = .ok (.putfield 216, 3) := by decide +kernel
theorem dX11_price_52 : decode cX11_price 52 = .ok (.aload_n 0, 1) := by decide +kernel
theorem dX11_price_53 : decode cX11_price 53 = .ok (.getfield 10, 3) := by decide +kernel
theorem dX11_price_56 : decode cX11_price 56 = .ok (.iload_n 3, 1) := by decide +kernel
theorem dX11_price_57 : decode cX11_price 57 = .ok (.putfield 219, 3) := by decide +kernel
theorem dX11_price_60 : decode cX11_price 60 = .ok (.iconst 1, 1) := by decide +kernel
theorem dX11_price_61 : decode cX11_price 61 = .ok (.ireturn, 1) := by decide +kernel
theorem dX11_agree_0 : decode cX11_agree 0 = .ok (.iload_n 1, 1) := by decide +kernel
theorem dX11_agree_1 : decode cX11_agree 1 = .ok (.iconst (-1), 1) := by decide +kernel
theorem dX11_agree_2 : decode cX11_agree 2 = .ok (.if_icmp .ne 16, 3) := by decide +kernel
theorem dX11_agree_5 : decode cX11_agree 5 = .ok (.aload_n 0, 1) := by decide +kernel
theorem dX11_agree_6 : decode cX11_agree 6 = .ok (.getfield 10, 3) := by decide +kernel
theorem dX11_agree_9 : decode cX11_agree 9 = .ok (.getfield 222, 3) := by decide +kernel
theorem dX11_agree_12 : decode cX11_agree 12 = .ok (.iconst 0, 1) := by decide +kernel
theorem dX11_agree_13 : decode cX11_agree 13 = .ok (.putfield 226, 3) := by decide +kernel
theorem dX11_agree_16 : decode cX11_agree 16 = .ok (.iconst 0, 1) := by decide +kernel
theorem dX11_agree_17 : decode cX11_agree 17 = .ok (.ireturn, 1) := by decide +kernel
theorem dX11_agree_18 : decode cX11_agree 18 = .ok (.iload_n 1, 1) := by decide +kernel
theorem dX11_agree_19 : decode cX11_agree 19 = .ok (.iconst 1, 1) := by decide +kernel
theorem dX11_agree_20 : decode cX11_agree 20 = .ok (.bipush 99, 2) := by decide +kernel
theorem dX11_agree_22 : decode cX11_agree 22 = .ok (.invokestatic 56, 3) := by decide +kernel
theorem dX11_agree_25 : decode cX11_agree 25 = .ok (.ifCond .eq 27, 3) := by decide +kernel
theorem dX11_agree_28 : decode cX11_agree 28 = .ok (.iload_n 2, 1) := by decide +kernel
theorem dX11_agree_29 : decode cX11_agree 29 = .ok (.iconst 0, 1) := by decide +kernel
theorem dX11_agree_30 : decode cX11_agree 30 = .ok (.bipush 99, 2) := by decide +kernel
theorem dX11_agree_32 : decode cX11_agree 32 = .ok (.invokestatic 56, 3) := by decide +kernel
theorem dX11_agree_35 : decode cX11_agree 35 = .ok (.ifCond .eq 17, 3) := by decide +kernel
theorem dX11_agree_38 : decode cX11_agree 38 = .ok (.aload_n 0, 1) := by decide +kernel
theorem dX11_agree_39 : decode cX11_agree 39 = .ok (.getfield 10, 3) := by decide +kernel
theorem dX11_agree_42 : decode cX11_agree 42 = .ok (.getfield 222, 3) := by decide +kernel
theorem dX11_agree_45 : decode cX11_agree 45 = .ok (.iload_n 3, 1) := by decide +kernel
theorem dX11_agree_46 : decode cX11_agree 46 = .ok (.invokevirtual 229, 3) := by decide +kernel
theorem dX11_agree_49 : decode cX11_agree 49 = .ok (.ifCond .ne 11, 3) := by decide +kernel
theorem dX11_agree_52 : decode cX11_agree 52 = .ok (.aload_n 0, 1) := by decide +kernel
theorem dX11_agree_53 : decode cX11_agree 53 = .ok (.iconst 0, 1) := by decide +kernel
theorem dX11_agree_54 : decode cX11_agree 54 = .ok (.bipush (-2), 2) := by decide +kernel
theorem dX11_agree_56 : decode cX11_agree 56 = .ok (.invokevirtual 60, 3) := by decide +kernel
theorem dX11_agree_59 : decode cX11_agree 59 = .ok (.ireturn, 1) := by decide +kernel
theorem dX11_agree_60 : decode cX11_agree 60 = .ok (.aload_n 0, 1) := by decide +kernel
theorem dX11_agree_61 : decode cX11_agree 61 = .ok (.getfield 10, 3) := by decide +kernel
theorem dX11_agree_64 : decode cX11_agree 64 = .ok (.getfield 222, 3) := by decide +kernel
theorem dX11_agree_67 : decode cX11_agree 67 = .ok (.getfield 226, 3) := by decide +kernel
theorem dX11_agree_70 : decode cX11_agree 70 = .ok (.bipush 8, 2) := by decide +kernel
theorem dX11_agree_72 : decode cX11_agree 72 = .ok (.if_icmp .lt 11, 3) := by decide +kernel
theorem dX11_agree_75 : decode cX11_agree 75 = .ok (.aload_n 0, 1) := by decide +kernel
theorem dX11_agree_76 : decode cX11_agree 76 = .ok (.iconst 1, 1) := by decide +kernel
theorem dX11_agree_77 : decode cX11_agree 77 = .ok (.bipush (-2), 2) := by decide +kernel
theorem dX11_agree_79 : decode cX11_agree 79 = .ok (.invokevirtual 60, 3) := by decide +kernel
theorem dX11_agree_82 : decode cX11_agree 82 = .ok (.ireturn, 1) := by decide +kernel
theorem dX11_agree_83 : decode cX11_agree 83 = .ok (.aload_n 0, 1) := by decide +kernel
theorem dX11_agree_84 : decode cX11_agree 84 = .ok (.getfield 10, 3) := by decide +kernel
theorem dX11_agree_87 : decode cX11_agree 87 = .ok (.getfield 222, 3) := by decide +kernel
theorem dX11_agree_90 : decode cX11_agree 90 = .ok (.iload_n 1, 1) := by decide +kernel
theorem dX11_agree_91 : decode cX11_agree 91 = .ok (.iload_n 2, 1) := by decide +kernel
theorem dX11_agree_92 : decode cX11_agree 92 = .ok (.iload_n 3, 1) := by decide +kernel
theorem dX11_agree_93 : decode cX11_agree 93 = .ok (.invokevirtual 232, 3) := by decide +kernel
theorem dX11_agree_96 : decode cX11_agree 96 = .ok (.aload_n 0, 1) := by decide +kernel
theorem dX11_agree_97 : decode cX11_agree 97 = .ok (.getfield 10, 3) := by decide +kernel
theorem dX11_agree_100 : decode cX11_agree 100 = .ok (.getfield 222, 3) := by decide +kernel
theorem dX11_agree_103 : decode cX11_agree 103 = .ok (.getfield 226, 3) := by decide +kernel
theorem dX11_agree_106 : decode cX11_agree 106 = .ok (.ireturn, 1) := by decide +kernel
theorem dX11_heard_0 : decode cX11_heard 0 = .ok (.iload_n 1, 1) := by decide +kernel
theorem dX11_heard_1 : decode cX11_heard 1 = .ok (.iconst (-1), 1) := by decide +kernel
theorem dX11_heard_2 : decode cX11_heard 2 = .ok (.if_icmp .ne 16, 3) := by decide +kernel
theorem dX11_heard_5 : decode cX11_heard 5 = .ok (.aload_n 0, 1) := by decide +kernel
theorem dX11_heard_6 : decode cX11_heard 6 = .ok (.getfield 10, 3) := by decide +kernel
theorem dX11_heard_9 : decode cX11_heard 9 = .ok (.getfield 235, 3) := by decide +kernel
theorem dX11_heard_12 : decode cX11_heard 12 = .ok (.iconst 0, 1) := by decide +kernel
theorem dX11_heard_13 : decode cX11_heard 13 = .ok (.putfield 239, 3) := by decide +kernel
theorem dX11_heard_16 : decode cX11_heard 16 = .ok (.iconst 0, 1) := by decide +kernel
theorem dX11_heard_17 : decode cX11_heard 17 = .ok (.ireturn, 1) := by decide +kernel
theorem dX11_heard_18 : decode cX11_heard 18 = .ok (.iload_n 1, 1) := by decide +kernel
theorem dX11_heard_19 : decode cX11_heard 19 = .ok (.iconst 0, 1) := by decide +kernel
theorem dX11_heard_20 : decode cX11_heard 20 = .ok (.sipush 9000, 3) := by decide +kernel
theorem dX11_heard_23 : decode cX11_heard 23 = .ok (.invokestatic 56, 3) := by decide +kernel
theorem dX11_heard_26 : decode cX11_heard 26 = .ok (.ifCond .eq 35, 3) := by decide +kernel
theorem dX11_heard_29 : decode cX11_heard 29 = .ok (.iload_n 2, 1) := by decide +kernel
theorem dX11_heard_30 : decode cX11_heard 30 = .ok (.iload_n 1, 1) := by decide +kernel
theorem dX11_heard_31 : decode cX11_heard 31 = .ok (.sipush 9000, 3) := by decide +kernel
theorem dX11_heard_34 : decode cX11_heard 34 = .ok (.invokestatic 56, 3) := by decide +kernel
theorem dX11_heard_37 : decode cX11_heard 37 = .ok (.ifCond .eq 24, 3) := by decide +kernel
theorem dX11_heard_40 : decode cX11_heard 40 = .ok (.iload_n 3, 1) := by decide +kernel
theorem dX11_heard_41 : decode cX11_heard 41 = .ok (.iconst 0, 1) := by decide +kernel
theorem dX11_heard_42 : decode cX11_heard 42 = .ok (.bipush 99, 2) := by decide +kernel
theorem dX11_heard_44 : decode cX11_heard 44 = .ok (.invokestatic 56, 3) := by decide +kernel
theorem dX11_heard_47 : decode cX11_heard 47 = .ok (.ifCond .eq 14, 3) := by decide +kernel
theorem dX11_heard_50 : decode cX11_heard 50 = .ok (.iload 4, 2) := by decide +kernel
theorem dX11_heard_52 : decode cX11_heard 52 = .ok (.iload_n 3, 1) := by decide +kernel
theorem dX11_heard_53 : decode cX11_heard 53 = .ok (.bipush 99, 2) := by decide +kernel
theorem dX11_heard_55 : decode cX11_heard 55 = .ok (.invokestatic 56, 3) := by decide +kernel
theorem dX11_heard_58 : decode cX11_heard 58 = .ok (.ifCond .ne 11, 3) := by decide +kernel
theorem dX11_heard_61 : decode cX11_heard 61 = .ok (.aload_n 0, 1) := by decide +kernel
theorem dX11_heard_62 : decode cX11_heard 62 = .ok (.iconst 0, 1) := by decide +kernel
theorem dX11_heard_63 : decode cX11_heard 63 = .ok (.bipush (-2), 2) := by decide +kernel
theorem dX11_heard_65 : decode cX11_heard 65 = .ok (.invokevirtual 60, 3) := by decide +kernel
theorem dX11_heard_68 : decode cX11_heard 68 = .ok (.ireturn, 1) := by decide +kernel
theorem dX11_heard_69 : decode cX11_heard 69 = .ok (.aload_n 0, 1) := by decide +kernel
theorem dX11_heard_70 : decode cX11_heard 70 = .ok (.getfield 10, 3) := by decide +kernel
theorem dX11_heard_73 : decode cX11_heard 73 = .ok (.getfield 235, 3) := by decide +kernel
theorem dX11_heard_76 : decode cX11_heard 76 = .ok (.getfield 239, 3) := by decide +kernel
theorem dX11_heard_79 : decode cX11_heard 79 = .ok (.bipush 8, 2) := by decide +kernel
theorem dX11_heard_81 : decode cX11_heard 81 = .ok (.if_icmp .lt 11, 3) := by decide +kernel
theorem dX11_heard_84 : decode cX11_heard 84 = .ok (.aload_n 0, 1) := by decide +kernel
theorem dX11_heard_85 : decode cX11_heard 85 = .ok (.iconst 1, 1) := by decide +kernel
theorem dX11_heard_86 : decode cX11_heard 86 = .ok (.bipush (-2), 2) := by decide +kernel
theorem dX11_heard_88 : decode cX11_heard 88 = .ok (.invokevirtual 60, 3) := by decide +kernel
theorem dX11_heard_91 : decode cX11_heard 91 = .ok (.ireturn, 1) := by decide +kernel
theorem dX11_heard_92 : decode cX11_heard 92 = .ok (.aload_n 0, 1) := by decide +kernel
theorem dX11_heard_93 : decode cX11_heard 93 = .ok (.getfield 10, 3) := by decide +kernel
theorem dX11_heard_96 : decode cX11_heard 96 = .ok (.getfield 235, 3) := by decide +kernel
theorem dX11_heard_99 : decode cX11_heard 99 = .ok (.iload_n 2, 1) := by decide +kernel
theorem dX11_heard_100 : decode cX11_heard 100 = .ok (.iload_n 1, 1) := by decide +kernel
theorem dX11_heard_101 : decode cX11_heard 101 = .ok (.isub, 1) := by decide +kernel
theorem dX11_heard_102 : decode cX11_heard 102 = .ok (.iload 4, 2) := by decide +kernel
theorem dX11_heard_104 : decode cX11_heard 104 = .ok (.isub, 1) := by decide +kernel
theorem dX11_heard_105 : decode cX11_heard 105 = .ok (.iload_n 2, 1) := by decide +kernel
theorem dX11_heard_106 : decode cX11_heard 106 = .ok (.iload_n 1, 1) := by decide +kernel
theorem dX11_heard_107 : decode cX11_heard 107 = .ok (.isub, 1) := by decide +kernel
theorem dX11_heard_108 : decode cX11_heard 108 = .ok (.iload_n 3, 1) := by decide +kernel
theorem dX11_heard_109 : decode cX11_heard 109 = .ok (.isub, 1) := by decide +kernel
theorem dX11_heard_110 : decode cX11_heard 110 = .ok (.invokevirtual 242, 3) := by decide +kernel
theorem dX11_heard_113 : decode cX11_heard 113 = .ok (.aload_n 0, 1) := by decide +kernel
theorem dX11_heard_114 : decode cX11_heard 114 = .ok (.getfield 10, 3) := by decide +kernel
theorem dX11_heard_117 : decode cX11_heard 117 = .ok (.getfield 235, 3) := by decide +kernel
theorem dX11_heard_120 : decode cX11_heard 120 = .ok (.getfield 239, 3) := by decide +kernel
theorem dX11_heard_123 : decode cX11_heard 123 = .ok (.ireturn, 1) := by decide +kernel
theorem dX11_image_0 : decode cX11_image 0 = .ok (.aload_n 0, 1) := by decide +kernel
theorem dX11_image_1 : decode cX11_image 1 = .ok (.getfield 16, 3) := by decide +kernel
theorem dX11_image_4 : decode cX11_image 4 = .ok (.aload_n 0, 1) := by decide +kernel
theorem dX11_image_5 : decode cX11_image 5 = .ok (.getfield 10, 3) := by decide +kernel
theorem dX11_image_8 : decode cX11_image 8 = .ok (.invokevirtual 244, 3) := by decide +kernel
theorem dX11_image_11 : decode cX11_image 11 = .ok (.aload_n 0, 1) := by decide +kernel
theorem dX11_image_12 : decode cX11_image 12 = .ok (.getfield 10, 3) := by decide +kernel
theorem dX11_image_15 : decode cX11_image 15 = .ok (.getfield 82, 3) := by decide +kernel
theorem dX11_image_18 : decode cX11_image 18 = .ok (.getfield 127, 3) := by decide +kernel
theorem dX11_image_21 : decode cX11_image 21 = .ok (.ireturn, 1) := by decide +kernel
theorem dX11_back_0 : decode cX11_back 0 = .ok (.aload_n 0, 1) := by decide +kernel
theorem dX11_back_1 : decode cX11_back 1 = .ok (.getfield 10, 3) := by decide +kernel
theorem dX11_back_4 : decode cX11_back 4 = .ok (.aload_n 0, 1) := by decide +kernel
theorem dX11_back_5 : decode cX11_back 5 = .ok (.getfield 16, 3) := by decide +kernel
theorem dX11_back_8 : decode cX11_back 8 = .ok (.invokevirtual 244, 3) := by decide +kernel
theorem dX11_back_11 : decode cX11_back 11 = .ok (.aload_n 0, 1) := by decide +kernel
theorem dX11_back_12 : decode cX11_back 12 = .ok (.getfield 10, 3) := by decide +kernel
theorem dX11_back_15 : decode cX11_back 15 = .ok (.getfield 82, 3) := by decide +kernel
theorem dX11_back_18 : decode cX11_back 18 = .ok (.getfield 127, 3) := by decide +kernel
theorem dX11_back_21 : decode cX11_back 21 = .ok (.ireturn, 1) := by decide +kernel
theorem dX11_fault_0 : decode cX11_fault 0 = .ok (.iload_n 1, 1) := by decide +kernel
theorem dX11_fault_1 : decode cX11_fault 1 = .ok (.ifCond .ne 13, 3) := by decide +kernel
theorem dX11_fault_4 : decode cX11_fault 4 = .ok (.aload_n 0, 1) := by decide +kernel
theorem dX11_fault_5 : decode cX11_fault 5 = .ok (.getfield 44, 3) := by decide +kernel
theorem dX11_fault_8 : decode cX11_fault 8 = .ok (.getfield 168, 3) := by decide +kernel
theorem dX11_fault_11 : decode cX11_fault 11 = .ok (.goto 19, 3) := by decide +kernel
theorem dX11_fault_14 : decode cX11_fault 14 = .ok (.iload_n 1, 1) := by decide +kernel
theorem dX11_fault_15 : decode cX11_fault 15 = .ok (.iconst 1, 1) := by decide +kernel
theorem dX11_fault_16 : decode cX11_fault 16 = .ok (.if_icmp .ne 13, 3) := by decide +kernel
theorem dX11_fault_19 : decode cX11_fault 19 = .ok (.aload_n 0, 1) := by decide +kernel
theorem dX11_fault_20 : decode cX11_fault 20 = .ok (.getfield 44, 3) := by decide +kernel
theorem dX11_fault_23 : decode cX11_fault 23 = .ok (.getfield 248, 3) := by decide +kernel
theorem dX11_fault_26 : decode cX11_fault 26 = .ok (.goto 4, 3) := by decide +kernel
theorem dX11_fault_29 : decode cX11_fault 29 = .ok (.iconst (-1), 1) := by decide +kernel
theorem dX11_fault_30 : decode cX11_fault 30 = .ok (.ireturn, 1) := by decide +kernel
theorem dX11_of_0 : decode cX11_of 0 = .ok (.aload_n 0, 1) := by decide +kernel
theorem dX11_of_1 : decode cX11_of 1 = .ok (.iload_n 1, 1) := by decide +kernel
theorem dX11_of_2 : decode cX11_of 2 = .ok (.invokevirtual 105, 3) := by decide +kernel
theorem dX11_of_5 : decode cX11_of 5 = .ok (.ifCond .ne 6, 3) := by decide +kernel
theorem dX11_of_8 : decode cX11_of 8 = .ok (.bipush (-2), 2) := by decide +kernel
theorem dX11_of_10 : decode cX11_of 10 = .ok (.ireturn, 1) := by decide +kernel
theorem dX11_of_11 : decode cX11_of 11 = .ok (.iload_n 2, 1) := by decide +kernel
theorem dX11_of_12 : decode cX11_of 12 = .ok (.bipush 20, 2) := by decide +kernel
theorem dX11_of_14 : decode cX11_of 14 = .ok (.if_icmp .lt 34, 3) := by decide +kernel
theorem dX11_of_17 : decode cX11_of 17 = .ok (.iload_n 2, 1) := by decide +kernel
theorem dX11_of_18 : decode cX11_of 18 = .ok (.bipush 20, 2) := by decide +kernel
theorem dX11_of_20 : decode cX11_of 20 = .ok (.isub, 1) := by decide +kernel
theorem dX11_of_21 : decode cX11_of 21 = .ok (.istore_n 3, 1) := by decide +kernel
theorem dX11_of_22 : decode cX11_of 22 = .ok (.aload_n 0, 1) := by decide +kernel
theorem dX11_of_23 : decode cX11_of 23 = .ok (.iload_n 3, 1) := by decide +kernel
theorem dX11_of_24 : decode cX11_of 24 = .ok (.invokevirtual 105, 3) := by decide +kernel
theorem dX11_of_27 : decode cX11_of 27 = .ok (.ifCond .eq 18, 3) := by decide +kernel
theorem dX11_of_30 : decode cX11_of 30 = .ok (.aload_n 0, 1) := by decide +kernel
theorem dX11_of_31 : decode cX11_of 31 = .ok (.getfield 10, 3) := by decide +kernel
theorem dX11_of_34 : decode cX11_of 34 = .ok (.getfield 82, 3) := by decide +kernel
theorem dX11_of_37 : decode cX11_of 37 = .ok (.iload_n 3, 1) := by decide +kernel
theorem dX11_of_38 : decode cX11_of 38 = .ok (.iload_n 1, 1) := by decide +kernel
theorem dX11_of_39 : decode cX11_of 39 = .ok (.invokevirtual 92, 3) := by decide +kernel
theorem dX11_of_42 : decode cX11_of 42 = .ok (.goto 5, 3) := by decide +kernel
theorem dX11_of_45 : decode cX11_of 45 = .ok (.bipush (-2), 2) := by decide +kernel
theorem dX11_of_47 : decode cX11_of 47 = .ok (.ireturn, 1) := by decide +kernel
theorem dX11_of_48 : decode cX11_of 48 = .ok (.iload_n 2, 1) := by decide +kernel
theorem dX11_of_49 : decode cX11_of 49 = .ok (.iconst 3, 1) := by decide +kernel
theorem dX11_of_50 : decode cX11_of 50 = .ok (.if_icmp .gt 16, 3) := by decide +kernel
theorem dX11_of_53 : decode cX11_of 53 = .ok (.aload_n 0, 1) := by decide +kernel
theorem dX11_of_54 : decode cX11_of 54 = .ok (.getfield 10, 3) := by decide +kernel
theorem dX11_of_57 : decode cX11_of 57 = .ok (.getfield 64, 3) := by decide +kernel
theorem dX11_of_60 : decode cX11_of 60 = .ok (.iload_n 1, 1) := by decide +kernel
theorem dX11_of_61 : decode cX11_of 61 = .ok (.iload_n 2, 1) := by decide +kernel
theorem dX11_of_62 : decode cX11_of 62 = .ok (.invokevirtual 251, 3) := by decide +kernel
theorem dX11_of_65 : decode cX11_of 65 = .ok (.ireturn, 1) := by decide +kernel
theorem dX11_of_66 : decode cX11_of 66 = .ok (.aload_n 0, 1) := by decide +kernel
theorem dX11_of_67 : decode cX11_of 67 = .ok (.getfield 10, 3) := by decide +kernel
theorem dX11_of_70 : decode cX11_of 70 = .ok (.getfield 82, 3) := by decide +kernel
theorem dX11_of_73 : decode cX11_of 73 = .ok (.getfield 117, 3) := by decide +kernel
theorem dX11_of_76 : decode cX11_of 76 = .ok (.iload_n 1, 1) := by decide +kernel
theorem dX11_of_77 : decode cX11_of 77 = .ok (.aaload, 1) := by decide +kernel
theorem dX11_of_78 : decode cX11_of 78 = .ok (.iload_n 2, 1) := by decide +kernel
theorem dX11_of_79 : decode cX11_of 79 = .ok (.invokevirtual 254, 3) := by decide +kernel
theorem dX11_of_82 : decode cX11_of 82 = .ok (.ireturn, 1) := by decide +kernel
theorem dX11_through_0 : decode cX11_through 0 = .ok (.aload_n 0, 1) := by decide +kernel
theorem dX11_through_1 : decode cX11_through 1 = .ok (.iload_n 1, 1) := by decide +kernel
theorem dX11_through_2 : decode cX11_through 2 = .ok (.iload_n 2, 1) := by decide +kernel
theorem dX11_through_3 : decode cX11_through 3 = .ok (.invokevirtual 88, 3) := by decide +kernel
theorem dX11_through_6 : decode cX11_through 6 = .ok (.ifCond .ne 5, 3) := by decide +kernel
theorem dX11_through_9 : decode cX11_through 9 = .ok (.iconst (-1), 1) := by decide +kernel
theorem dX11_through_10 : decode cX11_through 10 = .ok (.ireturn, 1) := by decide +kernel
theorem dX11_through_11 : decode cX11_through 11 = .ok (.iload_n 3, 1) := by decide +kernel
theorem dX11_through_12 : decode cX11_through 12 = .ok (.ifCond .eq 16, 3) := by decide +kernel
theorem dX11_through_15 : decode cX11_through 15 = .ok (.aload_n 0, 1) := by decide +kernel
theorem dX11_through_16 : decode cX11_through 16 = .ok (.getfield 10, 3) := by decide +kernel
theorem dX11_through_19 : decode cX11_through 19 = .ok (.getfield 82, 3) := by decide +kernel
theorem dX11_through_22 : decode cX11_through 22 = .ok (.getfield 256, 3) := by decide +kernel
theorem dX11_through_25 : decode cX11_through 25 = .ok (.goto 13, 3) := by decide +kernel
theorem dX11_through_28 : decode cX11_through 28 = .ok (.aload_n 0, 1) := by decide +kernel
theorem dX11_through_29 : decode cX11_through 29 = .ok (.getfield 10, 3) := by decide +kernel
theorem dX11_through_32 : decode cX11_through 32 = .ok (.getfield 82, 3) := by decide +kernel
theorem dX11_through_35 : decode cX11_through 35 = .ok (.getfield 259, 3) := by decide +kernel
theorem dX11_through_38 : decode cX11_through 38 = .ok (.astore 4, 2) := by decide +kernel
theorem dX11_through_40 : decode cX11_through 40 = .ok (.aload 4, 2) := by decide +kernel
theorem dX11_through_42 : decode cX11_through 42 = .ok (.iload_n 1, 1) := by decide +kernel
theorem dX11_through_43 : decode cX11_through 43 = .ok (.iconst 4, 1) := by decide +kernel
theorem dX11_through_44 : decode cX11_through 44 = .ok (.imul, 1) := by decide +kernel
theorem dX11_through_45 : decode cX11_through 45 = .ok (.iload_n 2, 1) := by decide +kernel
theorem dX11_through_46 : decode cX11_through 46 = .ok (.iadd, 1) := by decide +kernel
theorem dX11_through_47 : decode cX11_through 47 = .ok (.iaload, 1) := by decide +kernel
theorem dX11_through_48 : decode cX11_through 48 = .ok (.ireturn, 1) := by decide +kernel
theorem dX11_turn_0 : decode cX11_turn 0 = .ok (.iload_n 1, 1) := by decide +kernel
theorem dX11_turn_1 : decode cX11_turn 1 = .ok (.iconst (-1), 1) := by decide +kernel
theorem dX11_turn_2 : decode cX11_turn 2 = .ok (.if_icmp .ne 14, 3) := by decide +kernel
theorem dX11_turn_5 : decode cX11_turn 5 = .ok (.aload_n 0, 1) := by decide +kernel
theorem dX11_turn_6 : decode cX11_turn 6 = .ok (.getfield 10, 3) := by decide +kernel
theorem dX11_turn_9 : decode cX11_turn 9 = .ok (.getfield 82, 3) := by decide +kernel
theorem dX11_turn_12 : decode cX11_turn 12 = .ok (.getfield 111, 3) := by decide +kernel
theorem dX11_turn_15 : decode cX11_turn 15 = .ok (.ireturn, 1) := by decide +kernel
theorem dX11_turn_16 : decode cX11_turn 16 = .ok (.aload_n 0, 1) := by decide +kernel
theorem dX11_turn_17 : decode cX11_turn 17 = .ok (.iload_n 1, 1) := by decide +kernel
theorem dX11_turn_18 : decode cX11_turn 18 = .ok (.invokevirtual 262, 3) := by decide +kernel
theorem dX11_turn_21 : decode cX11_turn 21 = .ok (.ifCond .eq 18, 3) := by decide +kernel
theorem dX11_turn_24 : decode cX11_turn 24 = .ok (.aload_n 0, 1) := by decide +kernel
theorem dX11_turn_25 : decode cX11_turn 25 = .ok (.getfield 10, 3) := by decide +kernel
theorem dX11_turn_28 : decode cX11_turn 28 = .ok (.getfield 108, 3) := by decide +kernel
theorem dX11_turn_31 : decode cX11_turn 31 = .ok (.iload_n 1, 1) := by decide +kernel
theorem dX11_turn_32 : decode cX11_turn 32 = .ok (.iload_n 2, 1) := by decide +kernel
theorem dX11_turn_33 : decode cX11_turn 33 = .ok (.invokevirtual 265, 3) := by decide +kernel
theorem dX11_turn_36 : decode cX11_turn 36 = .ok (.goto 5, 3) := by decide +kernel
theorem dX11_turn_39 : decode cX11_turn 39 = .ok (.bipush (-2), 2) := by decide +kernel
theorem dX11_turn_41 : decode cX11_turn 41 = .ok (.ireturn, 1) := by decide +kernel
theorem dX11_said_0 : decode cX11_said 0 = .ok (.iload_n 1, 1) := by decide +kernel
theorem dX11_said_1 : decode cX11_said 1 = .ok (.iconst (-1), 1) := by decide +kernel
theorem dX11_said_2 : decode cX11_said 2 = .ok (.if_icmp .ne 14, 3) := by decide +kernel
theorem dX11_said_5 : decode cX11_said 5 = .ok (.aload_n 0, 1) := by decide +kernel
theorem dX11_said_6 : decode cX11_said 6 = .ok (.getfield 10, 3) := by decide +kernel
theorem dX11_said_9 : decode cX11_said 9 = .ok (.getfield 82, 3) := by decide +kernel
theorem dX11_said_12 : decode cX11_said 12 = .ok (.getfield 140, 3) := by decide +kernel
theorem dX11_said_15 : decode cX11_said 15 = .ok (.ireturn, 1) := by decide +kernel
theorem dX11_said_16 : decode cX11_said 16 = .ok (.iload_n 1, 1) := by decide +kernel
theorem dX11_said_17 : decode cX11_said 17 = .ok (.iconst 0, 1) := by decide +kernel
theorem dX11_said_18 : decode cX11_said 18 = .ok (.aload_n 0, 1) := by decide +kernel
theorem dX11_said_19 : decode cX11_said 19 = .ok (.getfield 10, 3) := by decide +kernel
theorem dX11_said_22 : decode cX11_said 22 = .ok (.getfield 82, 3) := by decide +kernel
theorem dX11_said_25 : decode cX11_said 25 = .ok (.getfield 140, 3) := by decide +kernel
theorem dX11_said_28 : decode cX11_said 28 = .ok (.iconst 1, 1) := by decide +kernel
theorem dX11_said_29 : decode cX11_said 29 = .ok (.isub, 1) := by decide +kernel
theorem dX11_said_30 : decode cX11_said 30 = .ok (.invokestatic 56, 3) := by decide +kernel
theorem dX11_said_33 : decode cX11_said 33 = .ok (.ifCond .ne 6, 3) := by decide +kernel
theorem dX11_said_36 : decode cX11_said 36 = .ok (.bipush (-2), 2) := by decide +kernel
theorem dX11_said_38 : decode cX11_said 38 = .ok (.ireturn, 1) := by decide +kernel
theorem dX11_said_39 : decode cX11_said 39 = .ok (.iload_n 2, 1) := by decide +kernel
theorem dX11_said_40 : decode cX11_said 40 = .ok (.bipush 10, 2) := by decide +kernel
theorem dX11_said_42 : decode cX11_said 42 = .ok (.if_icmp .lt 41, 3) := by decide +kernel
theorem dX11_said_45 : decode cX11_said 45 = .ok (.iload_n 2, 1) := by decide +kernel
theorem dX11_said_46 : decode cX11_said 46 = .ok (.bipush 10, 2) := by decide +kernel
theorem dX11_said_48 : decode cX11_said 48 = .ok (.isub, 1) := by decide +kernel
theorem dX11_said_49 : decode cX11_said 49 = .ok (.istore_n 3, 1) := by decide +kernel
theorem dX11_said_50 : decode cX11_said 50 = .ok (.aload_n 0, 1) := by decide +kernel
theorem dX11_said_51 : decode cX11_said 51 = .ok (.iload_n 3, 1) := by decide +kernel
theorem dX11_said_52 : decode cX11_said 52 = .ok (.invokevirtual 105, 3) := by decide +kernel
theorem dX11_said_55 : decode cX11_said 55 = .ok (.ifCond .eq 25, 3) := by decide +kernel
theorem dX11_said_58 : decode cX11_said 58 = .ok (.aload_n 0, 1) := by decide +kernel
theorem dX11_said_59 : decode cX11_said 59 = .ok (.getfield 10, 3) := by decide +kernel
theorem dX11_said_62 : decode cX11_said 62 = .ok (.getfield 108, 3) := by decide +kernel
theorem dX11_said_65 : decode cX11_said 65 = .ok (.iload_n 1, 1) := by decide +kernel
theorem dX11_said_66 : decode cX11_said 66 = .ok (.iload_n 3, 1) := by decide +kernel
theorem dX11_said_67 : decode cX11_said 67 = .ok (.aload_n 0, 1) := by decide +kernel
theorem dX11_said_68 : decode cX11_said 68 = .ok (.getfield 10, 3) := by decide +kernel
theorem dX11_said_71 : decode cX11_said 71 = .ok (.getfield 82, 3) := by decide +kernel
theorem dX11_said_74 : decode cX11_said 74 = .ok (.invokevirtual 268, 3) := by decide +kernel
theorem dX11_said_77 : decode cX11_said 77 = .ok (.goto 5, 3) := by decide +kernel
theorem dX11_said_80 : decode cX11_said 80 = .ok (.bipush (-2), 2) := by decide +kernel
theorem dX11_said_82 : decode cX11_said 82 = .ok (.ireturn, 1) := by decide +kernel
theorem dX11_said_83 : decode cX11_said 83 = .ok (.aload_n 0, 1) := by decide +kernel
theorem dX11_said_84 : decode cX11_said 84 = .ok (.getfield 10, 3) := by decide +kernel
theorem dX11_said_87 : decode cX11_said 87 = .ok (.getfield 108, 3) := by decide +kernel
theorem dX11_said_90 : decode cX11_said 90 = .ok (.iload_n 1, 1) := by decide +kernel
theorem dX11_said_91 : decode cX11_said 91 = .ok (.iload_n 2, 1) := by decide +kernel
theorem dX11_said_92 : decode cX11_said 92 = .ok (.invokevirtual 272, 3) := by decide +kernel
theorem dX11_said_95 : decode cX11_said 95 = .ok (.ireturn, 1) := by decide +kernel
theorem dX11_misjoined_0 : decode cX11_misjoined 0 = .ok (.iconst 0, 1) := by decide +kernel
theorem dX11_misjoined_1 : decode cX11_misjoined 1 = .ok (.istore_n 1, 1) := by decide +kernel
theorem dX11_misjoined_2 : decode cX11_misjoined 2 = .ok (.iconst 0, 1) := by decide +kernel
theorem dX11_misjoined_3 : decode cX11_misjoined 3 = .ok (.istore_n 2, 1) := by decide +kernel
theorem dX11_misjoined_4 : decode cX11_misjoined 4 = .ok (.iload_n 2, 1) := by decide +kernel
theorem dX11_misjoined_5 : decode cX11_misjoined 5 = .ok (.aload_n 0, 1) := by decide +kernel
theorem dX11_misjoined_6 : decode cX11_misjoined 6 = .ok (.getfield 10, 3) := by decide +kernel
theorem dX11_misjoined_9 : decode cX11_misjoined 9 = .ok (.getfield 82, 3) := by decide +kernel
theorem dX11_misjoined_12 : decode cX11_misjoined 12 = .ok (.getfield 140, 3) := by decide +kernel
theorem dX11_misjoined_15 : decode cX11_misjoined 15 = .ok (.if_icmp .ge 33, 3) := by decide +kernel
theorem dX11_misjoined_18 : decode cX11_misjoined 18 = .ok (.aload_n 0, 1) := by decide +kernel
theorem dX11_misjoined_19 : decode cX11_misjoined 19 = .ok (.getfield 10, 3) := by decide +kernel
theorem dX11_misjoined_22 : decode cX11_misjoined 22 = .ok (.getfield 108, 3) := by decide +kernel
theorem dX11_misjoined_25 : decode cX11_misjoined 25 = .ok (.iload_n 2, 1) := by decide +kernel
theorem dX11_misjoined_26 : decode cX11_misjoined 26 = .ok (.aload_n 0, 1) := by decide +kernel
theorem dX11_misjoined_27 : decode cX11_misjoined 27 = .ok (.getfield 10, 3) := by decide +kernel
theorem dX11_misjoined_30 : decode cX11_misjoined 30 = .ok (.getfield 82, 3) := by decide +kernel
theorem dX11_misjoined_33 : decode cX11_misjoined 33 = .ok (.invokevirtual 275, 3) := by decide +kernel
theorem dX11_misjoined_36 : decode cX11_misjoined 36 = .ok (.ifCond .eq 6, 3) := by decide +kernel
theorem dX11_misjoined_39 : decode cX11_misjoined 39 = .ok (.iinc 1 1, 3) := by decide +kernel
theorem dX11_misjoined_42 : decode cX11_misjoined 42 = .ok (.iinc 2 1, 3) := by decide +kernel
theorem dX11_misjoined_45 : decode cX11_misjoined 45 = .ok (.goto (-41), 3) := by decide +kernel
theorem dX11_misjoined_48 : decode cX11_misjoined 48 = .ok (.iload_n 1, 1) := by decide +kernel
theorem dX11_misjoined_49 : decode cX11_misjoined 49 = .ok (.ireturn, 1) := by decide +kernel
theorem dX11_refused_0 : decode cX11_refused 0 = .ok (.iload_n 1, 1) := by decide +kernel
theorem dX11_refused_1 : decode cX11_refused 1 = .ok (.iconst 0, 1) := by decide +kernel
theorem dX11_refused_2 : decode cX11_refused 2 = .ok (.iconst 2, 1) := by decide +kernel
theorem dX11_refused_3 : decode cX11_refused 3 = .ok (.invokestatic 56, 3) := by decide +kernel
theorem dX11_refused_6 : decode cX11_refused 6 = .ok (.ifCond .eq 15, 3) := by decide +kernel
theorem dX11_refused_9 : decode cX11_refused 9 = .ok (.aload_n 0, 1) := by decide +kernel
theorem dX11_refused_10 : decode cX11_refused 10 = .ok (.getfield 10, 3) := by decide +kernel
theorem dX11_refused_13 : decode cX11_refused 13 = .ok (.getfield 279, 3) := by decide +kernel
theorem dX11_refused_16 : decode cX11_refused 16 = .ok (.iload_n 1, 1) := by decide +kernel
theorem dX11_refused_17 : decode cX11_refused 17 = .ok (.iaload, 1) := by decide +kernel
theorem dX11_refused_18 : decode cX11_refused 18 = .ok (.goto 4, 3) := by decide +kernel
theorem dX11_refused_21 : decode cX11_refused 21 = .ok (.iconst (-1), 1) := by decide +kernel
theorem dX11_refused_22 : decode cX11_refused 22 = .ok (.ireturn, 1) := by decide +kernel
theorem dX11_about_0 : decode cX11_about 0 = .ok (.iload_n 1, 1) := by decide +kernel
theorem dX11_about_1 : decode cX11_about 1 = .ok (.tableswitch 153 0 9 #[55, 66, 77, 88, 99, 107, 115, 123, 134, 145], 55) := by decide +kernel
theorem dX11_about_56 : decode cX11_about 56 = .ok (.aload_n 0, 1) := by decide +kernel
theorem dX11_about_57 : decode cX11_about 57 = .ok (.getfield 10, 3) := by decide +kernel
theorem dX11_about_60 : decode cX11_about 60 = .ok (.getfield 64, 3) := by decide +kernel
theorem dX11_about_63 : decode cX11_about 63 = .ok (.getfield 68, 3) := by decide +kernel
theorem dX11_about_66 : decode cX11_about 66 = .ok (.ireturn, 1) := by decide +kernel
theorem dX11_about_67 : decode cX11_about 67 = .ok (.aload_n 0, 1) := by decide +kernel
theorem dX11_about_68 : decode cX11_about 68 = .ok (.getfield 10, 3) := by decide +kernel
theorem dX11_about_71 : decode cX11_about 71 = .ok (.getfield 82, 3) := by decide +kernel
theorem dX11_about_74 : decode cX11_about 74 = .ok (.getfield 127, 3) := by decide +kernel
theorem dX11_about_77 : decode cX11_about 77 = .ok (.ireturn, 1) := by decide +kernel
theorem dX11_about_78 : decode cX11_about 78 = .ok (.aload_n 0, 1) := by decide +kernel
theorem dX11_about_79 : decode cX11_about 79 = .ok (.getfield 10, 3) := by decide +kernel
theorem dX11_about_82 : decode cX11_about 82 = .ok (.getfield 82, 3) := by decide +kernel
theorem dX11_about_85 : decode cX11_about 85 = .ok (.getfield 102, 3) := by decide +kernel
theorem dX11_about_88 : decode cX11_about 88 = .ok (.ireturn, 1) := by decide +kernel
theorem dX11_about_89 : decode cX11_about 89 = .ok (.aload_n 0, 1) := by decide +kernel
theorem dX11_about_90 : decode cX11_about 90 = .ok (.getfield 10, 3) := by decide +kernel
theorem dX11_about_93 : decode cX11_about 93 = .ok (.getfield 82, 3) := by decide +kernel
theorem dX11_about_96 : decode cX11_about 96 = .ok (.getfield 85, 3) := by decide +kernel
theorem dX11_about_99 : decode cX11_about 99 = .ok (.ireturn, 1) := by decide +kernel
theorem dX11_about_100 : decode cX11_about 100 = .ok (.aload_n 0, 1) := by decide +kernel
theorem dX11_about_101 : decode cX11_about 101 = .ok (.getfield 10, 3) := by decide +kernel
theorem dX11_about_104 : decode cX11_about 104 = .ok (.getfield 162, 3) := by decide +kernel
theorem dX11_about_107 : decode cX11_about 107 = .ok (.ireturn, 1) := by decide +kernel
theorem dX11_about_108 : decode cX11_about 108 = .ok (.aload_n 0, 1) := by decide +kernel
theorem dX11_about_109 : decode cX11_about 109 = .ok (.getfield 10, 3) := by decide +kernel
theorem dX11_about_112 : decode cX11_about 112 = .ok (.getfield 171, 3) := by decide +kernel
theorem dX11_about_115 : decode cX11_about 115 = .ok (.ireturn, 1) := by decide +kernel
theorem dX11_about_116 : decode cX11_about 116 = .ok (.aload_n 0, 1) := by decide +kernel
theorem dX11_about_117 : decode cX11_about 117 = .ok (.getfield 10, 3) := by decide +kernel
theorem dX11_about_120 : decode cX11_about 120 = .ok (.getfield 207, 3) := by decide +kernel
theorem dX11_about_123 : decode cX11_about 123 = .ok (.ireturn, 1) := by decide +kernel
theorem dX11_about_124 : decode cX11_about 124 = .ok (.aload_n 0, 1) := by decide +kernel
theorem dX11_about_125 : decode cX11_about 125 = .ok (.getfield 10, 3) := by decide +kernel
theorem dX11_about_128 : decode cX11_about 128 = .ok (.getfield 222, 3) := by decide +kernel
theorem dX11_about_131 : decode cX11_about 131 = .ok (.getfield 226, 3) := by decide +kernel
theorem dX11_about_134 : decode cX11_about 134 = .ok (.ireturn, 1) := by decide +kernel
theorem dX11_about_135 : decode cX11_about 135 = .ok (.aload_n 0, 1) := by decide +kernel
theorem dX11_about_136 : decode cX11_about 136 = .ok (.getfield 10, 3) := by decide +kernel
theorem dX11_about_139 : decode cX11_about 139 = .ok (.getfield 235, 3) := by decide +kernel
theorem dX11_about_142 : decode cX11_about 142 = .ok (.getfield 239, 3) := by decide +kernel
theorem dX11_about_145 : decode cX11_about 145 = .ok (.ireturn, 1) := by decide +kernel
theorem dX11_about_146 : decode cX11_about 146 = .ok (.aload_n 0, 1) := by decide +kernel
theorem dX11_about_147 : decode cX11_about 147 = .ok (.getfield 44, 3) := by decide +kernel
theorem dX11_about_150 : decode cX11_about 150 = .ok (.getfield 155, 3) := by decide +kernel
theorem dX11_about_153 : decode cX11_about 153 = .ok (.ireturn, 1) := by decide +kernel
theorem dX11_about_154 : decode cX11_about 154 = .ok (.bipush (-2), 2) := by decide +kernel
theorem dX11_about_156 : decode cX11_about 156 = .ok (.ireturn, 1) := by decide +kernel
theorem dX11_whose_0 : decode cX11_whose 0 = .ok (.aload_n 0, 1) := by decide +kernel
theorem dX11_whose_1 : decode cX11_whose 1 = .ok (.iload_n 1, 1) := by decide +kernel
theorem dX11_whose_2 : decode cX11_whose 2 = .ok (.invokevirtual 105, 3) := by decide +kernel
theorem dX11_whose_5 : decode cX11_whose 5 = .ok (.ifCond .eq 44, 3) := by decide +kernel
theorem dX11_whose_8 : decode cX11_whose 8 = .ok (.iload_n 2, 1) := by decide +kernel
theorem dX11_whose_9 : decode cX11_whose 9 = .ok (.iconst 0, 1) := by decide +kernel
theorem dX11_whose_10 : decode cX11_whose 10 = .ok (.sipush 9000, 3) := by decide +kernel
theorem dX11_whose_13 : decode cX11_whose 13 = .ok (.invokestatic 56, 3) := by decide +kernel
theorem dX11_whose_16 : decode cX11_whose 16 = .ok (.ifCond .eq 33, 3) := by decide +kernel
theorem dX11_whose_19 : decode cX11_whose 19 = .ok (.iload_n 3, 1) := by decide +kernel
theorem dX11_whose_20 : decode cX11_whose 20 = .ok (.iconst 0, 1) := by decide +kernel
theorem dX11_whose_21 : decode cX11_whose 21 = .ok (.bipush 122, 2) := by decide +kernel
theorem dX11_whose_23 : decode cX11_whose 23 = .ok (.invokestatic 56, 3) := by decide +kernel
theorem dX11_whose_26 : decode cX11_whose 26 = .ok (.ifCond .eq 23, 3) := by decide +kernel
theorem dX11_whose_29 : decode cX11_whose 29 = .ok (.iload 4, 2) := by decide +kernel
theorem dX11_whose_31 : decode cX11_whose 31 = .ok (.iload_n 3, 1) := by decide +kernel
theorem dX11_whose_32 : decode cX11_whose 32 = .ok (.bipush 122, 2) := by decide +kernel
theorem dX11_whose_34 : decode cX11_whose 34 = .ok (.invokestatic 56, 3) := by decide +kernel
theorem dX11_whose_37 : decode cX11_whose 37 = .ok (.ifCond .eq 12, 3) := by decide +kernel
theorem dX11_whose_40 : decode cX11_whose 40 = .ok (.aload_n 0, 1) := by decide +kernel
theorem dX11_whose_41 : decode cX11_whose 41 = .ok (.iload 5, 2) := by decide +kernel
theorem dX11_whose_43 : decode cX11_whose 43 = .ok (.invokevirtual 262, 3) := by decide +kernel
theorem dX11_whose_46 : decode cX11_whose 46 = .ok (.ifCond .ne 5, 3) := by decide +kernel
theorem dX11_whose_49 : decode cX11_whose 49 = .ok (.iconst (-1), 1) := by decide +kernel
theorem dX11_whose_50 : decode cX11_whose 50 = .ok (.ireturn, 1) := by decide +kernel
theorem dX11_whose_51 : decode cX11_whose 51 = .ok (.iconst 0, 1) := by decide +kernel
theorem dX11_whose_52 : decode cX11_whose 52 = .ok (.istore 7, 2) := by decide +kernel
theorem dX11_whose_54 : decode cX11_whose 54 = .ok (.iload_n 3, 1) := by decide +kernel
theorem dX11_whose_55 : decode cX11_whose 55 = .ok (.istore 8, 2) := by decide +kernel
theorem dX11_whose_57 : decode cX11_whose 57 = .ok (.iload 8, 2) := by decide +kernel
theorem dX11_whose_59 : decode cX11_whose 59 = .ok (.iload 4, 2) := by decide +kernel
theorem dX11_whose_61 : decode cX11_whose 61 = .ok (.if_icmp .gt 39, 3) := by decide +kernel
theorem dX11_whose_64 : decode cX11_whose 64 = .ok (.aload_n 0, 1) := by decide +kernel
theorem dX11_whose_65 : decode cX11_whose 65 = .ok (.getfield 10, 3) := by decide +kernel
theorem dX11_whose_68 : decode cX11_whose 68 = .ok (.getfield 108, 3) := by decide +kernel
theorem dX11_whose_71 : decode cX11_whose 71 = .ok (.iload_n 1, 1) := by decide +kernel
theorem dX11_whose_72 : decode cX11_whose 72 = .ok (.iload_n 2, 1) := by decide +kernel
theorem dX11_whose_73 : decode cX11_whose 73 = .ok (.iload 8, 2) := by decide +kernel
theorem dX11_whose_75 : decode cX11_whose 75 = .ok (.isub, 1) := by decide +kernel
theorem dX11_whose_76 : decode cX11_whose 76 = .ok (.aload_n 0, 1) := by decide +kernel
theorem dX11_whose_77 : decode cX11_whose 77 = .ok (.getfield 10, 3) := by decide +kernel
theorem dX11_whose_80 : decode cX11_whose 80 = .ok (.getfield 82, 3) := by decide +kernel
theorem dX11_whose_83 : decode cX11_whose 83 = .ok (.invokevirtual 282, 3) := by decide +kernel
theorem dX11_whose_86 : decode cX11_whose 86 = .ok (.iload 5, 2) := by decide +kernel
theorem dX11_whose_88 : decode cX11_whose 88 = .ok (.if_icmp .ne 6, 3) := by decide +kernel
theorem dX11_whose_91 : decode cX11_whose 91 = .ok (.iinc 7 1, 3) := by decide +kernel
theorem dX11_whose_94 : decode cX11_whose 94 = .ok (.iinc 8 1, 3) := by decide +kernel
theorem dX11_whose_97 : decode cX11_whose 97 = .ok (.goto (-40), 3) := by decide +kernel
theorem dX11_whose_100 : decode cX11_whose 100 = .ok (.iload 7, 2) := by decide +kernel
theorem dX11_whose_102 : decode cX11_whose 102 = .ok (.iload 4, 2) := by decide +kernel
theorem dX11_whose_104 : decode cX11_whose 104 = .ok (.iload_n 3, 1) := by decide +kernel
theorem dX11_whose_105 : decode cX11_whose 105 = .ok (.isub, 1) := by decide +kernel
theorem dX11_whose_106 : decode cX11_whose 106 = .ok (.iconst 1, 1) := by decide +kernel
theorem dX11_whose_107 : decode cX11_whose 107 = .ok (.iadd, 1) := by decide +kernel
theorem dX11_whose_108 : decode cX11_whose 108 = .ok (.iload 6, 2) := by decide +kernel
theorem dX11_whose_110 : decode cX11_whose 110 = .ok (.invokestatic 285, 3) := by decide +kernel
theorem dX11_whose_113 : decode cX11_whose 113 = .ok (.ireturn, 1) := by decide +kernel
theorem dX11_first_0 : decode cX11_first 0 = .ok (.aload_n 0, 1) := by decide +kernel
theorem dX11_first_1 : decode cX11_first 1 = .ok (.iload_n 1, 1) := by decide +kernel
theorem dX11_first_2 : decode cX11_first 2 = .ok (.invokevirtual 262, 3) := by decide +kernel
theorem dX11_first_5 : decode cX11_first 5 = .ok (.ifCond .eq 29, 3) := by decide +kernel
theorem dX11_first_8 : decode cX11_first 8 = .ok (.aload_n 0, 1) := by decide +kernel
theorem dX11_first_9 : decode cX11_first 9 = .ok (.iload_n 2, 1) := by decide +kernel
theorem dX11_first_10 : decode cX11_first 10 = .ok (.invokevirtual 262, 3) := by decide +kernel
theorem dX11_first_13 : decode cX11_first 13 = .ok (.ifCond .eq 21, 3) := by decide +kernel
theorem dX11_first_16 : decode cX11_first 16 = .ok (.iload_n 1, 1) := by decide +kernel
theorem dX11_first_17 : decode cX11_first 17 = .ok (.iload_n 2, 1) := by decide +kernel
theorem dX11_first_18 : decode cX11_first 18 = .ok (.if_icmp .eq 16, 3) := by decide +kernel
theorem dX11_first_21 : decode cX11_first 21 = .ok (.iload_n 3, 1) := by decide +kernel
theorem dX11_first_22 : decode cX11_first 22 = .ok (.iconst (-1), 1) := by decide +kernel
theorem dX11_first_23 : decode cX11_first 23 = .ok (.if_icmp .eq 13, 3) := by decide +kernel
theorem dX11_first_26 : decode cX11_first 26 = .ok (.aload_n 0, 1) := by decide +kernel
theorem dX11_first_27 : decode cX11_first 27 = .ok (.iload_n 3, 1) := by decide +kernel
theorem dX11_first_28 : decode cX11_first 28 = .ok (.invokevirtual 105, 3) := by decide +kernel
theorem dX11_first_31 : decode cX11_first 31 = .ok (.ifCond .ne 5, 3) := by decide +kernel
theorem dX11_first_34 : decode cX11_first 34 = .ok (.iconst (-1), 1) := by decide +kernel
theorem dX11_first_35 : decode cX11_first 35 = .ok (.ireturn, 1) := by decide +kernel
theorem dX11_first_36 : decode cX11_first 36 = .ok (.aload_n 0, 1) := by decide +kernel
theorem dX11_first_37 : decode cX11_first 37 = .ok (.getfield 10, 3) := by decide +kernel
theorem dX11_first_40 : decode cX11_first 40 = .ok (.getfield 108, 3) := by decide +kernel
theorem dX11_first_43 : decode cX11_first 43 = .ok (.iload_n 1, 1) := by decide +kernel
theorem dX11_first_44 : decode cX11_first 44 = .ok (.iload_n 3, 1) := by decide +kernel
theorem dX11_first_45 : decode cX11_first 45 = .ok (.aload_n 0, 1) := by decide +kernel
theorem dX11_first_46 : decode cX11_first 46 = .ok (.getfield 10, 3) := by decide +kernel
theorem dX11_first_49 : decode cX11_first 49 = .ok (.getfield 82, 3) := by decide +kernel
theorem dX11_first_52 : decode cX11_first 52 = .ok (.invokevirtual 289, 3) := by decide +kernel
theorem dX11_first_55 : decode cX11_first 55 = .ok (.istore 4, 2) := by decide +kernel
theorem dX11_first_57 : decode cX11_first 57 = .ok (.aload_n 0, 1) := by decide +kernel
theorem dX11_first_58 : decode cX11_first 58 = .ok (.getfield 10, 3) := by decide +kernel
theorem dX11_first_61 : decode cX11_first 61 = .ok (.getfield 108, 3) := by decide +kernel
theorem dX11_first_64 : decode cX11_first 64 = .ok (.iload_n 2, 1) := by decide +kernel
theorem dX11_first_65 : decode cX11_first 65 = .ok (.iload_n 3, 1) := by decide +kernel
theorem dX11_first_66 : decode cX11_first 66 = .ok (.aload_n 0, 1) := by decide +kernel
theorem dX11_first_67 : decode cX11_first 67 = .ok (.getfield 10, 3) := by decide +kernel
theorem dX11_first_70 : decode cX11_first 70 = .ok (.getfield 82, 3) := by decide +kernel
theorem dX11_first_73 : decode cX11_first 73 = .ok (.invokevirtual 289, 3) := by decide +kernel
theorem dX11_first_76 : decode cX11_first 76 = .ok (.istore 5, 2) := by decide +kernel
theorem dX11_first_78 : decode cX11_first 78 = .ok (.iload 4, 2) := by decide +kernel
theorem dX11_first_80 : decode cX11_first 80 = .ok (.iload 5, 2) := by decide +kernel
theorem dX11_first_82 : decode cX11_first 82 = .ok (.if_icmp .ne 6, 3) := by decide +kernel
theorem dX11_first_85 : decode cX11_first 85 = .ok (.bipush (-2), 2) := by decide +kernel
theorem dX11_first_87 : decode cX11_first 87 = .ok (.ireturn, 1) := by decide +kernel
theorem dX11_first_88 : decode cX11_first 88 = .ok (.iload 4, 2) := by decide +kernel
theorem dX11_first_90 : decode cX11_first 90 = .ok (.iload 5, 2) := by decide +kernel
theorem dX11_first_92 : decode cX11_first 92 = .ok (.if_icmp .ge 7, 3) := by decide +kernel
theorem dX11_first_95 : decode cX11_first 95 = .ok (.iload_n 1, 1) := by decide +kernel
theorem dX11_first_96 : decode cX11_first 96 = .ok (.goto 4, 3) := by decide +kernel
theorem dX11_first_99 : decode cX11_first 99 = .ok (.iload_n 2, 1) := by decide +kernel
theorem dX11_first_100 : decode cX11_first 100 = .ok (.ireturn, 1) := by decide +kernel
theorem dX11_cold_0 : decode cX11_cold 0 = .ok (.aload_n 0, 1) := by decide +kernel
theorem dX11_cold_1 : decode cX11_cold 1 = .ok (.iload_n 1, 1) := by decide +kernel
theorem dX11_cold_2 : decode cX11_cold 2 = .ok (.iload_n 2, 1) := by decide +kernel
theorem dX11_cold_3 : decode cX11_cold 3 = .ok (.invokevirtual 88, 3) := by decide +kernel
theorem dX11_cold_6 : decode cX11_cold 6 = .ok (.ifCond .ne 5, 3) := by decide +kernel
theorem dX11_cold_9 : decode cX11_cold 9 = .ok (.iconst (-1), 1) := by decide +kernel
theorem dX11_cold_10 : decode cX11_cold 10 = .ok (.ireturn, 1) := by decide +kernel
theorem dX11_cold_11 : decode cX11_cold 11 = .ok (.iload_n 3, 1) := by decide +kernel
theorem dX11_cold_12 : decode cX11_cold 12 = .ok (.ifCond .eq 31, 3) := by decide +kernel
theorem dX11_cold_15 : decode cX11_cold 15 = .ok (.aload_n 0, 1) := by decide +kernel
theorem dX11_cold_16 : decode cX11_cold 16 = .ok (.getfield 10, 3) := by decide +kernel
theorem dX11_cold_19 : decode cX11_cold 19 = .ok (.getfield 82, 3) := by decide +kernel
theorem dX11_cold_22 : decode cX11_cold 22 = .ok (.iload_n 1, 1) := by decide +kernel
theorem dX11_cold_23 : decode cX11_cold 23 = .ok (.iload_n 2, 1) := by decide +kernel
theorem dX11_cold_24 : decode cX11_cold 24 = .ok (.invokevirtual 292, 3) := by decide +kernel
theorem dX11_cold_27 : decode cX11_cold 27 = .ok (.aload_n 0, 1) := by decide +kernel
theorem dX11_cold_28 : decode cX11_cold 28 = .ok (.getfield 10, 3) := by decide +kernel
theorem dX11_cold_31 : decode cX11_cold 31 = .ok (.getfield 82, 3) := by decide +kernel
theorem dX11_cold_34 : decode cX11_cold 34 = .ok (.iload_n 2, 1) := by decide +kernel
theorem dX11_cold_35 : decode cX11_cold 35 = .ok (.iload_n 1, 1) := by decide +kernel
theorem dX11_cold_36 : decode cX11_cold 36 = .ok (.invokevirtual 292, 3) := by decide +kernel
theorem dX11_cold_39 : decode cX11_cold 39 = .ok (.iadd, 1) := by decide +kernel
theorem dX11_cold_40 : decode cX11_cold 40 = .ok (.goto 4, 3) := by decide +kernel
theorem dX11_cold_43 : decode cX11_cold 43 = .ok (.iconst 0, 1) := by decide +kernel
theorem dX11_cold_44 : decode cX11_cold 44 = .ok (.istore 4, 2) := by decide +kernel
theorem dX11_cold_46 : decode cX11_cold 46 = .ok (.iconst 0, 1) := by decide +kernel
theorem dX11_cold_47 : decode cX11_cold 47 = .ok (.istore 5, 2) := by decide +kernel
theorem dX11_cold_49 : decode cX11_cold 49 = .ok (.iconst 0, 1) := by decide +kernel
theorem dX11_cold_50 : decode cX11_cold 50 = .ok (.istore 6, 2) := by decide +kernel
theorem dX11_cold_52 : decode cX11_cold 52 = .ok (.iload 6, 2) := by decide +kernel
theorem dX11_cold_54 : decode cX11_cold 54 = .ok (.aload_n 0, 1) := by decide +kernel
theorem dX11_cold_55 : decode cX11_cold 55 = .ok (.getfield 10, 3) := by decide +kernel
theorem dX11_cold_58 : decode cX11_cold 58 = .ok (.getfield 82, 3) := by decide +kernel
theorem dX11_cold_61 : decode cX11_cold 61 = .ok (.getfield 111, 3) := by decide +kernel
theorem dX11_cold_64 : decode cX11_cold 64 = .ok (.if_icmp .ge 74, 3) := by decide +kernel
theorem dX11_cold_67 : decode cX11_cold 67 = .ok (.aload_n 0, 1) := by decide +kernel
theorem dX11_cold_68 : decode cX11_cold 68 = .ok (.getfield 10, 3) := by decide +kernel
theorem dX11_cold_71 : decode cX11_cold 71 = .ok (.getfield 108, 3) := by decide +kernel
theorem dX11_cold_74 : decode cX11_cold 74 = .ok (.iload 6, 2) := by decide +kernel
theorem dX11_cold_76 : decode cX11_cold 76 = .ok (.iload_n 1, 1) := by decide +kernel
theorem dX11_cold_77 : decode cX11_cold 77 = .ok (.iload_n 2, 1) := by decide +kernel
theorem dX11_cold_78 : decode cX11_cold 78 = .ok (.aload_n 0, 1) := by decide +kernel
theorem dX11_cold_79 : decode cX11_cold 79 = .ok (.getfield 10, 3) := by decide +kernel
theorem dX11_cold_82 : decode cX11_cold 82 = .ok (.getfield 82, 3) := by decide +kernel
theorem dX11_cold_85 : decode cX11_cold 85 = .ok (.invokevirtual 295, 3) := by decide +kernel
theorem dX11_cold_88 : decode cX11_cold 88 = .ok (.istore 7, 2) := by decide +kernel
theorem dX11_cold_90 : decode cX11_cold 90 = .ok (.iload 7, 2) := by decide +kernel
theorem dX11_cold_92 : decode cX11_cold 92 = .ok (.iconst (-1), 1) := by decide +kernel
theorem dX11_cold_93 : decode cX11_cold 93 = .ok (.if_icmp .eq 39, 3) := by decide +kernel
theorem dX11_cold_96 : decode cX11_cold 96 = .ok (.iload 5, 2) := by decide +kernel
theorem dX11_cold_98 : decode cX11_cold 98 = .ok (.aload_n 0, 1) := by decide +kernel
theorem dX11_cold_99 : decode cX11_cold 99 = .ok (.invokevirtual 147, 3) := by decide +kernel
theorem dX11_cold_102 : decode cX11_cold 102 = .ok (.iload_n 1, 1) := by decide +kernel
theorem dX11_cold_103 : decode cX11_cold 103 = .ok (.iconst 0, 1) := by decide +kernel
theorem dX11_cold_104 : decode cX11_cold 104 = .ok (.iload 7, 2) := by decide +kernel
theorem dX11_cold_106 : decode cX11_cold 106 = .ok (.iload 4, 2) := by decide +kernel
theorem dX11_cold_108 : decode cX11_cold 108 = .ok (.isub, 1) := by decide +kernel
theorem dX11_cold_109 : decode cX11_cold 109 = .ok (.invokestatic 299, 3) := by decide +kernel
theorem dX11_cold_112 : decode cX11_cold 112 = .ok (.aload_n 0, 1) := by decide +kernel
theorem dX11_cold_113 : decode cX11_cold 113 = .ok (.getfield 10, 3) := by decide +kernel
theorem dX11_cold_116 : decode cX11_cold 116 = .ok (.getfield 64, 3) := by decide +kernel
theorem dX11_cold_119 : decode cX11_cold 119 = .ok (.aload_n 0, 1) := by decide +kernel
theorem dX11_cold_120 : decode cX11_cold 120 = .ok (.getfield 10, 3) := by decide +kernel
theorem dX11_cold_123 : decode cX11_cold 123 = .ok (.getfield 82, 3) := by decide +kernel
theorem dX11_cold_126 : decode cX11_cold 126 = .ok (.invokevirtual 304, 3) := by decide +kernel
theorem dX11_cold_129 : decode cX11_cold 129 = .ok (.iadd, 1) := by decide +kernel
theorem dX11_cold_130 : decode cX11_cold 130 = .ok (.istore 5, 2) := by decide +kernel
theorem dX11_cold_132 : decode cX11_cold 132 = .ok (.iinc 6 1, 3) := by decide +kernel
theorem dX11_cold_135 : decode cX11_cold 135 = .ok (.goto (-83), 3) := by decide +kernel
theorem dX11_cold_138 : decode cX11_cold 138 = .ok (.iload 5, 2) := by decide +kernel
theorem dX11_cold_140 : decode cX11_cold 140 = .ok (.ireturn, 1) := by decide +kernel
theorem dX11_haste_0 : decode cX11_haste 0 = .ok (.aload_n 0, 1) := by decide +kernel
theorem dX11_haste_1 : decode cX11_haste 1 = .ok (.iload_n 1, 1) := by decide +kernel
theorem dX11_haste_2 : decode cX11_haste 2 = .ok (.iload_n 2, 1) := by decide +kernel
theorem dX11_haste_3 : decode cX11_haste 3 = .ok (.invokevirtual 88, 3) := by decide +kernel
theorem dX11_haste_6 : decode cX11_haste 6 = .ok (.ifCond .ne 5, 3) := by decide +kernel
theorem dX11_haste_9 : decode cX11_haste 9 = .ok (.iconst (-1), 1) := by decide +kernel
theorem dX11_haste_10 : decode cX11_haste 10 = .ok (.ireturn, 1) := by decide +kernel
theorem dX11_haste_11 : decode cX11_haste 11 = .ok (.iconst 0, 1) := by decide +kernel
theorem dX11_haste_12 : decode cX11_haste 12 = .ok (.istore 4, 2) := by decide +kernel
theorem dX11_haste_14 : decode cX11_haste 14 = .ok (.iconst 0, 1) := by decide +kernel
theorem dX11_haste_15 : decode cX11_haste 15 = .ok (.istore 5, 2) := by decide +kernel
theorem dX11_haste_17 : decode cX11_haste 17 = .ok (.iload 5, 2) := by decide +kernel
theorem dX11_haste_19 : decode cX11_haste 19 = .ok (.aload_n 0, 1) := by decide +kernel
theorem dX11_haste_20 : decode cX11_haste 20 = .ok (.getfield 10, 3) := by decide +kernel
theorem dX11_haste_23 : decode cX11_haste 23 = .ok (.getfield 82, 3) := by decide +kernel
theorem dX11_haste_26 : decode cX11_haste 26 = .ok (.getfield 111, 3) := by decide +kernel
theorem dX11_haste_29 : decode cX11_haste 29 = .ok (.if_icmp .ge 131, 3) := by decide +kernel
theorem dX11_haste_32 : decode cX11_haste 32 = .ok (.aload_n 0, 1) := by decide +kernel
theorem dX11_haste_33 : decode cX11_haste 33 = .ok (.getfield 10, 3) := by decide +kernel
theorem dX11_haste_36 : decode cX11_haste 36 = .ok (.getfield 108, 3) := by decide +kernel
theorem dX11_haste_39 : decode cX11_haste 39 = .ok (.iload 5, 2) := by decide +kernel
theorem dX11_haste_41 : decode cX11_haste 41 = .ok (.iload_n 1, 1) := by decide +kernel
theorem dX11_haste_42 : decode cX11_haste 42 = .ok (.iload_n 2, 1) := by decide +kernel
theorem dX11_haste_43 : decode cX11_haste 43 = .ok (.aload_n 0, 1) := by decide +kernel
theorem dX11_haste_44 : decode cX11_haste 44 = .ok (.getfield 10, 3) := by decide +kernel
theorem dX11_haste_47 : decode cX11_haste 47 = .ok (.getfield 82, 3) := by decide +kernel
theorem dX11_haste_50 : decode cX11_haste 50 = .ok (.invokevirtual 308, 3) := by decide +kernel
theorem dX11_haste_53 : decode cX11_haste 53 = .ok (.istore 6, 2) := by decide +kernel
theorem dX11_haste_55 : decode cX11_haste 55 = .ok (.iload 6, 2) := by decide +kernel
theorem dX11_haste_57 : decode cX11_haste 57 = .ok (.iconst (-1), 1) := by decide +kernel
theorem dX11_haste_58 : decode cX11_haste 58 = .ok (.if_icmp .eq 96, 3) := by decide +kernel
theorem dX11_haste_61 : decode cX11_haste 61 = .ok (.iload_n 3, 1) := by decide +kernel
theorem dX11_haste_62 : decode cX11_haste 62 = .ok (.ifCond .eq 27, 3) := by decide +kernel
theorem dX11_haste_65 : decode cX11_haste 65 = .ok (.aload_n 0, 1) := by decide +kernel
theorem dX11_haste_66 : decode cX11_haste 66 = .ok (.getfield 10, 3) := by decide +kernel
theorem dX11_haste_69 : decode cX11_haste 69 = .ok (.getfield 108, 3) := by decide +kernel
theorem dX11_haste_72 : decode cX11_haste 72 = .ok (.iload 5, 2) := by decide +kernel
theorem dX11_haste_74 : decode cX11_haste 74 = .ok (.iload 6, 2) := by decide +kernel
theorem dX11_haste_76 : decode cX11_haste 76 = .ok (.aload_n 0, 1) := by decide +kernel
theorem dX11_haste_77 : decode cX11_haste 77 = .ok (.getfield 10, 3) := by decide +kernel
theorem dX11_haste_80 : decode cX11_haste 80 = .ok (.getfield 82, 3) := by decide +kernel
theorem dX11_haste_83 : decode cX11_haste 83 = .ok (.invokevirtual 311, 3) := by decide +kernel
theorem dX11_haste_86 : decode cX11_haste 86 = .ok (.ifCond .eq 68, 3) := by decide +kernel
theorem dX11_haste_89 : decode cX11_haste 89 = .ok (.aload_n 0, 1) := by decide +kernel
theorem dX11_haste_90 : decode cX11_haste 90 = .ok (.getfield 10, 3) := by decide +kernel
theorem dX11_haste_93 : decode cX11_haste 93 = .ok (.getfield 108, 3) := by decide +kernel
theorem dX11_haste_96 : decode cX11_haste 96 = .ok (.iload 5, 2) := by decide +kernel
theorem dX11_haste_98 : decode cX11_haste 98 = .ok (.iload_n 2, 1) := by decide +kernel
theorem dX11_haste_99 : decode cX11_haste 99 = .ok (.aload_n 0, 1) := by decide +kernel
theorem dX11_haste_100 : decode cX11_haste 100 = .ok (.getfield 10, 3) := by decide +kernel
theorem dX11_haste_103 : decode cX11_haste 103 = .ok (.getfield 82, 3) := by decide +kernel
theorem dX11_haste_106 : decode cX11_haste 106 = .ok (.invokevirtual 289, 3) := by decide +kernel
theorem dX11_haste_109 : decode cX11_haste 109 = .ok (.aload_n 0, 1) := by decide +kernel
theorem dX11_haste_110 : decode cX11_haste 110 = .ok (.getfield 10, 3) := by decide +kernel
theorem dX11_haste_113 : decode cX11_haste 113 = .ok (.getfield 108, 3) := by decide +kernel
theorem dX11_haste_116 : decode cX11_haste 116 = .ok (.getfield 315, 3) := by decide +kernel
theorem dX11_haste_119 : decode cX11_haste 119 = .ok (.iload 6, 2) := by decide +kernel
theorem dX11_haste_121 : decode cX11_haste 121 = .ok (.iaload, 1) := by decide +kernel
theorem dX11_haste_122 : decode cX11_haste 122 = .ok (.isub, 1) := by decide +kernel
theorem dX11_haste_123 : decode cX11_haste 123 = .ok (.istore 7, 2) := by decide +kernel
theorem dX11_haste_125 : decode cX11_haste 125 = .ok (.iload 4, 2) := by decide +kernel
theorem dX11_haste_127 : decode cX11_haste 127 = .ok (.aload_n 0, 1) := by decide +kernel
theorem dX11_haste_128 : decode cX11_haste 128 = .ok (.invokevirtual 147, 3) := by decide +kernel
theorem dX11_haste_131 : decode cX11_haste 131 = .ok (.iload_n 1, 1) := by decide +kernel
theorem dX11_haste_132 : decode cX11_haste 132 = .ok (.iload 7, 2) := by decide +kernel
theorem dX11_haste_134 : decode cX11_haste 134 = .ok (.aload_n 0, 1) := by decide +kernel
theorem dX11_haste_135 : decode cX11_haste 135 = .ok (.getfield 10, 3) := by decide +kernel
theorem dX11_haste_138 : decode cX11_haste 138 = .ok (.getfield 64, 3) := by decide +kernel
theorem dX11_haste_141 : decode cX11_haste 141 = .ok (.aload_n 0, 1) := by decide +kernel
theorem dX11_haste_142 : decode cX11_haste 142 = .ok (.getfield 10, 3) := by decide +kernel
theorem dX11_haste_145 : decode cX11_haste 145 = .ok (.getfield 82, 3) := by decide +kernel
theorem dX11_haste_148 : decode cX11_haste 148 = .ok (.invokevirtual 318, 3) := by decide +kernel
theorem dX11_haste_151 : decode cX11_haste 151 = .ok (.iadd, 1) := by decide +kernel
theorem dX11_haste_152 : decode cX11_haste 152 = .ok (.istore 4, 2) := by decide +kernel
theorem dX11_haste_154 : decode cX11_haste 154 = .ok (.iinc 5 1, 3) := by decide +kernel
theorem dX11_haste_157 : decode cX11_haste 157 = .ok (.goto (-140), 3) := by decide +kernel
theorem dX11_haste_160 : decode cX11_haste 160 = .ok (.iload 4, 2) := by decide +kernel
theorem dX11_haste_162 : decode cX11_haste 162 = .ok (.ireturn, 1) := by decide +kernel
theorem dX11_rules_0 : decode cX11_rules 0 = .ok (.iload_n 1, 1) := by decide +kernel
theorem dX11_rules_1 : decode cX11_rules 1 = .ok (.iconst 0, 1) := by decide +kernel
theorem dX11_rules_2 : decode cX11_rules 2 = .ok (.iconst 3, 1) := by decide +kernel
theorem dX11_rules_3 : decode cX11_rules 3 = .ok (.invokestatic 56, 3) := by decide +kernel
theorem dX11_rules_6 : decode cX11_rules 6 = .ok (.ifCond .eq 14, 3) := by decide +kernel
theorem dX11_rules_9 : decode cX11_rules 9 = .ok (.iload_n 2, 1) := by decide +kernel
theorem dX11_rules_10 : decode cX11_rules 10 = .ok (.iconst 1, 1) := by decide +kernel
theorem dX11_rules_11 : decode cX11_rules 11 = .ok (.sipush 3000, 3) := by decide +kernel
theorem dX11_rules_14 : decode cX11_rules 14 = .ok (.invokestatic 56, 3) := by decide +kernel
theorem dX11_rules_17 : decode cX11_rules 17 = .ok (.ifCond .ne 5, 3) := by decide +kernel
theorem dX11_rules_20 : decode cX11_rules 20 = .ok (.iconst (-1), 1) := by decide +kernel
theorem dX11_rules_21 : decode cX11_rules 21 = .ok (.ireturn, 1) := by decide +kernel
theorem dX11_rules_22 : decode cX11_rules 22 = .ok (.aload_n 0, 1) := by decide +kernel
theorem dX11_rules_23 : decode cX11_rules 23 = .ok (.iload_n 1, 1) := by decide +kernel
theorem dX11_rules_24 : decode cX11_rules 24 = .ok (.iload_n 2, 1) := by decide +kernel
theorem dX11_rules_25 : decode cX11_rules 25 = .ok (.invokevirtual 321, 3) := by decide +kernel
theorem dX11_rules_28 : decode cX11_rules 28 = .ok (.iload_n 3, 1) := by decide +kernel
theorem dX11_rules_29 : decode cX11_rules 29 = .ok (.ifCond .eq 13, 3) := by decide +kernel
theorem dX11_rules_32 : decode cX11_rules 32 = .ok (.aload_n 0, 1) := by decide +kernel
theorem dX11_rules_33 : decode cX11_rules 33 = .ok (.getfield 22, 3) := by decide +kernel
theorem dX11_rules_36 : decode cX11_rules 36 = .ok (.getfield 256, 3) := by decide +kernel
theorem dX11_rules_39 : decode cX11_rules 39 = .ok (.goto 10, 3) := by decide +kernel
theorem dX11_rules_42 : decode cX11_rules 42 = .ok (.aload_n 0, 1) := by decide +kernel
theorem dX11_rules_43 : decode cX11_rules 43 = .ok (.getfield 22, 3) := by decide +kernel
theorem dX11_rules_46 : decode cX11_rules 46 = .ok (.getfield 259, 3) := by decide +kernel
theorem dX11_rules_49 : decode cX11_rules 49 = .ok (.invokestatic 324, 3) := by decide +kernel
theorem dX11_rules_52 : decode cX11_rules 52 = .ok (.ireturn, 1) := by decide +kernel
theorem dX11_bestRule_0 : decode cX11_bestRule 0 = .ok (.iload_n 1, 1) := by decide +kernel
theorem dX11_bestRule_1 : decode cX11_bestRule 1 = .ok (.iconst 1, 1) := by decide +kernel
theorem dX11_bestRule_2 : decode cX11_bestRule 2 = .ok (.sipush 3000, 3) := by decide +kernel
theorem dX11_bestRule_5 : decode cX11_bestRule 5 = .ok (.invokestatic 56, 3) := by decide +kernel
theorem dX11_bestRule_8 : decode cX11_bestRule 8 = .ok (.ifCond .ne 5, 3) := by decide +kernel
theorem dX11_bestRule_11 : decode cX11_bestRule 11 = .ok (.iconst (-1), 1) := by decide +kernel
theorem dX11_bestRule_12 : decode cX11_bestRule 12 = .ok (.ireturn, 1) := by decide +kernel
theorem dX11_bestRule_13 : decode cX11_bestRule 13 = .ok (.iconst (-1), 1) := by decide +kernel
theorem dX11_bestRule_14 : decode cX11_bestRule 14 = .ok (.istore_n 2, 1) := by decide +kernel
theorem dX11_bestRule_15 : decode cX11_bestRule 15 = .ok (.iconst 0, 1) := by decide +kernel
theorem dX11_bestRule_16 : decode cX11_bestRule 16 = .ok (.istore_n 3, 1) := by decide +kernel
theorem dX11_bestRule_17 : decode cX11_bestRule 17 = .ok (.iconst 0, 1) := by decide +kernel
theorem dX11_bestRule_18 : decode cX11_bestRule 18 = .ok (.istore 4, 2) := by decide +kernel
theorem dX11_bestRule_20 : decode cX11_bestRule 20 = .ok (.iconst 0, 1) := by decide +kernel
theorem dX11_bestRule_21 : decode cX11_bestRule 21 = .ok (.istore 5, 2) := by decide +kernel
theorem dX11_bestRule_23 : decode cX11_bestRule 23 = .ok (.iload 5, 2) := by decide +kernel
theorem dX11_bestRule_25 : decode cX11_bestRule 25 = .ok (.iconst 3, 1) := by decide +kernel
theorem dX11_bestRule_26 : decode cX11_bestRule 26 = .ok (.if_icmp .gt 74, 3) := by decide +kernel
theorem dX11_bestRule_29 : decode cX11_bestRule 29 = .ok (.aload_n 0, 1) := by decide +kernel
theorem dX11_bestRule_30 : decode cX11_bestRule 30 = .ok (.iload 5, 2) := by decide +kernel
theorem dX11_bestRule_32 : decode cX11_bestRule 32 = .ok (.iload_n 1, 1) := by decide +kernel
theorem dX11_bestRule_33 : decode cX11_bestRule 33 = .ok (.invokevirtual 321, 3) := by decide +kernel
theorem dX11_bestRule_36 : decode cX11_bestRule 36 = .ok (.aload_n 0, 1) := by decide +kernel
theorem dX11_bestRule_37 : decode cX11_bestRule 37 = .ok (.getfield 22, 3) := by decide +kernel
theorem dX11_bestRule_40 : decode cX11_bestRule 40 = .ok (.getfield 259, 3) := by decide +kernel
theorem dX11_bestRule_43 : decode cX11_bestRule 43 = .ok (.invokestatic 324, 3) := by decide +kernel
theorem dX11_bestRule_46 : decode cX11_bestRule 46 = .ok (.istore 6, 2) := by decide +kernel
theorem dX11_bestRule_48 : decode cX11_bestRule 48 = .ok (.aload_n 0, 1) := by decide +kernel
theorem dX11_bestRule_49 : decode cX11_bestRule 49 = .ok (.getfield 22, 3) := by decide +kernel
theorem dX11_bestRule_52 : decode cX11_bestRule 52 = .ok (.getfield 256, 3) := by decide +kernel
theorem dX11_bestRule_55 : decode cX11_bestRule 55 = .ok (.invokestatic 324, 3) := by decide +kernel
theorem dX11_bestRule_58 : decode cX11_bestRule 58 = .ok (.istore 7, 2) := by decide +kernel
theorem dX11_bestRule_60 : decode cX11_bestRule 60 = .ok (.iload_n 2, 1) := by decide +kernel
theorem dX11_bestRule_61 : decode cX11_bestRule 61 = .ok (.iconst (-1), 1) := by decide +kernel
theorem dX11_bestRule_62 : decode cX11_bestRule 62 = .ok (.if_icmp .eq 22, 3) := by decide +kernel
theorem dX11_bestRule_65 : decode cX11_bestRule 65 = .ok (.iload 6, 2) := by decide +kernel
theorem dX11_bestRule_67 : decode cX11_bestRule 67 = .ok (.iload_n 3, 1) := by decide +kernel
theorem dX11_bestRule_68 : decode cX11_bestRule 68 = .ok (.if_icmp .gt 16, 3) := by decide +kernel
theorem dX11_bestRule_71 : decode cX11_bestRule 71 = .ok (.iload 6, 2) := by decide +kernel
theorem dX11_bestRule_73 : decode cX11_bestRule 73 = .ok (.iload_n 3, 1) := by decide +kernel
theorem dX11_bestRule_74 : decode cX11_bestRule 74 = .ok (.if_icmp .ne 20, 3) := by decide +kernel
theorem dX11_bestRule_77 : decode cX11_bestRule 77 = .ok (.iload 7, 2) := by decide +kernel
theorem dX11_bestRule_79 : decode cX11_bestRule 79 = .ok (.iload 4, 2) := by decide +kernel
theorem dX11_bestRule_81 : decode cX11_bestRule 81 = .ok (.if_icmp .ge 13, 3) := by decide +kernel
theorem dX11_bestRule_84 : decode cX11_bestRule 84 = .ok (.iload 5, 2) := by decide +kernel
theorem dX11_bestRule_86 : decode cX11_bestRule 86 = .ok (.istore_n 2, 1) := by decide +kernel
theorem dX11_bestRule_87 : decode cX11_bestRule 87 = .ok (.iload 6, 2) := by decide +kernel
theorem dX11_bestRule_89 : decode cX11_bestRule 89 = .ok (.istore_n 3, 1) := by decide +kernel
theorem dX11_bestRule_90 : decode cX11_bestRule 90 = .ok (.iload 7, 2) := by decide +kernel
theorem dX11_bestRule_92 : decode cX11_bestRule 92 = .ok (.istore 4, 2) := by decide +kernel
theorem dX11_bestRule_94 : decode cX11_bestRule 94 = .ok (.iinc 5 1, 3) := by decide +kernel
theorem dX11_bestRule_97 : decode cX11_bestRule 97 = .ok (.goto (-74), 3) := by decide +kernel
theorem dX11_bestRule_100 : decode cX11_bestRule 100 = .ok (.iload_n 2, 1) := by decide +kernel
theorem dX11_bestRule_101 : decode cX11_bestRule 101 = .ok (.ireturn, 1) := by decide +kernel
theorem dX11_pence_0 : decode cX11_pence 0 = .ok (.iload_n 1, 1) := by decide +kernel
theorem dX11_pence_1 : decode cX11_pence 1 = .ok (.iconst 0, 1) := by decide +kernel
theorem dX11_pence_2 : decode cX11_pence 2 = .ok (.sipush 9000, 3) := by decide +kernel
theorem dX11_pence_5 : decode cX11_pence 5 = .ok (.invokestatic 56, 3) := by decide +kernel
theorem dX11_pence_8 : decode cX11_pence 8 = .ok (.ifCond .ne 5, 3) := by decide +kernel
theorem dX11_pence_11 : decode cX11_pence 11 = .ok (.iconst (-1), 1) := by decide +kernel
theorem dX11_pence_12 : decode cX11_pence 12 = .ok (.ireturn, 1) := by decide +kernel
theorem dX11_pence_13 : decode cX11_pence 13 = .ok (.aload_n 0, 1) := by decide +kernel
theorem dX11_pence_14 : decode cX11_pence 14 = .ok (.getfield 10, 3) := by decide +kernel
theorem dX11_pence_17 : decode cX11_pence 17 = .ok (.iload_n 1, 1) := by decide +kernel
theorem dX11_pence_18 : decode cX11_pence 18 = .ok (.sipush 600, 3) := by decide +kernel
theorem dX11_pence_21 : decode cX11_pence 21 = .ok (.iadd, 1) := by decide +kernel
theorem dX11_pence_22 : decode cX11_pence 22 = .ok (.iconst 1, 1) := by decide +kernel
theorem dX11_pence_23 : decode cX11_pence 23 = .ok (.isub, 1) := by decide +kernel
theorem dX11_pence_24 : decode cX11_pence 24 = .ok (.sipush 600, 3) := by decide +kernel
theorem dX11_pence_27 : decode cX11_pence 27 = .ok (.idiv, 1) := by decide +kernel
theorem dX11_pence_28 : decode cX11_pence 28 = .ok (.invokevirtual 328, 3) := by decide +kernel
theorem dX11_pence_31 : decode cX11_pence 31 = .ok (.ireturn, 1) := by decide +kernel
theorem dX11_forPence_0 : decode cX11_forPence 0 = .ok (.iload_n 1, 1) := by decide +kernel
theorem dX11_forPence_1 : decode cX11_forPence 1 = .ok (.iconst 0, 1) := by decide +kernel
theorem dX11_forPence_2 : decode cX11_forPence 2 = .ok (.sipush 9999, 3) := by decide +kernel
theorem dX11_forPence_5 : decode cX11_forPence 5 = .ok (.invokestatic 56, 3) := by decide +kernel
theorem dX11_forPence_8 : decode cX11_forPence 8 = .ok (.ifCond .eq 12, 3) := by decide +kernel
theorem dX11_forPence_11 : decode cX11_forPence 11 = .ok (.iload_n 2, 1) := by decide +kernel
theorem dX11_forPence_12 : decode cX11_forPence 12 = .ok (.iconst 0, 1) := by decide +kernel
theorem dX11_forPence_13 : decode cX11_forPence 13 = .ok (.iconst 3, 1) := by decide +kernel
theorem dX11_forPence_14 : decode cX11_forPence 14 = .ok (.invokestatic 56, 3) := by decide +kernel
theorem dX11_forPence_17 : decode cX11_forPence 17 = .ok (.ifCond .ne 5, 3) := by decide +kernel
theorem dX11_forPence_20 : decode cX11_forPence 20 = .ok (.iconst (-1), 1) := by decide +kernel
theorem dX11_forPence_21 : decode cX11_forPence 21 = .ok (.ireturn, 1) := by decide +kernel
theorem dX11_forPence_22 : decode cX11_forPence 22 = .ok (.iconst 5, 1) := by decide +kernel
theorem dX11_forPence_23 : decode cX11_forPence 23 = .ok (.istore_n 3, 1) := by decide +kernel
theorem dX11_forPence_24 : decode cX11_forPence 24 = .ok (.iload_n 3, 1) := by decide +kernel
theorem dX11_forPence_25 : decode cX11_forPence 25 = .ok (.ifCond .le 21, 3) := by decide +kernel
theorem dX11_forPence_28 : decode cX11_forPence 28 = .ok (.aload_n 0, 1) := by decide +kernel
theorem dX11_forPence_29 : decode cX11_forPence 29 = .ok (.getfield 10, 3) := by decide +kernel
theorem dX11_forPence_32 : decode cX11_forPence 32 = .ok (.iload_n 3, 1) := by decide +kernel
theorem dX11_forPence_33 : decode cX11_forPence 33 = .ok (.invokevirtual 328, 3) := by decide +kernel
theorem dX11_forPence_36 : decode cX11_forPence 36 = .ok (.iload_n 1, 1) := by decide +kernel
theorem dX11_forPence_37 : decode cX11_forPence 37 = .ok (.if_icmp .le 9, 3) := by decide +kernel
theorem dX11_forPence_40 : decode cX11_forPence 40 = .ok (.iinc 3 (-1), 3) := by decide +kernel
theorem dX11_forPence_43 : decode cX11_forPence 43 = .ok (.goto (-19), 3) := by decide +kernel
theorem dX11_forPence_46 : decode cX11_forPence 46 = .ok (.aload_n 0, 1) := by decide +kernel
theorem dX11_forPence_47 : decode cX11_forPence 47 = .ok (.iload_n 2, 1) := by decide +kernel
theorem dX11_forPence_48 : decode cX11_forPence 48 = .ok (.iload_n 3, 1) := by decide +kernel
theorem dX11_forPence_49 : decode cX11_forPence 49 = .ok (.sipush 600, 3) := by decide +kernel
theorem dX11_forPence_52 : decode cX11_forPence 52 = .ok (.imul, 1) := by decide +kernel
theorem dX11_forPence_53 : decode cX11_forPence 53 = .ok (.invokevirtual 321, 3) := by decide +kernel
theorem dX11_forPence_56 : decode cX11_forPence 56 = .ok (.aload_n 0, 1) := by decide +kernel
theorem dX11_forPence_57 : decode cX11_forPence 57 = .ok (.getfield 22, 3) := by decide +kernel
theorem dX11_forPence_60 : decode cX11_forPence 60 = .ok (.getfield 259, 3) := by decide +kernel
theorem dX11_forPence_63 : decode cX11_forPence 63 = .ok (.invokestatic 324, 3) := by decide +kernel
theorem dX11_forPence_66 : decode cX11_forPence 66 = .ok (.ireturn, 1) := by decide +kernel
theorem dX11_comes_0 : decode cX11_comes 0 = .ok (.iload_n 1, 1) := by decide +kernel
theorem dX11_comes_1 : decode cX11_comes 1 = .ok (.iconst 0, 1) := by decide +kernel
theorem dX11_comes_2 : decode cX11_comes 2 = .ok (.bipush 99, 2) := by decide +kernel
theorem dX11_comes_4 : decode cX11_comes 4 = .ok (.invokestatic 56, 3) := by decide +kernel
theorem dX11_comes_7 : decode cX11_comes 7 = .ok (.ifCond .eq 26, 3) := by decide +kernel
theorem dX11_comes_10 : decode cX11_comes 10 = .ok (.iload_n 2, 1) := by decide +kernel
theorem dX11_comes_11 : decode cX11_comes 11 = .ok (.iconst 0, 1) := by decide +kernel
theorem dX11_comes_12 : decode cX11_comes 12 = .ok (.bipush 99, 2) := by decide +kernel
theorem dX11_comes_14 : decode cX11_comes 14 = .ok (.invokestatic 56, 3) := by decide +kernel
theorem dX11_comes_17 : decode cX11_comes 17 = .ok (.ifCond .eq 16, 3) := by decide +kernel
theorem dX11_comes_20 : decode cX11_comes 20 = .ok (.iload_n 3, 1) := by decide +kernel
theorem dX11_comes_21 : decode cX11_comes 21 = .ok (.iload 4, 2) := by decide +kernel
theorem dX11_comes_23 : decode cX11_comes 23 = .ok (.iload 5, 2) := by decide +kernel
theorem dX11_comes_25 : decode cX11_comes 25 = .ok (.iload 6, 2) := by decide +kernel
theorem dX11_comes_27 : decode cX11_comes 27 = .ok (.invokestatic 331, 3) := by decide +kernel
theorem dX11_comes_30 : decode cX11_comes 30 = .ok (.ifCond .ne 5, 3) := by decide +kernel
theorem dX11_comes_33 : decode cX11_comes 33 = .ok (.iconst (-1), 1) := by decide +kernel
theorem dX11_comes_34 : decode cX11_comes 34 = .ok (.ireturn, 1) := by decide +kernel
theorem dX11_comes_35 : decode cX11_comes 35 = .ok (.aload_n 0, 1) := by decide +kernel
theorem dX11_comes_36 : decode cX11_comes 36 = .ok (.invokevirtual 335, 3) := by decide +kernel
theorem dX11_comes_39 : decode cX11_comes 39 = .ok (.astore 7, 2) := by decide +kernel
theorem dX11_comes_41 : decode cX11_comes 41 = .ok (.aload 7, 2) := by decide +kernel
theorem dX11_comes_43 : decode cX11_comes 43 = .ok (.iload_n 3, 1) := by decide +kernel
theorem dX11_comes_44 : decode cX11_comes 44 = .ok (.iload 4, 2) := by decide +kernel
theorem dX11_comes_46 : decode cX11_comes 46 = .ok (.iload 5, 2) := by decide +kernel
theorem dX11_comes_48 : decode cX11_comes 48 = .ok (.iload 6, 2) := by decide +kernel
theorem dX11_comes_50 : decode cX11_comes 50 = .ok (.invokevirtual 339, 3) := by decide +kernel
theorem dX11_comes_53 : decode cX11_comes 53 = .ok (.aload 7, 2) := by decide +kernel
theorem dX11_comes_55 : decode cX11_comes 55 = .ok (.iload_n 1, 1) := by decide +kernel
theorem dX11_comes_56 : decode cX11_comes 56 = .ok (.iload_n 2, 1) := by decide +kernel
theorem dX11_comes_57 : decode cX11_comes 57 = .ok (.invokevirtual 345, 3) := by decide +kernel
theorem dX11_comes_60 : decode cX11_comes 60 = .ok (.ireturn, 1) := by decide +kernel
theorem dX11_apart_0 : decode cX11_apart 0 = .ok (.iload_n 1, 1) := by decide +kernel
theorem dX11_apart_1 : decode cX11_apart 1 = .ok (.iload_n 2, 1) := by decide +kernel
theorem dX11_apart_2 : decode cX11_apart 2 = .ok (.iload_n 3, 1) := by decide +kernel
theorem dX11_apart_3 : decode cX11_apart 3 = .ok (.iload 4, 2) := by decide +kernel
theorem dX11_apart_5 : decode cX11_apart 5 = .ok (.invokestatic 331, 3) := by decide +kernel
theorem dX11_apart_8 : decode cX11_apart 8 = .ok (.ifCond .eq 9, 3) := by decide +kernel
theorem dX11_apart_11 : decode cX11_apart 11 = .ok (.iload 5, 2) := by decide +kernel
theorem dX11_apart_13 : decode cX11_apart 13 = .ok (.iconst (-1), 1) := by decide +kernel
theorem dX11_apart_14 : decode cX11_apart 14 = .ok (.if_icmp .ge 5, 3) := by decide +kernel
theorem dX11_apart_17 : decode cX11_apart 17 = .ok (.iconst (-1), 1) := by decide +kernel
theorem dX11_apart_18 : decode cX11_apart 18 = .ok (.ireturn, 1) := by decide +kernel
theorem dX11_apart_19 : decode cX11_apart 19 = .ok (.aload_n 0, 1) := by decide +kernel
theorem dX11_apart_20 : decode cX11_apart 20 = .ok (.invokevirtual 335, 3) := by decide +kernel
theorem dX11_apart_23 : decode cX11_apart 23 = .ok (.astore 6, 2) := by decide +kernel
theorem dX11_apart_25 : decode cX11_apart 25 = .ok (.aload 6, 2) := by decide +kernel
theorem dX11_apart_27 : decode cX11_apart 27 = .ok (.iload_n 1, 1) := by decide +kernel
theorem dX11_apart_28 : decode cX11_apart 28 = .ok (.iload_n 2, 1) := by decide +kernel
theorem dX11_apart_29 : decode cX11_apart 29 = .ok (.iload_n 3, 1) := by decide +kernel
theorem dX11_apart_30 : decode cX11_apart 30 = .ok (.iload 4, 2) := by decide +kernel
theorem dX11_apart_32 : decode cX11_apart 32 = .ok (.invokevirtual 339, 3) := by decide +kernel
theorem dX11_apart_35 : decode cX11_apart 35 = .ok (.aload 6, 2) := by decide +kernel
theorem dX11_apart_37 : decode cX11_apart 37 = .ok (.invokevirtual 348, 3) := by decide +kernel
theorem dX11_apart_40 : decode cX11_apart 40 = .ok (.iload 5, 2) := by decide +kernel
theorem dX11_apart_42 : decode cX11_apart 42 = .ok (.iconst (-1), 1) := by decide +kernel
theorem dX11_apart_43 : decode cX11_apart 43 = .ok (.if_icmp .ne 9, 3) := by decide +kernel
theorem dX11_apart_46 : decode cX11_apart 46 = .ok (.aload 6, 2) := by decide +kernel
theorem dX11_apart_48 : decode cX11_apart 48 = .ok (.getfield 351, 3) := by decide +kernel
theorem dX11_apart_51 : decode cX11_apart 51 = .ok (.ireturn, 1) := by decide +kernel
theorem dX11_apart_52 : decode cX11_apart 52 = .ok (.iload 5, 2) := by decide +kernel
theorem dX11_apart_54 : decode cX11_apart 54 = .ok (.aload 6, 2) := by decide +kernel
theorem dX11_apart_56 : decode cX11_apart 56 = .ok (.getfield 351, 3) := by decide +kernel
theorem dX11_apart_59 : decode cX11_apart 59 = .ok (.if_icmp .ge 14, 3) := by decide +kernel
theorem dX11_apart_62 : decode cX11_apart 62 = .ok (.aload 6, 2) := by decide +kernel
theorem dX11_apart_64 : decode cX11_apart 64 = .ok (.getfield 354, 3) := by decide +kernel
theorem dX11_apart_67 : decode cX11_apart 67 = .ok (.iload 5, 2) := by decide +kernel
theorem dX11_apart_69 : decode cX11_apart 69 = .ok (.iaload, 1) := by decide +kernel
theorem dX11_apart_70 : decode cX11_apart 70 = .ok (.goto 4, 3) := by decide +kernel
theorem dX11_apart_73 : decode cX11_apart 73 = .ok (.iconst (-1), 1) := by decide +kernel
theorem dX11_apart_74 : decode cX11_apart 74 = .ok (.ireturn, 1) := by decide +kernel
theorem dX11_drawn_0 : decode cX11_drawn 0 = .ok (.iload_n 1, 1) := by decide +kernel
theorem dX11_drawn_1 : decode cX11_drawn 1 = .ok (.iload_n 2, 1) := by decide +kernel
theorem dX11_drawn_2 : decode cX11_drawn 2 = .ok (.invokestatic 357, 3) := by decide +kernel
theorem dX11_drawn_5 : decode cX11_drawn 5 = .ok (.ifCond .eq 24, 3) := by decide +kernel
theorem dX11_drawn_8 : decode cX11_drawn 8 = .ok (.iload_n 3, 1) := by decide +kernel
theorem dX11_drawn_9 : decode cX11_drawn 9 = .ok (.iconst 0, 1) := by decide +kernel
theorem dX11_drawn_10 : decode cX11_drawn 10 = .ok (.bipush 24, 2) := by decide +kernel
theorem dX11_drawn_12 : decode cX11_drawn 12 = .ok (.invokestatic 56, 3) := by decide +kernel
theorem dX11_drawn_15 : decode cX11_drawn 15 = .ok (.ifCond .eq 14, 3) := by decide +kernel
theorem dX11_drawn_18 : decode cX11_drawn 18 = .ok (.iload 4, 2) := by decide +kernel
theorem dX11_drawn_20 : decode cX11_drawn 20 = .ok (.iconst 0, 1) := by decide +kernel
theorem dX11_drawn_21 : decode cX11_drawn 21 = .ok (.bipush 24, 2) := by decide +kernel
theorem dX11_drawn_23 : decode cX11_drawn 23 = .ok (.invokestatic 56, 3) := by decide +kernel
theorem dX11_drawn_26 : decode cX11_drawn 26 = .ok (.ifCond .ne 5, 3) := by decide +kernel
theorem dX11_drawn_29 : decode cX11_drawn 29 = .ok (.iconst (-1), 1) := by decide +kernel
theorem dX11_drawn_30 : decode cX11_drawn 30 = .ok (.ireturn, 1) := by decide +kernel
theorem dX11_drawn_31 : decode cX11_drawn 31 = .ok (.iload_n 1, 1) := by decide +kernel
theorem dX11_drawn_32 : decode cX11_drawn 32 = .ok (.iload_n 2, 1) := by decide +kernel
theorem dX11_drawn_33 : decode cX11_drawn 33 = .ok (.iload_n 3, 1) := by decide +kernel
theorem dX11_drawn_34 : decode cX11_drawn 34 = .ok (.iload 4, 2) := by decide +kernel
theorem dX11_drawn_36 : decode cX11_drawn 36 = .ok (.invokestatic 360, 3) := by decide +kernel
theorem dX11_drawn_39 : decode cX11_drawn 39 = .ok (.iload_n 3, 1) := by decide +kernel
theorem dX11_drawn_40 : decode cX11_drawn 40 = .ok (.iconst 1, 1) := by decide +kernel
theorem dX11_drawn_41 : decode cX11_drawn 41 = .ok (.iadd, 1) := by decide +kernel
theorem dX11_drawn_42 : decode cX11_drawn 42 = .ok (.iload 4, 2) := by decide +kernel
theorem dX11_drawn_44 : decode cX11_drawn 44 = .ok (.iconst 1, 1) := by decide +kernel
theorem dX11_drawn_45 : decode cX11_drawn 45 = .ok (.iadd, 1) := by decide +kernel
theorem dX11_drawn_46 : decode cX11_drawn 46 = .ok (.imul, 1) := by decide +kernel
theorem dX11_drawn_47 : decode cX11_drawn 47 = .ok (.iload 5, 2) := by decide +kernel
theorem dX11_drawn_49 : decode cX11_drawn 49 = .ok (.invokestatic 285, 3) := by decide +kernel
theorem dX11_drawn_52 : decode cX11_drawn 52 = .ok (.ireturn, 1) := by decide +kernel
theorem dX11_wide_0 : decode cX11_wide 0 = .ok (.iload_n 1, 1) := by decide +kernel
theorem dX11_wide_1 : decode cX11_wide 1 = .ok (.iload_n 2, 1) := by decide +kernel
theorem dX11_wide_2 : decode cX11_wide 2 = .ok (.invokestatic 357, 3) := by decide +kernel
theorem dX11_wide_5 : decode cX11_wide 5 = .ok (.ifCond .ne 5, 3) := by decide +kernel
theorem dX11_wide_8 : decode cX11_wide 8 = .ok (.iconst (-1), 1) := by decide +kernel
theorem dX11_wide_9 : decode cX11_wide 9 = .ok (.ireturn, 1) := by decide +kernel
theorem dX11_wide_10 : decode cX11_wide 10 = .ok (.iconst (-1), 1) := by decide +kernel
theorem dX11_wide_11 : decode cX11_wide 11 = .ok (.istore_n 3, 1) := by decide +kernel
theorem dX11_wide_12 : decode cX11_wide 12 = .ok (.lconst 0, 1) := by decide +kernel
theorem dX11_wide_13 : decode cX11_wide 13 = .ok (.lstore 4, 2) := by decide +kernel
theorem dX11_wide_15 : decode cX11_wide 15 = .ok (.lconst 1, 1) := by decide +kernel
theorem dX11_wide_16 : decode cX11_wide 16 = .ok (.lstore 6, 2) := by decide +kernel
theorem dX11_wide_18 : decode cX11_wide 18 = .ok (.iconst 0, 1) := by decide +kernel
theorem dX11_wide_19 : decode cX11_wide 19 = .ok (.istore 8, 2) := by decide +kernel
theorem dX11_wide_21 : decode cX11_wide 21 = .ok (.iload 8, 2) := by decide +kernel
theorem dX11_wide_23 : decode cX11_wide 23 = .ok (.bipush 24, 2) := by decide +kernel
theorem dX11_wide_25 : decode cX11_wide 25 = .ok (.if_icmp .gt 79, 3) := by decide +kernel
theorem dX11_wide_28 : decode cX11_wide 28 = .ok (.iload_n 1, 1) := by decide +kernel
theorem dX11_wide_29 : decode cX11_wide 29 = .ok (.iload_n 2, 1) := by decide +kernel
theorem dX11_wide_30 : decode cX11_wide 30 = .ok (.iload 8, 2) := by decide +kernel
theorem dX11_wide_32 : decode cX11_wide 32 = .ok (.iload 8, 2) := by decide +kernel
theorem dX11_wide_34 : decode cX11_wide 34 = .ok (.invokestatic 360, 3) := by decide +kernel
theorem dX11_wide_37 : decode cX11_wide 37 = .ok (.i2l, 1) := by decide +kernel
theorem dX11_wide_38 : decode cX11_wide 38 = .ok (.lstore 9, 2) := by decide +kernel
theorem dX11_wide_40 : decode cX11_wide 40 = .ok (.iload 8, 2) := by decide +kernel
theorem dX11_wide_42 : decode cX11_wide 42 = .ok (.iload_n 1, 1) := by decide +kernel
theorem dX11_wide_43 : decode cX11_wide 43 = .ok (.iadd, 1) := by decide +kernel
theorem dX11_wide_44 : decode cX11_wide 44 = .ok (.iload_n 2, 1) := by decide +kernel
theorem dX11_wide_45 : decode cX11_wide 45 = .ok (.iadd, 1) := by decide +kernel
theorem dX11_wide_46 : decode cX11_wide 46 = .ok (.i2l, 1) := by decide +kernel
theorem dX11_wide_47 : decode cX11_wide 47 = .ok (.iload 8, 2) := by decide +kernel
theorem dX11_wide_49 : decode cX11_wide 49 = .ok (.iconst 1, 1) := by decide +kernel
theorem dX11_wide_50 : decode cX11_wide 50 = .ok (.iadd, 1) := by decide +kernel
theorem dX11_wide_51 : decode cX11_wide 51 = .ok (.i2l, 1) := by decide +kernel
theorem dX11_wide_52 : decode cX11_wide 52 = .ok (.lmul, 1) := by decide +kernel
theorem dX11_wide_53 : decode cX11_wide 53 = .ok (.iload 8, 2) := by decide +kernel
theorem dX11_wide_55 : decode cX11_wide 55 = .ok (.iconst 1, 1) := by decide +kernel
theorem dX11_wide_56 : decode cX11_wide 56 = .ok (.iadd, 1) := by decide +kernel
theorem dX11_wide_57 : decode cX11_wide 57 = .ok (.i2l, 1) := by decide +kernel
theorem dX11_wide_58 : decode cX11_wide 58 = .ok (.lmul, 1) := by decide +kernel
theorem dX11_wide_59 : decode cX11_wide 59 = .ok (.lstore 11, 2) := by decide +kernel
theorem dX11_wide_61 : decode cX11_wide 61 = .ok (.lload 9, 2) := by decide +kernel
theorem dX11_wide_63 : decode cX11_wide 63 = .ok (.lconst 0, 1) := by decide +kernel
theorem dX11_wide_64 : decode cX11_wide 64 = .ok (.lcmp, 1) := by decide +kernel
theorem dX11_wide_65 : decode cX11_wide 65 = .ok (.ifCond .le 33, 3) := by decide +kernel
theorem dX11_wide_68 : decode cX11_wide 68 = .ok (.iload_n 3, 1) := by decide +kernel
theorem dX11_wide_69 : decode cX11_wide 69 = .ok (.iconst (-1), 1) := by decide +kernel
theorem dX11_wide_70 : decode cX11_wide 70 = .ok (.if_icmp .eq 17, 3) := by decide +kernel
theorem dX11_wide_73 : decode cX11_wide 73 = .ok (.lload 11, 2) := by decide +kernel
theorem dX11_wide_75 : decode cX11_wide 75 = .ok (.lload 6, 2) := by decide +kernel
theorem dX11_wide_77 : decode cX11_wide 77 = .ok (.lmul, 1) := by decide +kernel
theorem dX11_wide_78 : decode cX11_wide 78 = .ok (.lload 4, 2) := by decide +kernel
theorem dX11_wide_80 : decode cX11_wide 80 = .ok (.lload 9, 2) := by decide +kernel
theorem dX11_wide_82 : decode cX11_wide 82 = .ok (.lmul, 1) := by decide +kernel
theorem dX11_wide_83 : decode cX11_wide 83 = .ok (.lcmp, 1) := by decide +kernel
theorem dX11_wide_84 : decode cX11_wide 84 = .ok (.ifCond .ge 14, 3) := by decide +kernel
theorem dX11_wide_87 : decode cX11_wide 87 = .ok (.iload 8, 2) := by decide +kernel
theorem dX11_wide_89 : decode cX11_wide 89 = .ok (.istore_n 3, 1) := by decide +kernel
theorem dX11_wide_90 : decode cX11_wide 90 = .ok (.lload 11, 2) := by decide +kernel
theorem dX11_wide_92 : decode cX11_wide 92 = .ok (.lstore 4, 2) := by decide +kernel
theorem dX11_wide_94 : decode cX11_wide 94 = .ok (.lload 9, 2) := by decide +kernel
theorem dX11_wide_96 : decode cX11_wide 96 = .ok (.lstore 6, 2) := by decide +kernel
theorem dX11_wide_98 : decode cX11_wide 98 = .ok (.iinc 8 1, 3) := by decide +kernel
theorem dX11_wide_101 : decode cX11_wide 101 = .ok (.goto (-80), 3) := by decide +kernel
theorem dX11_wide_104 : decode cX11_wide 104 = .ok (.iload_n 3, 1) := by decide +kernel
theorem dX11_wide_105 : decode cX11_wide 105 = .ok (.ireturn, 1) := by decide +kernel
theorem dX11_worth_0 : decode cX11_worth 0 = .ok (.iload_n 1, 1) := by decide +kernel
theorem dX11_worth_1 : decode cX11_worth 1 = .ok (.iconst 1, 1) := by decide +kernel
theorem dX11_worth_2 : decode cX11_worth 2 = .ok (.bipush 99, 2) := by decide +kernel
theorem dX11_worth_4 : decode cX11_worth 4 = .ok (.invokestatic 56, 3) := by decide +kernel
theorem dX11_worth_7 : decode cX11_worth 7 = .ok (.ifCond .eq 34, 3) := by decide +kernel
theorem dX11_worth_10 : decode cX11_worth 10 = .ok (.iload_n 2, 1) := by decide +kernel
theorem dX11_worth_11 : decode cX11_worth 11 = .ok (.iconst 0, 1) := by decide +kernel
theorem dX11_worth_12 : decode cX11_worth 12 = .ok (.bipush 99, 2) := by decide +kernel
theorem dX11_worth_14 : decode cX11_worth 14 = .ok (.invokestatic 56, 3) := by decide +kernel
theorem dX11_worth_17 : decode cX11_worth 17 = .ok (.ifCond .eq 24, 3) := by decide +kernel
theorem dX11_worth_20 : decode cX11_worth 20 = .ok (.iload_n 3, 1) := by decide +kernel
theorem dX11_worth_21 : decode cX11_worth 21 = .ok (.iconst 0, 1) := by decide +kernel
theorem dX11_worth_22 : decode cX11_worth 22 = .ok (.bipush 99, 2) := by decide +kernel
theorem dX11_worth_24 : decode cX11_worth 24 = .ok (.invokestatic 56, 3) := by decide +kernel
theorem dX11_worth_27 : decode cX11_worth 27 = .ok (.ifCond .eq 14, 3) := by decide +kernel
theorem dX11_worth_30 : decode cX11_worth 30 = .ok (.iload 4, 2) := by decide +kernel
theorem dX11_worth_32 : decode cX11_worth 32 = .ok (.iconst 0, 1) := by decide +kernel
theorem dX11_worth_33 : decode cX11_worth 33 = .ok (.bipush 10, 2) := by decide +kernel
theorem dX11_worth_35 : decode cX11_worth 35 = .ok (.invokestatic 56, 3) := by decide +kernel
theorem dX11_worth_38 : decode cX11_worth 38 = .ok (.ifCond .ne 5, 3) := by decide +kernel
theorem dX11_worth_41 : decode cX11_worth 41 = .ok (.iconst (-1), 1) := by decide +kernel
theorem dX11_worth_42 : decode cX11_worth 42 = .ok (.ireturn, 1) := by decide +kernel
theorem dX11_worth_43 : decode cX11_worth 43 = .ok (.iload 4, 2) := by decide +kernel
theorem dX11_worth_45 : decode cX11_worth 45 = .ok (.iload_n 2, 1) := by decide +kernel
theorem dX11_worth_46 : decode cX11_worth 46 = .ok (.imul, 1) := by decide +kernel
theorem dX11_worth_47 : decode cX11_worth 47 = .ok (.bipush 10, 2) := by decide +kernel
theorem dX11_worth_49 : decode cX11_worth 49 = .ok (.iload_n 1, 1) := by decide +kernel
theorem dX11_worth_50 : decode cX11_worth 50 = .ok (.iload_n 2, 1) := by decide +kernel
theorem dX11_worth_51 : decode cX11_worth 51 = .ok (.iadd, 1) := by decide +kernel
theorem dX11_worth_52 : decode cX11_worth 52 = .ok (.iload_n 3, 1) := by decide +kernel
theorem dX11_worth_53 : decode cX11_worth 53 = .ok (.iadd, 1) := by decide +kernel
theorem dX11_worth_54 : decode cX11_worth 54 = .ok (.imul, 1) := by decide +kernel
theorem dX11_worth_55 : decode cX11_worth 55 = .ok (.iload 5, 2) := by decide +kernel
theorem dX11_worth_57 : decode cX11_worth 57 = .ok (.invokestatic 285, 3) := by decide +kernel
theorem dX11_worth_60 : decode cX11_worth 60 = .ok (.ireturn, 1) := by decide +kernel
theorem dX11_least_0 : decode cX11_least 0 = .ok (.iload_n 1, 1) := by decide +kernel
theorem dX11_least_1 : decode cX11_least 1 = .ok (.iconst 0, 1) := by decide +kernel
theorem dX11_least_2 : decode cX11_least 2 = .ok (.sipush 999, 3) := by decide +kernel
theorem dX11_least_5 : decode cX11_least 5 = .ok (.invokestatic 56, 3) := by decide +kernel
theorem dX11_least_8 : decode cX11_least 8 = .ok (.ifCond .eq 17, 3) := by decide +kernel
theorem dX11_least_11 : decode cX11_least 11 = .ok (.aload_n 0, 1) := by decide +kernel
theorem dX11_least_12 : decode cX11_least 12 = .ok (.getfield 10, 3) := by decide +kernel
theorem dX11_least_15 : decode cX11_least 15 = .ok (.getfield 222, 3) := by decide +kernel
theorem dX11_least_18 : decode cX11_least 18 = .ok (.iload_n 1, 1) := by decide +kernel
theorem dX11_least_19 : decode cX11_least 19 = .ok (.invokevirtual 363, 3) := by decide +kernel
theorem dX11_least_22 : decode cX11_least 22 = .ok (.goto 4, 3) := by decide +kernel
theorem dX11_least_25 : decode cX11_least 25 = .ok (.iconst (-1), 1) := by decide +kernel
theorem dX11_least_26 : decode cX11_least 26 = .ok (.ireturn, 1) := by decide +kernel
theorem dX11_span_0 : decode cX11_span 0 = .ok (.aload_n 0, 1) := by decide +kernel
theorem dX11_span_1 : decode cX11_span 1 = .ok (.getfield 10, 3) := by decide +kernel
theorem dX11_span_4 : decode cX11_span 4 = .ok (.getfield 235, 3) := by decide +kernel
theorem dX11_span_7 : decode cX11_span 7 = .ok (.invokevirtual 366, 3) := by decide +kernel
theorem dX11_span_10 : decode cX11_span 10 = .ok (.istore_n 2, 1) := by decide +kernel
theorem dX11_span_11 : decode cX11_span 11 = .ok (.aload_n 0, 1) := by decide +kernel
theorem dX11_span_12 : decode cX11_span 12 = .ok (.getfield 10, 3) := by decide +kernel
theorem dX11_span_15 : decode cX11_span 15 = .ok (.getfield 235, 3) := by decide +kernel
theorem dX11_span_18 : decode cX11_span 18 = .ok (.invokevirtual 370, 3) := by decide +kernel
theorem dX11_span_21 : decode cX11_span 21 = .ok (.istore_n 3, 1) := by decide +kernel
theorem dX11_span_22 : decode cX11_span 22 = .ok (.iload_n 2, 1) := by decide +kernel
theorem dX11_span_23 : decode cX11_span 23 = .ok (.iload_n 3, 1) := by decide +kernel
theorem dX11_span_24 : decode cX11_span 24 = .ok (.if_icmp .le 5, 3) := by decide +kernel
theorem dX11_span_27 : decode cX11_span 27 = .ok (.iconst (-1), 1) := by decide +kernel
theorem dX11_span_28 : decode cX11_span 28 = .ok (.ireturn, 1) := by decide +kernel
theorem dX11_span_29 : decode cX11_span 29 = .ok (.iload_n 1, 1) := by decide +kernel
theorem dX11_span_30 : decode cX11_span 30 = .ok (.ifCond .eq 7, 3) := by decide +kernel
theorem dX11_span_33 : decode cX11_span 33 = .ok (.iload_n 3, 1) := by decide +kernel
theorem dX11_span_34 : decode cX11_span 34 = .ok (.goto 4, 3) := by decide +kernel
theorem dX11_span_37 : decode cX11_span 37 = .ok (.iload_n 2, 1) := by decide +kernel
theorem dX11_span_38 : decode cX11_span 38 = .ok (.ireturn, 1) := by decide +kernel
theorem dX11_way_0 : decode cX11_way 0 = .ok (.aload_n 0, 1) := by decide +kernel
theorem dX11_way_1 : decode cX11_way 1 = .ok (.iload_n 1, 1) := by decide +kernel
theorem dX11_way_2 : decode cX11_way 2 = .ok (.iload_n 2, 1) := by decide +kernel
theorem dX11_way_3 : decode cX11_way 3 = .ok (.invokevirtual 88, 3) := by decide +kernel
theorem dX11_way_6 : decode cX11_way 6 = .ok (.ifCond .eq 13, 3) := by decide +kernel
theorem dX11_way_9 : decode cX11_way 9 = .ok (.iload_n 3, 1) := by decide +kernel
theorem dX11_way_10 : decode cX11_way 10 = .ok (.iconst 0, 1) := by decide +kernel
theorem dX11_way_11 : decode cX11_way 11 = .ok (.bipush 99, 2) := by decide +kernel
theorem dX11_way_13 : decode cX11_way 13 = .ok (.invokestatic 56, 3) := by decide +kernel
theorem dX11_way_16 : decode cX11_way 16 = .ok (.ifCond .ne 5, 3) := by decide +kernel
theorem dX11_way_19 : decode cX11_way 19 = .ok (.iconst (-1), 1) := by decide +kernel
theorem dX11_way_20 : decode cX11_way 20 = .ok (.ireturn, 1) := by decide +kernel
theorem dX11_way_21 : decode cX11_way 21 = .ok (.aload_n 0, 1) := by decide +kernel
theorem dX11_way_22 : decode cX11_way 22 = .ok (.iload_n 1, 1) := by decide +kernel
theorem dX11_way_23 : decode cX11_way 23 = .ok (.iload_n 2, 1) := by decide +kernel
theorem dX11_way_24 : decode cX11_way 24 = .ok (.iload_n 3, 1) := by decide +kernel
theorem dX11_way_25 : decode cX11_way 25 = .ok (.invokevirtual 373, 3) := by decide +kernel
theorem dX11_way_28 : decode cX11_way 28 = .ok (.ireturn, 1) := by decide +kernel
theorem dX11_within_0 : decode cX11_within 0 = .ok (.iload_n 1, 1) := by decide +kernel
theorem dX11_within_1 : decode cX11_within 1 = .ok (.iload_n 0, 1) := by decide +kernel
theorem dX11_within_2 : decode cX11_within 2 = .ok (.if_icmp .gt 12, 3) := by decide +kernel
theorem dX11_within_5 : decode cX11_within 5 = .ok (.iload_n 0, 1) := by decide +kernel
theorem dX11_within_6 : decode cX11_within 6 = .ok (.iload_n 2, 1) := by decide +kernel
theorem dX11_within_7 : decode cX11_within 7 = .ok (.if_icmp .gt 7, 3) := by decide +kernel
theorem dX11_within_10 : decode cX11_within 10 = .ok (.iconst 1, 1) := by decide +kernel
theorem dX11_within_11 : decode cX11_within 11 = .ok (.goto 4, 3) := by decide +kernel
theorem dX11_within_14 : decode cX11_within 14 = .ok (.iconst 0, 1) := by decide +kernel
theorem dX11_within_15 : decode cX11_within 15 = .ok (.ireturn, 1) := by decide +kernel
theorem dX11_isEnd_0 : decode cX11_isEnd 0 = .ok (.iload_n 1, 1) := by decide +kernel
theorem dX11_isEnd_1 : decode cX11_isEnd 1 = .ok (.iconst 0, 1) := by decide +kernel
theorem dX11_isEnd_2 : decode cX11_isEnd 2 = .ok (.aload_n 0, 1) := by decide +kernel
theorem dX11_isEnd_3 : decode cX11_isEnd 3 = .ok (.getfield 10, 3) := by decide +kernel
theorem dX11_isEnd_6 : decode cX11_isEnd 6 = .ok (.getfield 64, 3) := by decide +kernel
theorem dX11_isEnd_9 : decode cX11_isEnd 9 = .ok (.getfield 68, 3) := by decide +kernel
theorem dX11_isEnd_12 : decode cX11_isEnd 12 = .ok (.iconst 1, 1) := by decide +kernel
theorem dX11_isEnd_13 : decode cX11_isEnd 13 = .ok (.isub, 1) := by decide +kernel
theorem dX11_isEnd_14 : decode cX11_isEnd 14 = .ok (.invokestatic 56, 3) := by decide +kernel
theorem dX11_isEnd_17 : decode cX11_isEnd 17 = .ok (.ireturn, 1) := by decide +kernel
theorem dX11_areTwoEnds_0 : decode cX11_areTwoEnds 0 = .ok (.aload_n 0, 1) := by decide +kernel
theorem dX11_areTwoEnds_1 : decode cX11_areTwoEnds 1 = .ok (.iload_n 1, 1) := by decide +kernel
theorem dX11_areTwoEnds_2 : decode cX11_areTwoEnds 2 = .ok (.invokevirtual 105, 3) := by decide +kernel
theorem dX11_areTwoEnds_5 : decode cX11_areTwoEnds 5 = .ok (.ifCond .eq 20, 3) := by decide +kernel
theorem dX11_areTwoEnds_8 : decode cX11_areTwoEnds 8 = .ok (.aload_n 0, 1) := by decide +kernel
theorem dX11_areTwoEnds_9 : decode cX11_areTwoEnds 9 = .ok (.iload_n 2, 1) := by decide +kernel
theorem dX11_areTwoEnds_10 : decode cX11_areTwoEnds 10 = .ok (.invokevirtual 105, 3) := by decide +kernel
theorem dX11_areTwoEnds_13 : decode cX11_areTwoEnds 13 = .ok (.ifCond .eq 12, 3) := by decide +kernel
theorem dX11_areTwoEnds_16 : decode cX11_areTwoEnds 16 = .ok (.iload_n 1, 1) := by decide +kernel
theorem dX11_areTwoEnds_17 : decode cX11_areTwoEnds 17 = .ok (.iload_n 2, 1) := by decide +kernel
theorem dX11_areTwoEnds_18 : decode cX11_areTwoEnds 18 = .ok (.if_icmp .eq 7, 3) := by decide +kernel
theorem dX11_areTwoEnds_21 : decode cX11_areTwoEnds 21 = .ok (.iconst 1, 1) := by decide +kernel
theorem dX11_areTwoEnds_22 : decode cX11_areTwoEnds 22 = .ok (.goto 4, 3) := by decide +kernel
theorem dX11_areTwoEnds_25 : decode cX11_areTwoEnds 25 = .ok (.iconst 0, 1) := by decide +kernel
theorem dX11_areTwoEnds_26 : decode cX11_areTwoEnds 26 = .ok (.ireturn, 1) := by decide +kernel
theorem dX11_isTurn_0 : decode cX11_isTurn 0 = .ok (.iload_n 1, 1) := by decide +kernel
theorem dX11_isTurn_1 : decode cX11_isTurn 1 = .ok (.iconst 0, 1) := by decide +kernel
theorem dX11_isTurn_2 : decode cX11_isTurn 2 = .ok (.aload_n 0, 1) := by decide +kernel
theorem dX11_isTurn_3 : decode cX11_isTurn 3 = .ok (.getfield 10, 3) := by decide +kernel
theorem dX11_isTurn_6 : decode cX11_isTurn 6 = .ok (.getfield 82, 3) := by decide +kernel
theorem dX11_isTurn_9 : decode cX11_isTurn 9 = .ok (.getfield 111, 3) := by decide +kernel
theorem dX11_isTurn_12 : decode cX11_isTurn 12 = .ok (.iconst 1, 1) := by decide +kernel
theorem dX11_isTurn_13 : decode cX11_isTurn 13 = .ok (.isub, 1) := by decide +kernel
theorem dX11_isTurn_14 : decode cX11_isTurn 14 = .ok (.invokestatic 56, 3) := by decide +kernel
theorem dX11_isTurn_17 : decode cX11_isTurn 17 = .ok (.ireturn, 1) := by decide +kernel
theorem dX11_areDelays_0 : decode cX11_areDelays 0 = .ok (.iload_n 0, 1) := by decide +kernel
theorem dX11_areDelays_1 : decode cX11_areDelays 1 = .ok (.iconst 0, 1) := by decide +kernel
theorem dX11_areDelays_2 : decode cX11_areDelays 2 = .ok (.bipush 60, 2) := by decide +kernel
theorem dX11_areDelays_4 : decode cX11_areDelays 4 = .ok (.invokestatic 56, 3) := by decide +kernel
theorem dX11_areDelays_7 : decode cX11_areDelays 7 = .ok (.ifCond .eq 17, 3) := by decide +kernel
theorem dX11_areDelays_10 : decode cX11_areDelays 10 = .ok (.iload_n 1, 1) := by decide +kernel
theorem dX11_areDelays_11 : decode cX11_areDelays 11 = .ok (.iconst 0, 1) := by decide +kernel
theorem dX11_areDelays_12 : decode cX11_areDelays 12 = .ok (.bipush 60, 2) := by decide +kernel
theorem dX11_areDelays_14 : decode cX11_areDelays 14 = .ok (.invokestatic 56, 3) := by decide +kernel
theorem dX11_areDelays_17 : decode cX11_areDelays 17 = .ok (.ifCond .eq 7, 3) := by decide +kernel
theorem dX11_areDelays_20 : decode cX11_areDelays 20 = .ok (.iconst 1, 1) := by decide +kernel
theorem dX11_areDelays_21 : decode cX11_areDelays 21 = .ok (.goto 4, 3) := by decide +kernel
theorem dX11_areDelays_24 : decode cX11_areDelays 24 = .ok (.iconst 0, 1) := by decide +kernel
theorem dX11_areDelays_25 : decode cX11_areDelays 25 = .ok (.ireturn, 1) := by decide +kernel
theorem dX11_arePairNumbers_0 : decode cX11_arePairNumbers 0 = .ok (.iload_n 0, 1) := by decide +kernel
theorem dX11_arePairNumbers_1 : decode cX11_arePairNumbers 1 = .ok (.iload_n 1, 1) := by decide +kernel
theorem dX11_arePairNumbers_2 : decode cX11_arePairNumbers 2 = .ok (.invokestatic 357, 3) := by decide +kernel
theorem dX11_arePairNumbers_5 : decode cX11_arePairNumbers 5 = .ok (.ifCond .eq 27, 3) := by decide +kernel
theorem dX11_arePairNumbers_8 : decode cX11_arePairNumbers 8 = .ok (.iload_n 2, 1) := by decide +kernel
theorem dX11_arePairNumbers_9 : decode cX11_arePairNumbers 9 = .ok (.iconst 1, 1) := by decide +kernel
theorem dX11_arePairNumbers_10 : decode cX11_arePairNumbers 10 = .ok (.bipush 99, 2) := by decide +kernel
theorem dX11_arePairNumbers_12 : decode cX11_arePairNumbers 12 = .ok (.invokestatic 56, 3) := by decide +kernel
theorem dX11_arePairNumbers_15 : decode cX11_arePairNumbers 15 = .ok (.ifCond .eq 17, 3) := by decide +kernel
theorem dX11_arePairNumbers_18 : decode cX11_arePairNumbers 18 = .ok (.iload_n 3, 1) := by decide +kernel
theorem dX11_arePairNumbers_19 : decode cX11_arePairNumbers 19 = .ok (.iconst 0, 1) := by decide +kernel
theorem dX11_arePairNumbers_20 : decode cX11_arePairNumbers 20 = .ok (.bipush 99, 2) := by decide +kernel
theorem dX11_arePairNumbers_22 : decode cX11_arePairNumbers 22 = .ok (.invokestatic 56, 3) := by decide +kernel
theorem dX11_arePairNumbers_25 : decode cX11_arePairNumbers 25 = .ok (.ifCond .eq 7, 3) := by decide +kernel
theorem dX11_arePairNumbers_28 : decode cX11_arePairNumbers 28 = .ok (.iconst 1, 1) := by decide +kernel
theorem dX11_arePairNumbers_29 : decode cX11_arePairNumbers 29 = .ok (.goto 4, 3) := by decide +kernel
theorem dX11_arePairNumbers_32 : decode cX11_arePairNumbers 32 = .ok (.iconst 0, 1) := by decide +kernel
theorem dX11_arePairNumbers_33 : decode cX11_arePairNumbers 33 = .ok (.ireturn, 1) := by decide +kernel
theorem dX11_refuse_0 : decode cX11_refuse 0 = .ok (.aload_n 0, 1) := by decide +kernel
theorem dX11_refuse_1 : decode cX11_refuse 1 = .ok (.getfield 10, 3) := by decide +kernel
theorem dX11_refuse_4 : decode cX11_refuse 4 = .ok (.getfield 279, 3) := by decide +kernel
theorem dX11_refuse_7 : decode cX11_refuse 7 = .ok (.iload_n 1, 1) := by decide +kernel
theorem dX11_refuse_8 : decode cX11_refuse 8 = .ok (.dup2, 1) := by decide +kernel
theorem dX11_refuse_9 : decode cX11_refuse 9 = .ok (.iaload, 1) := by decide +kernel
theorem dX11_refuse_10 : decode cX11_refuse 10 = .ok (.iconst 1, 1) := by decide +kernel
theorem dX11_refuse_11 : decode cX11_refuse 11 = .ok (.iadd, 1) := by decide +kernel
theorem dX11_refuse_12 : decode cX11_refuse 12 = .ok (.iastore, 1) := by decide +kernel
theorem dX11_refuse_13 : decode cX11_refuse 13 = .ok (.iload_n 2, 1) := by decide +kernel
theorem dX11_refuse_14 : decode cX11_refuse 14 = .ok (.ireturn, 1) := by decide +kernel
theorem dX11_refuseFlatly_0 : decode cX11_refuseFlatly 0 = .ok (.aload_n 0, 1) := by decide +kernel
theorem dX11_refuseFlatly_1 : decode cX11_refuseFlatly 1 = .ok (.getfield 10, 3) := by decide +kernel
theorem dX11_refuseFlatly_4 : decode cX11_refuseFlatly 4 = .ok (.getfield 279, 3) := by decide +kernel
theorem dX11_refuseFlatly_7 : decode cX11_refuseFlatly 7 = .ok (.iload_n 1, 1) := by decide +kernel
theorem dX11_refuseFlatly_8 : decode cX11_refuseFlatly 8 = .ok (.dup2, 1) := by decide +kernel
theorem dX11_refuseFlatly_9 : decode cX11_refuseFlatly 9 = .ok (.iaload, 1) := by decide +kernel
theorem dX11_refuseFlatly_10 : decode cX11_refuseFlatly 10 = .ok (.iconst 1, 1) := by decide +kernel
theorem dX11_refuseFlatly_11 : decode cX11_refuseFlatly 11 = .ok (.iadd, 1) := by decide +kernel
theorem dX11_refuseFlatly_12 : decode cX11_refuseFlatly 12 = .ok (.iastore, 1) := by decide +kernel
theorem dX11_refuseFlatly_13 : decode cX11_refuseFlatly 13 = .ok (.iconst 0, 1) := by decide +kernel
theorem dX11_refuseFlatly_14 : decode cX11_refuseFlatly 14 = .ok (.ireturn, 1) := by decide +kernel
theorem dX11_pairNow_0 : decode cX11_pairNow 0 = .ok (.aload_n 0, 1) := by decide +kernel
theorem dX11_pairNow_1 : decode cX11_pairNow 1 = .ok (.getfield 377, 3) := by decide +kernel
theorem dX11_pairNow_4 : decode cX11_pairNow 4 = .ok (.ifnonnull 14, 3) := by decide +kernel
theorem dX11_pairNow_7 : decode cX11_pairNow 7 = .ok (.aload_n 0, 1) := by decide +kernel
theorem dX11_pairNow_8 : decode cX11_pairNow 8 = .ok (.new 340, 3) := by decide +kernel
theorem dX11_pairNow_11 : decode cX11_pairNow 11 = .ok (.dup, 1) := by decide +kernel
theorem dX11_pairNow_12 : decode cX11_pairNow 12 = .ok (.invokespecial 381, 3) := by decide +kernel
theorem dX11_pairNow_15 : decode cX11_pairNow 15 = .ok (.putfield 377, 3) := by decide +kernel
theorem dX11_pairNow_18 : decode cX11_pairNow 18 = .ok (.aload_n 0, 1) := by decide +kernel
theorem dX11_pairNow_19 : decode cX11_pairNow 19 = .ok (.getfield 377, 3) := by decide +kernel
theorem dX11_pairNow_22 : decode cX11_pairNow 22 = .ok (.areturn, 1) := by decide +kernel
theorem dX11_lawsNow_0 : decode cX11_lawsNow 0 = .ok (.aload_n 0, 1) := by decide +kernel
theorem dX11_lawsNow_1 : decode cX11_lawsNow 1 = .ok (.getfield 51, 3) := by decide +kernel
theorem dX11_lawsNow_4 : decode cX11_lawsNow 4 = .ok (.aload_n 0, 1) := by decide +kernel
theorem dX11_lawsNow_5 : decode cX11_lawsNow 5 = .ok (.getfield 10, 3) := by decide +kernel
theorem dX11_lawsNow_8 : decode cX11_lawsNow 8 = .ok (.getfield 171, 3) := by decide +kernel
theorem dX11_lawsNow_11 : decode cX11_lawsNow 11 = .ok (.iconst (-1), 1) := by decide +kernel
theorem dX11_lawsNow_12 : decode cX11_lawsNow 12 = .ok (.if_icmp .ne 7, 3) := by decide +kernel
theorem dX11_lawsNow_15 : decode cX11_lawsNow 15 = .ok (.aconst_null, 1) := by decide +kernel
theorem dX11_lawsNow_16 : decode cX11_lawsNow 16 = .ok (.goto 15, 3) := by decide +kernel
theorem dX11_lawsNow_19 : decode cX11_lawsNow 19 = .ok (.aload_n 0, 1) := by decide +kernel
theorem dX11_lawsNow_20 : decode cX11_lawsNow 20 = .ok (.getfield 37, 3) := by decide +kernel
theorem dX11_lawsNow_23 : decode cX11_lawsNow 23 = .ok (.aload_n 0, 1) := by decide +kernel
theorem dX11_lawsNow_24 : decode cX11_lawsNow 24 = .ok (.getfield 10, 3) := by decide +kernel
theorem dX11_lawsNow_27 : decode cX11_lawsNow 27 = .ok (.getfield 171, 3) := by decide +kernel
theorem dX11_lawsNow_30 : decode cX11_lawsNow 30 = .ok (.aaload, 1) := by decide +kernel
theorem dX11_lawsNow_31 : decode cX11_lawsNow 31 = .ok (.putfield 382, 3) := by decide +kernel
theorem dX11_lawsNow_34 : decode cX11_lawsNow 34 = .ok (.aload_n 0, 1) := by decide +kernel
theorem dX11_lawsNow_35 : decode cX11_lawsNow 35 = .ok (.getfield 51, 3) := by decide +kernel
theorem dX11_lawsNow_38 : decode cX11_lawsNow 38 = .ok (.areturn, 1) := by decide +kernel
theorem dX11_tryRule_0 : decode cX11_tryRule 0 = .ok (.aload_n 0, 1) := by decide +kernel
theorem dX11_tryRule_1 : decode cX11_tryRule 1 = .ok (.getfield 22, 3) := by decide +kernel
theorem dX11_tryRule_4 : decode cX11_tryRule 4 = .ok (.aload_n 0, 1) := by decide +kernel
theorem dX11_tryRule_5 : decode cX11_tryRule 5 = .ok (.getfield 10, 3) := by decide +kernel
theorem dX11_tryRule_8 : decode cX11_tryRule 8 = .ok (.getfield 82, 3) := by decide +kernel
theorem dX11_tryRule_11 : decode cX11_tryRule 11 = .ok (.invokevirtual 386, 3) := by decide +kernel
theorem dX11_tryRule_14 : decode cX11_tryRule 14 = .ok (.aload_n 0, 1) := by decide +kernel
theorem dX11_tryRule_15 : decode cX11_tryRule 15 = .ok (.getfield 22, 3) := by decide +kernel
theorem dX11_tryRule_18 : decode cX11_tryRule 18 = .ok (.iload_n 1, 1) := by decide +kernel
theorem dX11_tryRule_19 : decode cX11_tryRule 19 = .ok (.putfield 102, 3) := by decide +kernel
theorem dX11_tryRule_22 : decode cX11_tryRule 22 = .ok (.aload_n 0, 1) := by decide +kernel
theorem dX11_tryRule_23 : decode cX11_tryRule 23 = .ok (.getfield 22, 3) := by decide +kernel
theorem dX11_tryRule_26 : decode cX11_tryRule 26 = .ok (.invokevirtual 389, 3) := by decide +kernel
theorem dX11_tryRule_29 : decode cX11_tryRule 29 = .ok (.aload_n 0, 1) := by decide +kernel
theorem dX11_tryRule_30 : decode cX11_tryRule 30 = .ok (.getfield 22, 3) := by decide +kernel
theorem dX11_tryRule_33 : decode cX11_tryRule 33 = .ok (.iload_n 2, 1) := by decide +kernel
theorem dX11_tryRule_34 : decode cX11_tryRule 34 = .ok (.aload_n 0, 1) := by decide +kernel
theorem dX11_tryRule_35 : decode cX11_tryRule 35 = .ok (.getfield 10, 3) := by decide +kernel
theorem dX11_tryRule_38 : decode cX11_tryRule 38 = .ok (.getfield 64, 3) := by decide +kernel
theorem dX11_tryRule_41 : decode cX11_tryRule 41 = .ok (.aload_n 0, 1) := by decide +kernel
theorem dX11_tryRule_42 : decode cX11_tryRule 42 = .ok (.invokevirtual 147, 3) := by decide +kernel
theorem dX11_tryRule_45 : decode cX11_tryRule 45 = .ok (.aload_n 0, 1) := by decide +kernel
theorem dX11_tryRule_46 : decode cX11_tryRule 46 = .ok (.getfield 31, 3) := by decide +kernel
theorem dX11_tryRule_49 : decode cX11_tryRule 49 = .ok (.invokevirtual 151, 3) := by decide +kernel
theorem dX11_tryRule_52 : decode cX11_tryRule 52 = .ok (.pop, 1) := by decide +kernel
theorem dX11_tryRule_53 : decode cX11_tryRule 53 = .ok (.return_, 1) := by decide +kernel
theorem dX11_total_0 : decode cX11_total 0 = .ok (.iconst 0, 1) := by decide +kernel
theorem dX11_total_1 : decode cX11_total 1 = .ok (.istore_n 1, 1) := by decide +kernel
theorem dX11_total_2 : decode cX11_total 2 = .ok (.aload_n 0, 1) := by decide +kernel
theorem dX11_total_3 : decode cX11_total 3 = .ok (.astore_n 2, 1) := by decide +kernel
theorem dX11_total_4 : decode cX11_total 4 = .ok (.aload_n 2, 1) := by decide +kernel
theorem dX11_total_5 : decode cX11_total 5 = .ok (.arraylength, 1) := by decide +kernel
theorem dX11_total_6 : decode cX11_total 6 = .ok (.istore_n 3, 1) := by decide +kernel
theorem dX11_total_7 : decode cX11_total 7 = .ok (.iconst 0, 1) := by decide +kernel
theorem dX11_total_8 : decode cX11_total 8 = .ok (.istore 4, 2) := by decide +kernel
theorem dX11_total_10 : decode cX11_total 10 = .ok (.iload 4, 2) := by decide +kernel
theorem dX11_total_12 : decode cX11_total 12 = .ok (.iload_n 3, 1) := by decide +kernel
theorem dX11_total_13 : decode cX11_total 13 = .ok (.if_icmp .ge 20, 3) := by decide +kernel
theorem dX11_total_16 : decode cX11_total 16 = .ok (.aload_n 2, 1) := by decide +kernel
theorem dX11_total_17 : decode cX11_total 17 = .ok (.iload 4, 2) := by decide +kernel
theorem dX11_total_19 : decode cX11_total 19 = .ok (.iaload, 1) := by decide +kernel
theorem dX11_total_20 : decode cX11_total 20 = .ok (.istore 5, 2) := by decide +kernel
theorem dX11_total_22 : decode cX11_total 22 = .ok (.iload_n 1, 1) := by decide +kernel
theorem dX11_total_23 : decode cX11_total 23 = .ok (.iload 5, 2) := by decide +kernel
theorem dX11_total_25 : decode cX11_total 25 = .ok (.iadd, 1) := by decide +kernel
theorem dX11_total_26 : decode cX11_total 26 = .ok (.istore_n 1, 1) := by decide +kernel
theorem dX11_total_27 : decode cX11_total 27 = .ok (.iinc 4 1, 3) := by decide +kernel
theorem dX11_total_30 : decode cX11_total 30 = .ok (.goto (-20), 3) := by decide +kernel
theorem dX11_total_33 : decode cX11_total 33 = .ok (.iload_n 1, 1) := by decide +kernel
theorem dX11_total_34 : decode cX11_total 34 = .ok (.ireturn, 1) := by decide +kernel
theorem dX11_apartDraws_0 : decode cX11_apartDraws 0 = .ok (.iconst 0, 1) := by decide +kernel
theorem dX11_apartDraws_1 : decode cX11_apartDraws 1 = .ok (.istore 4, 2) := by decide +kernel
theorem dX11_apartDraws_3 : decode cX11_apartDraws 3 = .ok (.iconst 0, 1) := by decide +kernel
theorem dX11_apartDraws_4 : decode cX11_apartDraws 4 = .ok (.istore 5, 2) := by decide +kernel
theorem dX11_apartDraws_6 : decode cX11_apartDraws 6 = .ok (.iload 5, 2) := by decide +kernel
theorem dX11_apartDraws_8 : decode cX11_apartDraws 8 = .ok (.iload_n 2, 1) := by decide +kernel
theorem dX11_apartDraws_9 : decode cX11_apartDraws 9 = .ok (.if_icmp .gt 49, 3) := by decide +kernel
theorem dX11_apartDraws_12 : decode cX11_apartDraws 12 = .ok (.iconst 0, 1) := by decide +kernel
theorem dX11_apartDraws_13 : decode cX11_apartDraws 13 = .ok (.istore 6, 2) := by decide +kernel
theorem dX11_apartDraws_15 : decode cX11_apartDraws 15 = .ok (.iload 6, 2) := by decide +kernel
theorem dX11_apartDraws_17 : decode cX11_apartDraws 17 = .ok (.iload_n 3, 1) := by decide +kernel
theorem dX11_apartDraws_18 : decode cX11_apartDraws 18 = .ok (.if_icmp .gt 34, 3) := by decide +kernel
theorem dX11_apartDraws_21 : decode cX11_apartDraws 21 = .ok (.iload 5, 2) := by decide +kernel
theorem dX11_apartDraws_23 : decode cX11_apartDraws 23 = .ok (.iconst 1, 1) := by decide +kernel
theorem dX11_apartDraws_24 : decode cX11_apartDraws 24 = .ok (.iadd, 1) := by decide +kernel
theorem dX11_apartDraws_25 : decode cX11_apartDraws 25 = .ok (.iload_n 0, 1) := by decide +kernel
theorem dX11_apartDraws_26 : decode cX11_apartDraws 26 = .ok (.iadd, 1) := by decide +kernel
theorem dX11_apartDraws_27 : decode cX11_apartDraws 27 = .ok (.iload 6, 2) := by decide +kernel
theorem dX11_apartDraws_29 : decode cX11_apartDraws 29 = .ok (.if_icmp .le 14, 3) := by decide +kernel
theorem dX11_apartDraws_32 : decode cX11_apartDraws 32 = .ok (.iload 6, 2) := by decide +kernel
theorem dX11_apartDraws_34 : decode cX11_apartDraws 34 = .ok (.iconst 1, 1) := by decide +kernel
theorem dX11_apartDraws_35 : decode cX11_apartDraws 35 = .ok (.iadd, 1) := by decide +kernel
theorem dX11_apartDraws_36 : decode cX11_apartDraws 36 = .ok (.iload_n 1, 1) := by decide +kernel
theorem dX11_apartDraws_37 : decode cX11_apartDraws 37 = .ok (.iadd, 1) := by decide +kernel
theorem dX11_apartDraws_38 : decode cX11_apartDraws 38 = .ok (.iload 5, 2) := by decide +kernel
theorem dX11_apartDraws_40 : decode cX11_apartDraws 40 = .ok (.if_icmp .gt 6, 3) := by decide +kernel
theorem dX11_apartDraws_43 : decode cX11_apartDraws 43 = .ok (.iinc 4 1, 3) := by decide +kernel
theorem dX11_apartDraws_46 : decode cX11_apartDraws 46 = .ok (.iinc 6 1, 3) := by decide +kernel
theorem dX11_apartDraws_49 : decode cX11_apartDraws 49 = .ok (.goto (-34), 3) := by decide +kernel
theorem dX11_apartDraws_52 : decode cX11_apartDraws 52 = .ok (.iinc 5 1, 3) := by decide +kernel
theorem dX11_apartDraws_55 : decode cX11_apartDraws 55 = .ok (.goto (-49), 3) := by decide +kernel
theorem dX11_apartDraws_58 : decode cX11_apartDraws 58 = .ok (.iload 4, 2) := by decide +kernel
theorem dX11_apartDraws_60 : decode cX11_apartDraws 60 = .ok (.ireturn, 1) := by decide +kernel
theorem dX11_whoYields_0 : decode cX11_whoYields 0 = .ok (.aload_n 0, 1) := by decide +kernel
theorem dX11_whoYields_1 : decode cX11_whoYields 1 = .ok (.getfield 10, 3) := by decide +kernel
theorem dX11_whoYields_4 : decode cX11_whoYields 4 = .ok (.getfield 82, 3) := by decide +kernel
theorem dX11_whoYields_7 : decode cX11_whoYields 7 = .ok (.iload_n 1, 1) := by decide +kernel
theorem dX11_whoYields_8 : decode cX11_whoYields 8 = .ok (.iload_n 2, 1) := by decide +kernel
theorem dX11_whoYields_9 : decode cX11_whoYields 9 = .ok (.invokevirtual 292, 3) := by decide +kernel
theorem dX11_whoYields_12 : decode cX11_whoYields 12 = .ok (.istore 4, 2) := by decide +kernel
theorem dX11_whoYields_14 : decode cX11_whoYields 14 = .ok (.aload_n 0, 1) := by decide +kernel
theorem dX11_whoYields_15 : decode cX11_whoYields 15 = .ok (.getfield 10, 3) := by decide +kernel
theorem dX11_whoYields_18 : decode cX11_whoYields 18 = .ok (.getfield 82, 3) := by decide +kernel
theorem dX11_whoYields_21 : decode cX11_whoYields 21 = .ok (.iload_n 2, 1) := by decide +kernel
theorem dX11_whoYields_22 : decode cX11_whoYields 22 = .ok (.iload_n 1, 1) := by decide +kernel
theorem dX11_whoYields_23 : decode cX11_whoYields 23 = .ok (.invokevirtual 292, 3) := by decide +kernel
theorem dX11_whoYields_26 : decode cX11_whoYields 26 = .ok (.istore 5, 2) := by decide +kernel
theorem dX11_whoYields_28 : decode cX11_whoYields 28 = .ok (.iconst (-1), 1) := by decide +kernel
theorem dX11_whoYields_29 : decode cX11_whoYields 29 = .ok (.istore 6, 2) := by decide +kernel
theorem dX11_whoYields_31 : decode cX11_whoYields 31 = .ok (.iconst (-1), 1) := by decide +kernel
theorem dX11_whoYields_32 : decode cX11_whoYields 32 = .ok (.istore 7, 2) := by decide +kernel
theorem dX11_whoYields_34 : decode cX11_whoYields 34 = .ok (.iconst 0, 1) := by decide +kernel
theorem dX11_whoYields_35 : decode cX11_whoYields 35 = .ok (.istore 8, 2) := by decide +kernel
theorem dX11_whoYields_37 : decode cX11_whoYields 37 = .ok (.iconst 0, 1) := by decide +kernel
theorem dX11_whoYields_38 : decode cX11_whoYields 38 = .ok (.istore 9, 2) := by decide +kernel
theorem dX11_whoYields_40 : decode cX11_whoYields 40 = .ok (.iconst 0, 1) := by decide +kernel
theorem dX11_whoYields_41 : decode cX11_whoYields 41 = .ok (.istore 10, 2) := by decide +kernel
theorem dX11_whoYields_43 : decode cX11_whoYields 43 = .ok (.iconst 1, 1) := by decide +kernel
theorem dX11_whoYields_44 : decode cX11_whoYields 44 = .ok (.istore 11, 2) := by decide +kernel
theorem dX11_whoYields_46 : decode cX11_whoYields 46 = .ok (.iload 11, 2) := by decide +kernel
theorem dX11_whoYields_48 : decode cX11_whoYields 48 = .ok (.iload_n 3, 1) := by decide +kernel
theorem dX11_whoYields_49 : decode cX11_whoYields 49 = .ok (.bipush 99, 2) := by decide +kernel
theorem dX11_whoYields_51 : decode cX11_whoYields 51 = .ok (.iadd, 1) := by decide +kernel
theorem dX11_whoYields_52 : decode cX11_whoYields 52 = .ok (.if_icmp .gt 245, 3) := by decide +kernel
theorem dX11_whoYields_55 : decode cX11_whoYields 55 = .ok (.iload 6, 2) := by decide +kernel
theorem dX11_whoYields_57 : decode cX11_whoYields 57 = .ok (.iconst (-1), 1) := by decide +kernel
theorem dX11_whoYields_58 : decode cX11_whoYields 58 = .ok (.if_icmp .eq 9, 3) := by decide +kernel
theorem dX11_whoYields_61 : decode cX11_whoYields 61 = .ok (.iload 7, 2) := by decide +kernel
theorem dX11_whoYields_63 : decode cX11_whoYields 63 = .ok (.iconst (-1), 1) := by decide +kernel
theorem dX11_whoYields_64 : decode cX11_whoYields 64 = .ok (.if_icmp .ne 233, 3) := by decide +kernel
theorem dX11_whoYields_67 : decode cX11_whoYields 67 = .ok (.iload 11, 2) := by decide +kernel
theorem dX11_whoYields_69 : decode cX11_whoYields 69 = .ok (.iload 5, 2) := by decide +kernel
theorem dX11_whoYields_71 : decode cX11_whoYields 71 = .ok (.isub, 1) := by decide +kernel
theorem dX11_whoYields_72 : decode cX11_whoYields 72 = .ok (.iload_n 3, 1) := by decide +kernel
theorem dX11_whoYields_73 : decode cX11_whoYields 73 = .ok (.iload 7, 2) := by decide +kernel
theorem dX11_whoYields_75 : decode cX11_whoYields 75 = .ok (.invokestatic 392, 3) := by decide +kernel
theorem dX11_whoYields_78 : decode cX11_whoYields 78 = .ok (.istore 12, 2) := by decide +kernel
theorem dX11_whoYields_80 : decode cX11_whoYields 80 = .ok (.iload 11, 2) := by decide +kernel
theorem dX11_whoYields_82 : decode cX11_whoYields 82 = .ok (.iload 4, 2) := by decide +kernel
theorem dX11_whoYields_84 : decode cX11_whoYields 84 = .ok (.isub, 1) := by decide +kernel
theorem dX11_whoYields_85 : decode cX11_whoYields 85 = .ok (.iconst 0, 1) := by decide +kernel
theorem dX11_whoYields_86 : decode cX11_whoYields 86 = .ok (.iload 6, 2) := by decide +kernel
theorem dX11_whoYields_88 : decode cX11_whoYields 88 = .ok (.invokestatic 392, 3) := by decide +kernel
theorem dX11_whoYields_91 : decode cX11_whoYields 91 = .ok (.istore 13, 2) := by decide +kernel
theorem dX11_whoYields_93 : decode cX11_whoYields 93 = .ok (.iload 12, 2) := by decide +kernel
theorem dX11_whoYields_95 : decode cX11_whoYields 95 = .ok (.ifCond .eq 10, 3) := by decide +kernel
theorem dX11_whoYields_98 : decode cX11_whoYields 98 = .ok (.iload 8, 2) := by decide +kernel
theorem dX11_whoYields_100 : decode cX11_whoYields 100 = .ok (.iconst 1, 1) := by decide +kernel
theorem dX11_whoYields_101 : decode cX11_whoYields 101 = .ok (.iadd, 1) := by decide +kernel
theorem dX11_whoYields_102 : decode cX11_whoYields 102 = .ok (.goto 4, 3) := by decide +kernel
theorem dX11_whoYields_105 : decode cX11_whoYields 105 = .ok (.iconst 0, 1) := by decide +kernel
theorem dX11_whoYields_106 : decode cX11_whoYields 106 = .ok (.istore 8, 2) := by decide +kernel
theorem dX11_whoYields_108 : decode cX11_whoYields 108 = .ok (.iload 13, 2) := by decide +kernel
theorem dX11_whoYields_110 : decode cX11_whoYields 110 = .ok (.ifCond .eq 16, 3) := by decide +kernel
theorem dX11_whoYields_113 : decode cX11_whoYields 113 = .ok (.iload 11, 2) := by decide +kernel
theorem dX11_whoYields_115 : decode cX11_whoYields 115 = .ok (.iload_n 3, 1) := by decide +kernel
theorem dX11_whoYields_116 : decode cX11_whoYields 116 = .ok (.if_icmp .le 10, 3) := by decide +kernel
theorem dX11_whoYields_119 : decode cX11_whoYields 119 = .ok (.iload 9, 2) := by decide +kernel
theorem dX11_whoYields_121 : decode cX11_whoYields 121 = .ok (.iconst 1, 1) := by decide +kernel
theorem dX11_whoYields_122 : decode cX11_whoYields 122 = .ok (.iadd, 1) := by decide +kernel
theorem dX11_whoYields_123 : decode cX11_whoYields 123 = .ok (.goto 4, 3) := by decide +kernel
theorem dX11_whoYields_126 : decode cX11_whoYields 126 = .ok (.iconst 0, 1) := by decide +kernel
theorem dX11_whoYields_127 : decode cX11_whoYields 127 = .ok (.istore 9, 2) := by decide +kernel
theorem dX11_whoYields_129 : decode cX11_whoYields 129 = .ok (.iload 6, 2) := by decide +kernel
theorem dX11_whoYields_131 : decode cX11_whoYields 131 = .ok (.iconst (-1), 1) := by decide +kernel
theorem dX11_whoYields_132 : decode cX11_whoYields 132 = .ok (.if_icmp .ne 77, 3) := by decide +kernel
theorem dX11_whoYields_135 : decode cX11_whoYields 135 = .ok (.iload 8, 2) := by decide +kernel
theorem dX11_whoYields_137 : decode cX11_whoYields 137 = .ok (.ifCond .le 24, 3) := by decide +kernel
theorem dX11_whoYields_140 : decode cX11_whoYields 140 = .ok (.iload 8, 2) := by decide +kernel
theorem dX11_whoYields_142 : decode cX11_whoYields 142 = .ok (.aload_n 0, 1) := by decide +kernel
theorem dX11_whoYields_143 : decode cX11_whoYields 143 = .ok (.getfield 10, 3) := by decide +kernel
theorem dX11_whoYields_146 : decode cX11_whoYields 146 = .ok (.getfield 64, 3) := by decide +kernel
theorem dX11_whoYields_149 : decode cX11_whoYields 149 = .ok (.getfield 395, 3) := by decide +kernel
theorem dX11_whoYields_152 : decode cX11_whoYields 152 = .ok (.iload_n 1, 1) := by decide +kernel
theorem dX11_whoYields_153 : decode cX11_whoYields 153 = .ok (.iaload, 1) := by decide +kernel
theorem dX11_whoYields_154 : decode cX11_whoYields 154 = .ok (.if_icmp .ne 7, 3) := by decide +kernel
theorem dX11_whoYields_157 : decode cX11_whoYields 157 = .ok (.iconst 1, 1) := by decide +kernel
theorem dX11_whoYields_158 : decode cX11_whoYields 158 = .ok (.goto 4, 3) := by decide +kernel
theorem dX11_whoYields_161 : decode cX11_whoYields 161 = .ok (.iconst 0, 1) := by decide +kernel
theorem dX11_whoYields_162 : decode cX11_whoYields 162 = .ok (.istore 14, 2) := by decide +kernel
theorem dX11_whoYields_164 : decode cX11_whoYields 164 = .ok (.iload 10, 2) := by decide +kernel
theorem dX11_whoYields_166 : decode cX11_whoYields 166 = .ok (.iload 14, 2) := by decide +kernel
theorem dX11_whoYields_168 : decode cX11_whoYields 168 = .ok (.ifCond .eq 7, 3) := by decide +kernel
theorem dX11_whoYields_171 : decode cX11_whoYields 171 = .ok (.iconst 1, 1) := by decide +kernel
theorem dX11_whoYields_172 : decode cX11_whoYields 172 = .ok (.goto 4, 3) := by decide +kernel
theorem dX11_whoYields_175 : decode cX11_whoYields 175 = .ok (.iconst 0, 1) := by decide +kernel
theorem dX11_whoYields_176 : decode cX11_whoYields 176 = .ok (.ior, 1) := by decide +kernel
theorem dX11_whoYields_177 : decode cX11_whoYields 177 = .ok (.istore 10, 2) := by decide +kernel
theorem dX11_whoYields_179 : decode cX11_whoYields 179 = .ok (.iload 14, 2) := by decide +kernel
theorem dX11_whoYields_181 : decode cX11_whoYields 181 = .ok (.ifCond .ne 20, 3) := by decide +kernel
theorem dX11_whoYields_184 : decode cX11_whoYields 184 = .ok (.iload 11, 2) := by decide +kernel
theorem dX11_whoYields_186 : decode cX11_whoYields 186 = .ok (.aload_n 0, 1) := by decide +kernel
theorem dX11_whoYields_187 : decode cX11_whoYields 187 = .ok (.getfield 10, 3) := by decide +kernel
theorem dX11_whoYields_190 : decode cX11_whoYields 190 = .ok (.getfield 64, 3) := by decide +kernel
theorem dX11_whoYields_193 : decode cX11_whoYields 193 = .ok (.getfield 398, 3) := by decide +kernel
theorem dX11_whoYields_196 : decode cX11_whoYields 196 = .ok (.iload_n 1, 1) := by decide +kernel
theorem dX11_whoYields_197 : decode cX11_whoYields 197 = .ok (.iaload, 1) := by decide +kernel
theorem dX11_whoYields_198 : decode cX11_whoYields 198 = .ok (.if_icmp .lt 8, 3) := by decide +kernel
theorem dX11_whoYields_201 : decode cX11_whoYields 201 = .ok (.iload 11, 2) := by decide +kernel
theorem dX11_whoYields_203 : decode cX11_whoYields 203 = .ok (.goto 4, 3) := by decide +kernel
theorem dX11_whoYields_206 : decode cX11_whoYields 206 = .ok (.iconst (-1), 1) := by decide +kernel
theorem dX11_whoYields_207 : decode cX11_whoYields 207 = .ok (.istore 6, 2) := by decide +kernel
theorem dX11_whoYields_209 : decode cX11_whoYields 209 = .ok (.iload 7, 2) := by decide +kernel
theorem dX11_whoYields_211 : decode cX11_whoYields 211 = .ok (.iconst (-1), 1) := by decide +kernel
theorem dX11_whoYields_212 : decode cX11_whoYields 212 = .ok (.if_icmp .ne 79, 3) := by decide +kernel
theorem dX11_whoYields_215 : decode cX11_whoYields 215 = .ok (.iload 9, 2) := by decide +kernel
theorem dX11_whoYields_217 : decode cX11_whoYields 217 = .ok (.ifCond .le 24, 3) := by decide +kernel
theorem dX11_whoYields_220 : decode cX11_whoYields 220 = .ok (.iload 9, 2) := by decide +kernel
theorem dX11_whoYields_222 : decode cX11_whoYields 222 = .ok (.aload_n 0, 1) := by decide +kernel
theorem dX11_whoYields_223 : decode cX11_whoYields 223 = .ok (.getfield 10, 3) := by decide +kernel
theorem dX11_whoYields_226 : decode cX11_whoYields 226 = .ok (.getfield 64, 3) := by decide +kernel
theorem dX11_whoYields_229 : decode cX11_whoYields 229 = .ok (.getfield 395, 3) := by decide +kernel
theorem dX11_whoYields_232 : decode cX11_whoYields 232 = .ok (.iload_n 2, 1) := by decide +kernel
theorem dX11_whoYields_233 : decode cX11_whoYields 233 = .ok (.iaload, 1) := by decide +kernel
theorem dX11_whoYields_234 : decode cX11_whoYields 234 = .ok (.if_icmp .ne 7, 3) := by decide +kernel
theorem dX11_whoYields_237 : decode cX11_whoYields 237 = .ok (.iconst 1, 1) := by decide +kernel
theorem dX11_whoYields_238 : decode cX11_whoYields 238 = .ok (.goto 4, 3) := by decide +kernel
theorem dX11_whoYields_241 : decode cX11_whoYields 241 = .ok (.iconst 0, 1) := by decide +kernel
theorem dX11_whoYields_242 : decode cX11_whoYields 242 = .ok (.istore 14, 2) := by decide +kernel
theorem dX11_whoYields_244 : decode cX11_whoYields 244 = .ok (.iload 10, 2) := by decide +kernel
theorem dX11_whoYields_246 : decode cX11_whoYields 246 = .ok (.iload 14, 2) := by decide +kernel
theorem dX11_whoYields_248 : decode cX11_whoYields 248 = .ok (.ifCond .eq 7, 3) := by decide +kernel
theorem dX11_whoYields_251 : decode cX11_whoYields 251 = .ok (.iconst 2, 1) := by decide +kernel
theorem dX11_whoYields_252 : decode cX11_whoYields 252 = .ok (.goto 4, 3) := by decide +kernel
theorem dX11_whoYields_255 : decode cX11_whoYields 255 = .ok (.iconst 0, 1) := by decide +kernel
theorem dX11_whoYields_256 : decode cX11_whoYields 256 = .ok (.ior, 1) := by decide +kernel
theorem dX11_whoYields_257 : decode cX11_whoYields 257 = .ok (.istore 10, 2) := by decide +kernel
theorem dX11_whoYields_259 : decode cX11_whoYields 259 = .ok (.iload 14, 2) := by decide +kernel
theorem dX11_whoYields_261 : decode cX11_whoYields 261 = .ok (.ifCond .ne 22, 3) := by decide +kernel
theorem dX11_whoYields_264 : decode cX11_whoYields 264 = .ok (.iload 11, 2) := by decide +kernel
theorem dX11_whoYields_266 : decode cX11_whoYields 266 = .ok (.iload_n 3, 1) := by decide +kernel
theorem dX11_whoYields_267 : decode cX11_whoYields 267 = .ok (.aload_n 0, 1) := by decide +kernel
theorem dX11_whoYields_268 : decode cX11_whoYields 268 = .ok (.getfield 10, 3) := by decide +kernel
theorem dX11_whoYields_271 : decode cX11_whoYields 271 = .ok (.getfield 64, 3) := by decide +kernel
theorem dX11_whoYields_274 : decode cX11_whoYields 274 = .ok (.getfield 398, 3) := by decide +kernel
theorem dX11_whoYields_277 : decode cX11_whoYields 277 = .ok (.iload_n 2, 1) := by decide +kernel
theorem dX11_whoYields_278 : decode cX11_whoYields 278 = .ok (.iaload, 1) := by decide +kernel
theorem dX11_whoYields_279 : decode cX11_whoYields 279 = .ok (.iadd, 1) := by decide +kernel
theorem dX11_whoYields_280 : decode cX11_whoYields 280 = .ok (.if_icmp .lt 8, 3) := by decide +kernel
theorem dX11_whoYields_283 : decode cX11_whoYields 283 = .ok (.iload 11, 2) := by decide +kernel
theorem dX11_whoYields_285 : decode cX11_whoYields 285 = .ok (.goto 4, 3) := by decide +kernel
theorem dX11_whoYields_288 : decode cX11_whoYields 288 = .ok (.iconst (-1), 1) := by decide +kernel
theorem dX11_whoYields_289 : decode cX11_whoYields 289 = .ok (.istore 7, 2) := by decide +kernel
theorem dX11_whoYields_291 : decode cX11_whoYields 291 = .ok (.iinc 11 1, 3) := by decide +kernel
theorem dX11_whoYields_294 : decode cX11_whoYields 294 = .ok (.goto (-248), 3) := by decide +kernel
theorem dX11_whoYields_297 : decode cX11_whoYields 297 = .ok (.iload 10, 2) := by decide +kernel
theorem dX11_whoYields_299 : decode cX11_whoYields 299 = .ok (.ireturn, 1) := by decide +kernel
theorem dX11_isSpokenIn_0 : decode cX11_isSpokenIn 0 = .ok (.iload_n 0, 1) := by decide +kernel
theorem dX11_isSpokenIn_1 : decode cX11_isSpokenIn 1 = .ok (.iload_n 1, 1) := by decide +kernel
theorem dX11_isSpokenIn_2 : decode cX11_isSpokenIn 2 = .ok (.if_icmp .lt 17, 3) := by decide +kernel
theorem dX11_isSpokenIn_5 : decode cX11_isSpokenIn 5 = .ok (.iload_n 2, 1) := by decide +kernel
theorem dX11_isSpokenIn_6 : decode cX11_isSpokenIn 6 = .ok (.iconst (-1), 1) := by decide +kernel
theorem dX11_isSpokenIn_7 : decode cX11_isSpokenIn 7 = .ok (.if_icmp .eq 8, 3) := by decide +kernel
theorem dX11_isSpokenIn_10 : decode cX11_isSpokenIn 10 = .ok (.iload_n 0, 1) := by decide +kernel
theorem dX11_isSpokenIn_11 : decode cX11_isSpokenIn 11 = .ok (.iload_n 2, 1) := by decide +kernel
theorem dX11_isSpokenIn_12 : decode cX11_isSpokenIn 12 = .ok (.if_icmp .ge 7, 3) := by decide +kernel
theorem dX11_isSpokenIn_15 : decode cX11_isSpokenIn 15 = .ok (.iconst 1, 1) := by decide +kernel
theorem dX11_isSpokenIn_16 : decode cX11_isSpokenIn 16 = .ok (.goto 4, 3) := by decide +kernel
theorem dX11_isSpokenIn_19 : decode cX11_isSpokenIn 19 = .ok (.iconst 0, 1) := by decide +kernel
theorem dX11_isSpokenIn_20 : decode cX11_isSpokenIn 20 = .ok (.ireturn, 1) := by decide +kernel
theorem dX11_lowestTerm_0 : decode cX11_lowestTerm 0 = .ok (.iload_n 0, 1) := by decide +kernel
theorem dX11_lowestTerm_1 : decode cX11_lowestTerm 1 = .ok (.istore_n 3, 1) := by decide +kernel
theorem dX11_lowestTerm_2 : decode cX11_lowestTerm 2 = .ok (.iload_n 1, 1) := by decide +kernel
theorem dX11_lowestTerm_3 : decode cX11_lowestTerm 3 = .ok (.istore 4, 2) := by decide +kernel
theorem dX11_lowestTerm_5 : decode cX11_lowestTerm 5 = .ok (.iconst 0, 1) := by decide +kernel
theorem dX11_lowestTerm_6 : decode cX11_lowestTerm 6 = .ok (.istore 5, 2) := by decide +kernel
theorem dX11_lowestTerm_8 : decode cX11_lowestTerm 8 = .ok (.iload 5, 2) := by decide +kernel
theorem dX11_lowestTerm_10 : decode cX11_lowestTerm 10 = .ok (.bipush 64, 2) := by decide +kernel
theorem dX11_lowestTerm_12 : decode cX11_lowestTerm 12 = .ok (.if_icmp .ge 27, 3) := by decide +kernel
theorem dX11_lowestTerm_15 : decode cX11_lowestTerm 15 = .ok (.iload 4, 2) := by decide +kernel
theorem dX11_lowestTerm_17 : decode cX11_lowestTerm 17 = .ok (.ifCond .eq 22, 3) := by decide +kernel
theorem dX11_lowestTerm_20 : decode cX11_lowestTerm 20 = .ok (.iload_n 3, 1) := by decide +kernel
theorem dX11_lowestTerm_21 : decode cX11_lowestTerm 21 = .ok (.iload 4, 2) := by decide +kernel
theorem dX11_lowestTerm_23 : decode cX11_lowestTerm 23 = .ok (.irem, 1) := by decide +kernel
theorem dX11_lowestTerm_24 : decode cX11_lowestTerm 24 = .ok (.istore 6, 2) := by decide +kernel
theorem dX11_lowestTerm_26 : decode cX11_lowestTerm 26 = .ok (.iload 4, 2) := by decide +kernel
theorem dX11_lowestTerm_28 : decode cX11_lowestTerm 28 = .ok (.istore_n 3, 1) := by decide +kernel
theorem dX11_lowestTerm_29 : decode cX11_lowestTerm 29 = .ok (.iload 6, 2) := by decide +kernel
theorem dX11_lowestTerm_31 : decode cX11_lowestTerm 31 = .ok (.istore 4, 2) := by decide +kernel
theorem dX11_lowestTerm_33 : decode cX11_lowestTerm 33 = .ok (.iinc 5 1, 3) := by decide +kernel
theorem dX11_lowestTerm_36 : decode cX11_lowestTerm 36 = .ok (.goto (-28), 3) := by decide +kernel
theorem dX11_lowestTerm_39 : decode cX11_lowestTerm 39 = .ok (.iload_n 3, 1) := by decide +kernel
theorem dX11_lowestTerm_40 : decode cX11_lowestTerm 40 = .ok (.ifCond .ne 5, 3) := by decide +kernel
theorem dX11_lowestTerm_43 : decode cX11_lowestTerm 43 = .ok (.iconst 0, 1) := by decide +kernel
theorem dX11_lowestTerm_44 : decode cX11_lowestTerm 44 = .ok (.ireturn, 1) := by decide +kernel
theorem dX11_lowestTerm_45 : decode cX11_lowestTerm 45 = .ok (.iload_n 2, 1) := by decide +kernel
theorem dX11_lowestTerm_46 : decode cX11_lowestTerm 46 = .ok (.ifCond .eq 7, 3) := by decide +kernel
theorem dX11_lowestTerm_49 : decode cX11_lowestTerm 49 = .ok (.iload_n 1, 1) := by decide +kernel
theorem dX11_lowestTerm_50 : decode cX11_lowestTerm 50 = .ok (.goto 4, 3) := by decide +kernel
theorem dX11_lowestTerm_53 : decode cX11_lowestTerm 53 = .ok (.iload_n 0, 1) := by decide +kernel
theorem dX11_lowestTerm_54 : decode cX11_lowestTerm 54 = .ok (.iload_n 3, 1) := by decide +kernel
theorem dX11_lowestTerm_55 : decode cX11_lowestTerm 55 = .ok (.idiv, 1) := by decide +kernel
theorem dX11_lowestTerm_56 : decode cX11_lowestTerm 56 = .ok (.ireturn, 1) := by decide +kernel
