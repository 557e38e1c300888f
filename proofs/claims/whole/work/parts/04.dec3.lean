theorem dX7_isSilent_20 : decode cX7_isSilent 20 = .ok (.iconst 2, 1) := by decide +kernel
theorem dX7_isSilent_21 : decode cX7_isSilent 21 = .ok (.goto 4, 3) := by decide +kernel
theorem dX7_isSilent_24 : decode cX7_isSilent 24 = .ok (.iconst 0, 1) := by decide +kernel
theorem dX7_isSilent_25 : decode cX7_isSilent 25 = .ok (.putfield 47, 3) := by decide +kernel
theorem dX7_isSilent_28 : decode cX7_isSilent 28 = .ok (.aload_n 0, 1) := by decide +kernel
theorem dX7_isSilent_29 : decode cX7_isSilent 29 = .ok (.getfield 47, 3) := by decide +kernel
theorem dX7_isSilent_32 : decode cX7_isSilent 32 = .ok (.ifCond .le 7, 3) := by decide +kernel
theorem dX7_isSilent_35 : decode cX7_isSilent 35 = .ok (.iconst 1, 1) := by decide +kernel
theorem dX7_isSilent_36 : decode cX7_isSilent 36 = .ok (.goto 4, 3) := by decide +kernel
theorem dX7_isSilent_39 : decode cX7_isSilent 39 = .ok (.iconst 0, 1) := by decide +kernel
theorem dX7_isSilent_40 : decode cX7_isSilent 40 = .ok (.ireturn, 1) := by decide +kernel
theorem dX7_keyOf_0 : decode cX7_keyOf 0 = .ok (.aload_n 0, 1) := by decide +kernel
theorem dX7_keyOf_1 : decode cX7_keyOf 1 = .ok (.iload_n 1, 1) := by decide +kernel
theorem dX7_keyOf_2 : decode cX7_keyOf 2 = .ok (.invokevirtual 162, 3) := by decide +kernel
theorem dX7_keyOf_5 : decode cX7_keyOf 5 = .ok (.ifCond .eq 7, 3) := by decide +kernel
theorem dX7_keyOf_8 : decode cX7_keyOf 8 = .ok (.iconst 0, 1) := by decide +kernel
theorem dX7_keyOf_9 : decode cX7_keyOf 9 = .ok (.goto 9, 3) := by decide +kernel
theorem dX7_keyOf_12 : decode cX7_keyOf 12 = .ok (.aload_n 0, 1) := by decide +kernel
theorem dX7_keyOf_13 : decode cX7_keyOf 13 = .ok (.iload_n 1, 1) := by decide +kernel
theorem dX7_keyOf_14 : decode cX7_keyOf 14 = .ok (.iconst 2, 1) := by decide +kernel
theorem dX7_keyOf_15 : decode cX7_keyOf 15 = .ok (.invokevirtual 132, 3) := by decide +kernel
theorem dX7_keyOf_18 : decode cX7_keyOf 18 = .ok (.ireturn, 1) := by decide +kernel
theorem dX7_levelOf_0 : decode cX7_levelOf 0 = .ok (.aload_n 0, 1) := by decide +kernel
theorem dX7_levelOf_1 : decode cX7_levelOf 1 = .ok (.iload_n 1, 1) := by decide +kernel
theorem dX7_levelOf_2 : decode cX7_levelOf 2 = .ok (.invokestatic 159, 3) := by decide +kernel
theorem dX7_levelOf_5 : decode cX7_levelOf 5 = .ok (.invokevirtual 121, 3) := by decide +kernel
theorem dX7_levelOf_8 : decode cX7_levelOf 8 = .ok (.ifCond .le 7, 3) := by decide +kernel
theorem dX7_levelOf_11 : decode cX7_levelOf 11 = .ok (.iconst 0, 1) := by decide +kernel
theorem dX7_levelOf_12 : decode cX7_levelOf 12 = .ok (.goto 8, 3) := by decide +kernel
theorem dX7_levelOf_15 : decode cX7_levelOf 15 = .ok (.aload_n 0, 1) := by decide +kernel
theorem dX7_levelOf_16 : decode cX7_levelOf 16 = .ok (.iload_n 1, 1) := by decide +kernel
theorem dX7_levelOf_17 : decode cX7_levelOf 17 = .ok (.invokevirtual 149, 3) := by decide +kernel
theorem dX7_levelOf_20 : decode cX7_levelOf 20 = .ok (.ireturn, 1) := by decide +kernel
theorem dX7_phaseOf_0 : decode cX7_phaseOf 0 = .ok (.aload_n 0, 1) := by decide +kernel
theorem dX7_phaseOf_1 : decode cX7_phaseOf 1 = .ok (.iload_n 1, 1) := by decide +kernel
theorem dX7_phaseOf_2 : decode cX7_phaseOf 2 = .ok (.invokevirtual 162, 3) := by decide +kernel
theorem dX7_phaseOf_5 : decode cX7_phaseOf 5 = .ok (.ifCond .eq 7, 3) := by decide +kernel
theorem dX7_phaseOf_8 : decode cX7_phaseOf 8 = .ok (.iconst 0, 1) := by decide +kernel
theorem dX7_phaseOf_9 : decode cX7_phaseOf 9 = .ok (.goto 10, 3) := by decide +kernel
theorem dX7_phaseOf_12 : decode cX7_phaseOf 12 = .ok (.aload_n 0, 1) := by decide +kernel
theorem dX7_phaseOf_13 : decode cX7_phaseOf 13 = .ok (.iload_n 1, 1) := by decide +kernel
theorem dX7_phaseOf_14 : decode cX7_phaseOf 14 = .ok (.bipush 9, 2) := by decide +kernel
theorem dX7_phaseOf_16 : decode cX7_phaseOf 16 = .ok (.invokevirtual 132, 3) := by decide +kernel
theorem dX7_phaseOf_19 : decode cX7_phaseOf 19 = .ok (.ireturn, 1) := by decide +kernel
theorem dX7_stolen_0 : decode cX7_stolen 0 = .ok (.aload_n 0, 1) := by decide +kernel
theorem dX7_stolen_1 : decode cX7_stolen 1 = .ok (.aload_n 0, 1) := by decide +kernel
theorem dX7_stolen_2 : decode cX7_stolen 2 = .ok (.getfield 72, 3) := by decide +kernel
theorem dX7_stolen_5 : decode cX7_stolen 5 = .ok (.invokevirtual 125, 3) := by decide +kernel
theorem dX7_stolen_8 : decode cX7_stolen 8 = .ok (.ireturn, 1) := by decide +kernel
theorem dX7_baseOf_0 : decode cX7_baseOf 0 = .ok (.iload_n 0, 1) := by decide +kernel
theorem dX7_baseOf_1 : decode cX7_baseOf 1 = .ok (.bipush 6, 2) := by decide +kernel
theorem dX7_baseOf_3 : decode cX7_baseOf 3 = .ok (.if_icmp .ge 40, 3) := by decide +kernel
theorem dX7_baseOf_6 : decode cX7_baseOf 6 = .ok (.iload_n 0, 1) := by decide +kernel
theorem dX7_baseOf_7 : decode cX7_baseOf 7 = .ok (.iconst 3, 1) := by decide +kernel
theorem dX7_baseOf_8 : decode cX7_baseOf 8 = .ok (.if_icmp .ge 12, 3) := by decide +kernel
theorem dX7_baseOf_11 : decode cX7_baseOf 11 = .ok (.bipush 64, 2) := by decide +kernel
theorem dX7_baseOf_13 : decode cX7_baseOf 13 = .ok (.iconst 4, 1) := by decide +kernel
theorem dX7_baseOf_14 : decode cX7_baseOf 14 = .ok (.iload_n 0, 1) := by decide +kernel
theorem dX7_baseOf_15 : decode cX7_baseOf 15 = .ok (.imul, 1) := by decide +kernel
theorem dX7_baseOf_16 : decode cX7_baseOf 16 = .ok (.iadd, 1) := by decide +kernel
theorem dX7_baseOf_17 : decode cX7_baseOf 17 = .ok (.goto 25, 3) := by decide +kernel
theorem dX7_baseOf_20 : decode cX7_baseOf 20 = .ok (.iload_n 0, 1) := by decide +kernel
theorem dX7_baseOf_21 : decode cX7_baseOf 21 = .ok (.iconst 3, 1) := by decide +kernel
theorem dX7_baseOf_22 : decode cX7_baseOf 22 = .ok (.if_icmp .ne 8, 3) := by decide +kernel
theorem dX7_baseOf_25 : decode cX7_baseOf 25 = .ok (.bipush 76, 2) := by decide +kernel
theorem dX7_baseOf_27 : decode cX7_baseOf 27 = .ok (.goto 15, 3) := by decide +kernel
theorem dX7_baseOf_30 : decode cX7_baseOf 30 = .ok (.iload_n 0, 1) := by decide +kernel
theorem dX7_baseOf_31 : decode cX7_baseOf 31 = .ok (.iconst 4, 1) := by decide +kernel
theorem dX7_baseOf_32 : decode cX7_baseOf 32 = .ok (.if_icmp .ne 8, 3) := by decide +kernel
theorem dX7_baseOf_35 : decode cX7_baseOf 35 = .ok (.bipush 81, 2) := by decide +kernel
theorem dX7_baseOf_37 : decode cX7_baseOf 37 = .ok (.goto 5, 3) := by decide +kernel
theorem dX7_baseOf_40 : decode cX7_baseOf 40 = .ok (.bipush 85, 2) := by decide +kernel
theorem dX7_baseOf_42 : decode cX7_baseOf 42 = .ok (.ireturn, 1) := by decide +kernel
theorem dX7_baseOf_43 : decode cX7_baseOf 43 = .ok (.iload_n 0, 1) := by decide +kernel
theorem dX7_baseOf_44 : decode cX7_baseOf 44 = .ok (.bipush 11, 2) := by decide +kernel
theorem dX7_baseOf_46 : decode cX7_baseOf 46 = .ok (.if_icmp .ge 16, 3) := by decide +kernel
theorem dX7_baseOf_49 : decode cX7_baseOf 49 = .ok (.bipush 90, 2) := by decide +kernel
theorem dX7_baseOf_51 : decode cX7_baseOf 51 = .ok (.bipush 6, 2) := by decide +kernel
theorem dX7_baseOf_53 : decode cX7_baseOf 53 = .ok (.iload_n 0, 1) := by decide +kernel
theorem dX7_baseOf_54 : decode cX7_baseOf 54 = .ok (.bipush 6, 2) := by decide +kernel
theorem dX7_baseOf_56 : decode cX7_baseOf 56 = .ok (.isub, 1) := by decide +kernel
theorem dX7_baseOf_57 : decode cX7_baseOf 57 = .ok (.imul, 1) := by decide +kernel
theorem dX7_baseOf_58 : decode cX7_baseOf 58 = .ok (.iadd, 1) := by decide +kernel
theorem dX7_baseOf_59 : decode cX7_baseOf 59 = .ok (.goto 5, 3) := by decide +kernel
theorem dX7_baseOf_62 : decode cX7_baseOf 62 = .ok (.bipush 121, 2) := by decide +kernel
theorem dX7_baseOf_64 : decode cX7_baseOf 64 = .ok (.ireturn, 1) := by decide +kernel
theorem dX7_stepOf_0 : decode cX7_stepOf 0 = .ok (.iload_n 0, 1) := by decide +kernel
theorem dX7_stepOf_1 : decode cX7_stepOf 1 = .ok (.bipush 12, 2) := by decide +kernel
theorem dX7_stepOf_3 : decode cX7_stepOf 3 = .ok (.irem, 1) := by decide +kernel
theorem dX7_stepOf_4 : decode cX7_stepOf 4 = .ok (.invokestatic 165, 3) := by decide +kernel
theorem dX7_stepOf_7 : decode cX7_stepOf 7 = .ok (.iload_n 0, 1) := by decide +kernel
theorem dX7_stepOf_8 : decode cX7_stepOf 8 = .ok (.bipush 12, 2) := by decide +kernel
theorem dX7_stepOf_10 : decode cX7_stepOf 10 = .ok (.idiv, 1) := by decide +kernel
theorem dX7_stepOf_11 : decode cX7_stepOf 11 = .ok (.ishl, 1) := by decide +kernel
theorem dX7_stepOf_12 : decode cX7_stepOf 12 = .ok (.ireturn, 1) := by decide +kernel
theorem dX7_valueOf_0 : decode cX7_valueOf 0 = .ok (.iload_n 0, 1) := by decide +kernel
theorem dX7_valueOf_1 : decode cX7_valueOf 1 = .ok (.bipush 115, 2) := by decide +kernel
theorem dX7_valueOf_3 : decode cX7_valueOf 3 = .ok (.if_icmp .ne 12, 3) := by decide +kernel
theorem dX7_valueOf_6 : decode cX7_valueOf 6 = .ok (.iload_n 1, 1) := by decide +kernel
theorem dX7_valueOf_7 : decode cX7_valueOf 7 = .ok (.bipush 32, 2) := by decide +kernel
theorem dX7_valueOf_9 : decode cX7_valueOf 9 = .ok (.idiv, 1) := by decide +kernel
theorem dX7_valueOf_10 : decode cX7_valueOf 10 = .ok (.sipush 1024, 3) := by decide +kernel
theorem dX7_valueOf_13 : decode cX7_valueOf 13 = .ok (.isub, 1) := by decide +kernel
theorem dX7_valueOf_14 : decode cX7_valueOf 14 = .ok (.ireturn, 1) := by decide +kernel
theorem dX7_valueOf_15 : decode cX7_valueOf 15 = .ok (.iload_n 0, 1) := by decide +kernel
theorem dX7_valueOf_16 : decode cX7_valueOf 16 = .ok (.bipush 113, 2) := by decide +kernel
theorem dX7_valueOf_18 : decode cX7_valueOf 18 = .ok (.if_icmp .ne 19, 3) := by decide +kernel
theorem dX7_valueOf_21 : decode cX7_valueOf 21 = .ok (.iload_n 1, 1) := by decide +kernel
theorem dX7_valueOf_22 : decode cX7_valueOf 22 = .ok (.ldc 168, 2) := by decide +kernel
theorem dX7_valueOf_24 : decode cX7_valueOf 24 = .ok (.if_icmp .ge 9, 3) := by decide +kernel
theorem dX7_valueOf_27 : decode cX7_valueOf 27 = .ok (.sipush 1000, 3) := by decide +kernel
theorem dX7_valueOf_30 : decode cX7_valueOf 30 = .ok (.goto 6, 3) := by decide +kernel
theorem dX7_valueOf_33 : decode cX7_valueOf 33 = .ok (.sipush (-1000), 3) := by decide +kernel
theorem dX7_valueOf_36 : decode cX7_valueOf 36 = .ok (.ireturn, 1) := by decide +kernel
theorem dX7_valueOf_37 : decode cX7_valueOf 37 = .ok (.iload_n 1, 1) := by decide +kernel
theorem dX7_valueOf_38 : decode cX7_valueOf 38 = .ok (.ldc 168, 2) := by decide +kernel
theorem dX7_valueOf_40 : decode cX7_valueOf 40 = .ok (.if_icmp .ge 7, 3) := by decide +kernel
theorem dX7_valueOf_43 : decode cX7_valueOf 43 = .ok (.iload_n 1, 1) := by decide +kernel
theorem dX7_valueOf_44 : decode cX7_valueOf 44 = .ok (.goto 7, 3) := by decide +kernel
theorem dX7_valueOf_47 : decode cX7_valueOf 47 = .ok (.ldc 169, 2) := by decide +kernel
theorem dX7_valueOf_49 : decode cX7_valueOf 49 = .ok (.iload_n 1, 1) := by decide +kernel
theorem dX7_valueOf_50 : decode cX7_valueOf 50 = .ok (.isub, 1) := by decide +kernel
theorem dX7_valueOf_51 : decode cX7_valueOf 51 = .ok (.bipush 16, 2) := by decide +kernel
theorem dX7_valueOf_53 : decode cX7_valueOf 53 = .ok (.idiv, 1) := by decide +kernel
theorem dX7_valueOf_54 : decode cX7_valueOf 54 = .ok (.sipush 1024, 3) := by decide +kernel
theorem dX7_valueOf_57 : decode cX7_valueOf 57 = .ok (.isub, 1) := by decide +kernel
theorem dX7_valueOf_58 : decode cX7_valueOf 58 = .ok (.ireturn, 1) := by decide +kernel
theorem dX7_sings_0 : decode cX7_sings 0 = .ok (.aload_n 0, 1) := by decide +kernel
theorem dX7_sings_1 : decode cX7_sings 1 = .ok (.iload_n 1, 1) := by decide +kernel
theorem dX7_sings_2 : decode cX7_sings 2 = .ok (.invokevirtual 135, 3) := by decide +kernel
theorem dX7_sings_5 : decode cX7_sings 5 = .ok (.ifCond .ne 5, 3) := by decide +kernel
theorem dX7_sings_8 : decode cX7_sings 8 = .ok (.iconst 0, 1) := by decide +kernel
theorem dX7_sings_9 : decode cX7_sings 9 = .ok (.ireturn, 1) := by decide +kernel
theorem dX7_sings_10 : decode cX7_sings 10 = .ok (.aload_n 0, 1) := by decide +kernel
theorem dX7_sings_11 : decode cX7_sings 11 = .ok (.iload_n 1, 1) := by decide +kernel
theorem dX7_sings_12 : decode cX7_sings 12 = .ok (.iconst 4, 1) := by decide +kernel
theorem dX7_sings_13 : decode cX7_sings 13 = .ok (.invokevirtual 132, 3) := by decide +kernel
theorem dX7_sings_16 : decode cX7_sings 16 = .ok (.aload_n 0, 1) := by decide +kernel
theorem dX7_sings_17 : decode cX7_sings 17 = .ok (.iload_n 1, 1) := by decide +kernel
theorem dX7_sings_18 : decode cX7_sings 18 = .ok (.bipush 9, 2) := by decide +kernel
theorem dX7_sings_20 : decode cX7_sings 20 = .ok (.invokevirtual 132, 3) := by decide +kernel
theorem dX7_sings_23 : decode cX7_sings 23 = .ok (.invokestatic 170, 3) := by decide +kernel
theorem dX7_sings_26 : decode cX7_sings 26 = .ok (.aload_n 0, 1) := by decide +kernel
theorem dX7_sings_27 : decode cX7_sings 27 = .ok (.iload_n 1, 1) := by decide +kernel
theorem dX7_sings_28 : decode cX7_sings 28 = .ok (.invokevirtual 149, 3) := by decide +kernel
theorem dX7_sings_31 : decode cX7_sings 31 = .ok (.imul, 1) := by decide +kernel
theorem dX7_sings_32 : decode cX7_sings 32 = .ok (.sipush 1000, 3) := by decide +kernel
theorem dX7_sings_35 : decode cX7_sings 35 = .ok (.idiv, 1) := by decide +kernel
theorem dX7_sings_36 : decode cX7_sings 36 = .ok (.aload_n 0, 1) := by decide +kernel
theorem dX7_sings_37 : decode cX7_sings 37 = .ok (.iload_n 1, 1) := by decide +kernel
theorem dX7_sings_38 : decode cX7_sings 38 = .ok (.iconst 3, 1) := by decide +kernel
theorem dX7_sings_39 : decode cX7_sings 39 = .ok (.invokevirtual 132, 3) := by decide +kernel
theorem dX7_sings_42 : decode cX7_sings 42 = .ok (.imul, 1) := by decide +kernel
theorem dX7_sings_43 : decode cX7_sings 43 = .ok (.bipush 100, 2) := by decide +kernel
theorem dX7_sings_45 : decode cX7_sings 45 = .ok (.idiv, 1) := by decide +kernel
theorem dX7_sings_46 : decode cX7_sings 46 = .ok (.istore_n 2, 1) := by decide +kernel
theorem dX7_sings_47 : decode cX7_sings 47 = .ok (.aload_n 0, 1) := by decide +kernel
theorem dX7_sings_48 : decode cX7_sings 48 = .ok (.iload_n 1, 1) := by decide +kernel
theorem dX7_sings_49 : decode cX7_sings 49 = .ok (.bipush 9, 2) := by decide +kernel
theorem dX7_sings_51 : decode cX7_sings 51 = .ok (.aload_n 0, 1) := by decide +kernel
theorem dX7_sings_52 : decode cX7_sings 52 = .ok (.iload_n 1, 1) := by decide +kernel
theorem dX7_sings_53 : decode cX7_sings 53 = .ok (.bipush 9, 2) := by decide +kernel
theorem dX7_sings_55 : decode cX7_sings 55 = .ok (.invokevirtual 132, 3) := by decide +kernel
theorem dX7_sings_58 : decode cX7_sings 58 = .ok (.aload_n 0, 1) := by decide +kernel
theorem dX7_sings_59 : decode cX7_sings 59 = .ok (.iload_n 1, 1) := by decide +kernel
theorem dX7_sings_60 : decode cX7_sings 60 = .ok (.iconst 2, 1) := by decide +kernel
theorem dX7_sings_61 : decode cX7_sings 61 = .ok (.invokevirtual 132, 3) := by decide +kernel
theorem dX7_sings_64 : decode cX7_sings 64 = .ok (.invokestatic 173, 3) := by decide +kernel
theorem dX7_sings_67 : decode cX7_sings 67 = .ok (.iadd, 1) := by decide +kernel
theorem dX7_sings_68 : decode cX7_sings 68 = .ok (.ldc 176, 2) := by decide +kernel
theorem dX7_sings_70 : decode cX7_sings 70 = .ok (.irem, 1) := by decide +kernel
theorem dX7_sings_71 : decode cX7_sings 71 = .ok (.invokevirtual 145, 3) := by decide +kernel
theorem dX7_sings_74 : decode cX7_sings 74 = .ok (.aload_n 0, 1) := by decide +kernel
theorem dX7_sings_75 : decode cX7_sings 75 = .ok (.iload_n 1, 1) := by decide +kernel
theorem dX7_sings_76 : decode cX7_sings 76 = .ok (.invokevirtual 138, 3) := by decide +kernel
theorem dX7_sings_79 : decode cX7_sings 79 = .ok (.ifCond .eq 46, 3) := by decide +kernel
theorem dX7_sings_82 : decode cX7_sings 82 = .ok (.aload_n 0, 1) := by decide +kernel
theorem dX7_sings_83 : decode cX7_sings 83 = .ok (.iload_n 1, 1) := by decide +kernel
theorem dX7_sings_84 : decode cX7_sings 84 = .ok (.bipush 12, 2) := by decide +kernel
theorem dX7_sings_86 : decode cX7_sings 86 = .ok (.aload_n 0, 1) := by decide +kernel
theorem dX7_sings_87 : decode cX7_sings 87 = .ok (.iload_n 1, 1) := by decide +kernel
theorem dX7_sings_88 : decode cX7_sings 88 = .ok (.bipush 12, 2) := by decide +kernel
theorem dX7_sings_90 : decode cX7_sings 90 = .ok (.invokevirtual 132, 3) := by decide +kernel
theorem dX7_sings_93 : decode cX7_sings 93 = .ok (.iconst 1, 1) := by decide +kernel
theorem dX7_sings_94 : decode cX7_sings 94 = .ok (.iadd, 1) := by decide +kernel
theorem dX7_sings_95 : decode cX7_sings 95 = .ok (.invokevirtual 145, 3) := by decide +kernel
theorem dX7_sings_98 : decode cX7_sings 98 = .ok (.aload_n 0, 1) := by decide +kernel
theorem dX7_sings_99 : decode cX7_sings 99 = .ok (.iload_n 1, 1) := by decide +kernel
theorem dX7_sings_100 : decode cX7_sings 100 = .ok (.bipush 12, 2) := by decide +kernel
theorem dX7_sings_102 : decode cX7_sings 102 = .ok (.invokevirtual 132, 3) := by decide +kernel
theorem dX7_sings_105 : decode cX7_sings 105 = .ok (.aload_n 0, 1) := by decide +kernel
theorem dX7_sings_106 : decode cX7_sings 106 = .ok (.iload_n 1, 1) := by decide +kernel
theorem dX7_sings_107 : decode cX7_sings 107 = .ok (.bipush 8, 2) := by decide +kernel
theorem dX7_sings_109 : decode cX7_sings 109 = .ok (.invokevirtual 132, 3) := by decide +kernel
theorem dX7_sings_112 : decode cX7_sings 112 = .ok (.if_icmp .ne 29, 3) := by decide +kernel
theorem dX7_sings_115 : decode cX7_sings 115 = .ok (.aload_n 0, 1) := by decide +kernel
theorem dX7_sings_116 : decode cX7_sings 116 = .ok (.iload_n 1, 1) := by decide +kernel
theorem dX7_sings_117 : decode cX7_sings 117 = .ok (.iconst 0, 1) := by decide +kernel
theorem dX7_sings_118 : decode cX7_sings 118 = .ok (.iconst 0, 1) := by decide +kernel
theorem dX7_sings_119 : decode cX7_sings 119 = .ok (.invokevirtual 145, 3) := by decide +kernel
theorem dX7_sings_122 : decode cX7_sings 122 = .ok (.goto 19, 3) := by decide +kernel
theorem dX7_sings_125 : decode cX7_sings 125 = .ok (.aload_n 0, 1) := by decide +kernel
theorem dX7_sings_126 : decode cX7_sings 126 = .ok (.iload_n 1, 1) := by decide +kernel
theorem dX7_sings_127 : decode cX7_sings 127 = .ok (.bipush 10, 2) := by decide +kernel
theorem dX7_sings_129 : decode cX7_sings 129 = .ok (.aload_n 0, 1) := by decide +kernel
theorem dX7_sings_130 : decode cX7_sings 130 = .ok (.iload_n 1, 1) := by decide +kernel
theorem dX7_sings_131 : decode cX7_sings 131 = .ok (.bipush 10, 2) := by decide +kernel
theorem dX7_sings_133 : decode cX7_sings 133 = .ok (.invokevirtual 132, 3) := by decide +kernel
theorem dX7_sings_136 : decode cX7_sings 136 = .ok (.iconst 1, 1) := by decide +kernel
theorem dX7_sings_137 : decode cX7_sings 137 = .ok (.iadd, 1) := by decide +kernel
theorem dX7_sings_138 : decode cX7_sings 138 = .ok (.invokevirtual 145, 3) := by decide +kernel
theorem dX7_sings_141 : decode cX7_sings 141 = .ok (.iload_n 2, 1) := by decide +kernel
theorem dX7_sings_142 : decode cX7_sings 142 = .ok (.ireturn, 1) := by decide +kernel
theorem dX7_inputOf_0 : decode cX7_inputOf 0 = .ok (.iconst 0, 1) := by decide +kernel
theorem dX7_inputOf_1 : decode cX7_inputOf 1 = .ok (.istore_n 2, 1) := by decide +kernel
theorem dX7_inputOf_2 : decode cX7_inputOf 2 = .ok (.iconst 4, 1) := by decide +kernel
theorem dX7_inputOf_3 : decode cX7_inputOf 3 = .ok (.iload_n 1, 1) := by decide +kernel
theorem dX7_inputOf_4 : decode cX7_inputOf 4 = .ok (.imul, 1) := by decide +kernel
theorem dX7_inputOf_5 : decode cX7_inputOf 5 = .ok (.istore_n 3, 1) := by decide +kernel
theorem dX7_inputOf_6 : decode cX7_inputOf 6 = .ok (.iload_n 3, 1) := by decide +kernel
theorem dX7_inputOf_7 : decode cX7_inputOf 7 = .ok (.iconst 4, 1) := by decide +kernel
theorem dX7_inputOf_8 : decode cX7_inputOf 8 = .ok (.iload_n 1, 1) := by decide +kernel
theorem dX7_inputOf_9 : decode cX7_inputOf 9 = .ok (.imul, 1) := by decide +kernel
theorem dX7_inputOf_10 : decode cX7_inputOf 10 = .ok (.aload_n 0, 1) := by decide +kernel
theorem dX7_inputOf_11 : decode cX7_inputOf 11 = .ok (.getfield 34, 3) := by decide +kernel
theorem dX7_inputOf_14 : decode cX7_inputOf 14 = .ok (.iload_n 1, 1) := by decide +kernel
theorem dX7_inputOf_15 : decode cX7_inputOf 15 = .ok (.iaload, 1) := by decide +kernel
theorem dX7_inputOf_16 : decode cX7_inputOf 16 = .ok (.iadd, 1) := by decide +kernel
theorem dX7_inputOf_17 : decode cX7_inputOf 17 = .ok (.if_icmp .ge 37, 3) := by decide +kernel
theorem dX7_inputOf_20 : decode cX7_inputOf 20 = .ok (.iload_n 2, 1) := by decide +kernel
theorem dX7_inputOf_21 : decode cX7_inputOf 21 = .ok (.aload_n 0, 1) := by decide +kernel
theorem dX7_inputOf_22 : decode cX7_inputOf 22 = .ok (.getfield 7, 3) := by decide +kernel
theorem dX7_inputOf_25 : decode cX7_inputOf 25 = .ok (.sipush 630, 3) := by decide +kernel
theorem dX7_inputOf_28 : decode cX7_inputOf 28 = .ok (.aload_n 0, 1) := by decide +kernel
theorem dX7_inputOf_29 : decode cX7_inputOf 29 = .ok (.getfield 28, 3) := by decide +kernel
theorem dX7_inputOf_32 : decode cX7_inputOf 32 = .ok (.iload_n 3, 1) := by decide +kernel
theorem dX7_inputOf_33 : decode cX7_inputOf 33 = .ok (.iaload, 1) := by decide +kernel
theorem dX7_inputOf_34 : decode cX7_inputOf 34 = .ok (.iadd, 1) := by decide +kernel
theorem dX7_inputOf_35 : decode cX7_inputOf 35 = .ok (.iaload, 1) := by decide +kernel
theorem dX7_inputOf_36 : decode cX7_inputOf 36 = .ok (.aload_n 0, 1) := by decide +kernel
theorem dX7_inputOf_37 : decode cX7_inputOf 37 = .ok (.getfield 31, 3) := by decide +kernel
theorem dX7_inputOf_40 : decode cX7_inputOf 40 = .ok (.iload_n 3, 1) := by decide +kernel
theorem dX7_inputOf_41 : decode cX7_inputOf 41 = .ok (.iaload, 1) := by decide +kernel
theorem dX7_inputOf_42 : decode cX7_inputOf 42 = .ok (.imul, 1) := by decide +kernel
theorem dX7_inputOf_43 : decode cX7_inputOf 43 = .ok (.bipush 100, 2) := by decide +kernel
theorem dX7_inputOf_45 : decode cX7_inputOf 45 = .ok (.idiv, 1) := by decide +kernel
theorem dX7_inputOf_46 : decode cX7_inputOf 46 = .ok (.iadd, 1) := by decide +kernel
theorem dX7_inputOf_47 : decode cX7_inputOf 47 = .ok (.istore_n 2, 1) := by decide +kernel
theorem dX7_inputOf_48 : decode cX7_inputOf 48 = .ok (.iinc 3 1, 3) := by decide +kernel
theorem dX7_inputOf_51 : decode cX7_inputOf 51 = .ok (.goto (-45), 3) := by decide +kernel
theorem dX7_inputOf_54 : decode cX7_inputOf 54 = .ok (.iload_n 2, 1) := by decide +kernel
theorem dX7_inputOf_55 : decode cX7_inputOf 55 = .ok (.ireturn, 1) := by decide +kernel
theorem dX7_sung_0 : decode cX7_sung 0 = .ok (.iconst 0, 1) := by decide +kernel
theorem dX7_sung_1 : decode cX7_sung 1 = .ok (.istore_n 1, 1) := by decide +kernel
theorem dX7_sung_2 : decode cX7_sung 2 = .ok (.iconst 0, 1) := by decide +kernel
theorem dX7_sung_3 : decode cX7_sung 3 = .ok (.istore_n 2, 1) := by decide +kernel
theorem dX7_sung_4 : decode cX7_sung 4 = .ok (.iload_n 2, 1) := by decide +kernel
theorem dX7_sung_5 : decode cX7_sung 5 = .ok (.iconst 4, 1) := by decide +kernel
theorem dX7_sung_6 : decode cX7_sung 6 = .ok (.if_icmp .ge 17, 3) := by decide +kernel
theorem dX7_sung_9 : decode cX7_sung 9 = .ok (.iload_n 1, 1) := by decide +kernel
theorem dX7_sung_10 : decode cX7_sung 10 = .ok (.aload_n 0, 1) := by decide +kernel
theorem dX7_sung_11 : decode cX7_sung 11 = .ok (.iload_n 2, 1) := by decide +kernel
theorem dX7_sung_12 : decode cX7_sung 12 = .ok (.invokevirtual 177, 3) := by decide +kernel
theorem dX7_sung_15 : decode cX7_sung 15 = .ok (.iadd, 1) := by decide +kernel
theorem dX7_sung_16 : decode cX7_sung 16 = .ok (.istore_n 1, 1) := by decide +kernel
theorem dX7_sung_17 : decode cX7_sung 17 = .ok (.iinc 2 1, 3) := by decide +kernel
theorem dX7_sung_20 : decode cX7_sung 20 = .ok (.goto (-16), 3) := by decide +kernel
theorem dX7_sung_23 : decode cX7_sung 23 = .ok (.iload_n 1, 1) := by decide +kernel
theorem dX7_sung_24 : decode cX7_sung 24 = .ok (.ireturn, 1) := by decide +kernel
theorem dX7_filtered_0 : decode cX7_filtered 0 = .ok (.aload_n 0, 1) := by decide +kernel
theorem dX7_filtered_1 : decode cX7_filtered 1 = .ok (.iload_n 1, 1) := by decide +kernel
theorem dX7_filtered_2 : decode cX7_filtered 2 = .ok (.invokevirtual 180, 3) := by decide +kernel
theorem dX7_filtered_5 : decode cX7_filtered 5 = .ok (.istore_n 2, 1) := by decide +kernel
theorem dX7_filtered_6 : decode cX7_filtered 6 = .ok (.aload_n 0, 1) := by decide +kernel
theorem dX7_filtered_7 : decode cX7_filtered 7 = .ok (.getfield 19, 3) := by decide +kernel
theorem dX7_filtered_10 : decode cX7_filtered 10 = .ok (.iload_n 1, 1) := by decide +kernel
theorem dX7_filtered_11 : decode cX7_filtered 11 = .ok (.iaload, 1) := by decide +kernel
theorem dX7_filtered_12 : decode cX7_filtered 12 = .ok (.iload_n 2, 1) := by decide +kernel
theorem dX7_filtered_13 : decode cX7_filtered 13 = .ok (.imul, 1) := by decide +kernel
theorem dX7_filtered_14 : decode cX7_filtered 14 = .ok (.aload_n 0, 1) := by decide +kernel
theorem dX7_filtered_15 : decode cX7_filtered 15 = .ok (.getfield 22, 3) := by decide +kernel
theorem dX7_filtered_18 : decode cX7_filtered 18 = .ok (.iload_n 1, 1) := by decide +kernel
theorem dX7_filtered_19 : decode cX7_filtered 19 = .ok (.iaload, 1) := by decide +kernel
theorem dX7_filtered_20 : decode cX7_filtered 20 = .ok (.aload_n 0, 1) := by decide +kernel
theorem dX7_filtered_21 : decode cX7_filtered 21 = .ok (.getfield 7, 3) := by decide +kernel
theorem dX7_filtered_24 : decode cX7_filtered 24 = .ok (.sipush 610, 3) := by decide +kernel
theorem dX7_filtered_27 : decode cX7_filtered 27 = .ok (.iload_n 1, 1) := by decide +kernel
theorem dX7_filtered_28 : decode cX7_filtered 28 = .ok (.iadd, 1) := by decide +kernel
theorem dX7_filtered_29 : decode cX7_filtered 29 = .ok (.iaload, 1) := by decide +kernel
theorem dX7_filtered_30 : decode cX7_filtered 30 = .ok (.imul, 1) := by decide +kernel
theorem dX7_filtered_31 : decode cX7_filtered 31 = .ok (.iadd, 1) := by decide +kernel
theorem dX7_filtered_32 : decode cX7_filtered 32 = .ok (.aload_n 0, 1) := by decide +kernel
theorem dX7_filtered_33 : decode cX7_filtered 33 = .ok (.getfield 25, 3) := by decide +kernel
theorem dX7_filtered_36 : decode cX7_filtered 36 = .ok (.iload_n 1, 1) := by decide +kernel
theorem dX7_filtered_37 : decode cX7_filtered 37 = .ok (.iaload, 1) := by decide +kernel
theorem dX7_filtered_38 : decode cX7_filtered 38 = .ok (.aload_n 0, 1) := by decide +kernel
theorem dX7_filtered_39 : decode cX7_filtered 39 = .ok (.getfield 7, 3) := by decide +kernel
theorem dX7_filtered_42 : decode cX7_filtered 42 = .ok (.sipush 620, 3) := by decide +kernel
theorem dX7_filtered_45 : decode cX7_filtered 45 = .ok (.iload_n 1, 1) := by decide +kernel
theorem dX7_filtered_46 : decode cX7_filtered 46 = .ok (.iadd, 1) := by decide +kernel
theorem dX7_filtered_47 : decode cX7_filtered 47 = .ok (.iaload, 1) := by decide +kernel
theorem dX7_filtered_48 : decode cX7_filtered 48 = .ok (.imul, 1) := by decide +kernel
theorem dX7_filtered_49 : decode cX7_filtered 49 = .ok (.iadd, 1) := by decide +kernel
theorem dX7_filtered_50 : decode cX7_filtered 50 = .ok (.bipush 64, 2) := by decide +kernel
theorem dX7_filtered_52 : decode cX7_filtered 52 = .ok (.idiv, 1) := by decide +kernel
theorem dX7_filtered_53 : decode cX7_filtered 53 = .ok (.invokestatic 183, 3) := by decide +kernel
theorem dX7_filtered_56 : decode cX7_filtered 56 = .ok (.istore_n 3, 1) := by decide +kernel
theorem dX7_filtered_57 : decode cX7_filtered 57 = .ok (.aload_n 0, 1) := by decide +kernel
theorem dX7_filtered_58 : decode cX7_filtered 58 = .ok (.getfield 7, 3) := by decide +kernel
theorem dX7_filtered_61 : decode cX7_filtered 61 = .ok (.sipush 610, 3) := by decide +kernel
theorem dX7_filtered_64 : decode cX7_filtered 64 = .ok (.iload_n 1, 1) := by decide +kernel
theorem dX7_filtered_65 : decode cX7_filtered 65 = .ok (.iadd, 1) := by decide +kernel
theorem dX7_filtered_66 : decode cX7_filtered 66 = .ok (.iload_n 2, 1) := by decide +kernel
theorem dX7_filtered_67 : decode cX7_filtered 67 = .ok (.iastore, 1) := by decide +kernel
theorem dX7_filtered_68 : decode cX7_filtered 68 = .ok (.aload_n 0, 1) := by decide +kernel
theorem dX7_filtered_69 : decode cX7_filtered 69 = .ok (.getfield 7, 3) := by decide +kernel
theorem dX7_filtered_72 : decode cX7_filtered 72 = .ok (.sipush 620, 3) := by decide +kernel
theorem dX7_filtered_75 : decode cX7_filtered 75 = .ok (.iload_n 1, 1) := by decide +kernel
theorem dX7_filtered_76 : decode cX7_filtered 76 = .ok (.iadd, 1) := by decide +kernel
theorem dX7_filtered_77 : decode cX7_filtered 77 = .ok (.iload_n 3, 1) := by decide +kernel
theorem dX7_filtered_78 : decode cX7_filtered 78 = .ok (.iastore, 1) := by decide +kernel
theorem dX7_filtered_79 : decode cX7_filtered 79 = .ok (.iload_n 3, 1) := by decide +kernel
theorem dX7_filtered_80 : decode cX7_filtered 80 = .ok (.ireturn, 1) := by decide +kernel
theorem dX7_limited_0 : decode cX7_limited 0 = .ok (.iload_n 0, 1) := by decide +kernel
theorem dX7_limited_1 : decode cX7_limited 1 = .ok (.invokestatic 186, 3) := by decide +kernel
theorem dX7_limited_4 : decode cX7_limited 4 = .ok (.iload_n 1, 1) := by decide +kernel
theorem dX7_limited_5 : decode cX7_limited 5 = .ok (.if_icmp .gt 5, 3) := by decide +kernel
theorem dX7_limited_8 : decode cX7_limited 8 = .ok (.iload_n 0, 1) := by decide +kernel
theorem dX7_limited_9 : decode cX7_limited 9 = .ok (.ireturn, 1) := by decide +kernel
theorem dX7_limited_10 : decode cX7_limited 10 = .ok (.iload_n 1, 1) := by decide +kernel
theorem dX7_limited_11 : decode cX7_limited 11 = .ok (.iload_n 0, 1) := by decide +kernel
theorem dX7_limited_12 : decode cX7_limited 12 = .ok (.invokestatic 186, 3) := by decide +kernel
theorem dX7_limited_15 : decode cX7_limited 15 = .ok (.iload_n 1, 1) := by decide +kernel
theorem dX7_limited_16 : decode cX7_limited 16 = .ok (.isub, 1) := by decide +kernel
theorem dX7_limited_17 : decode cX7_limited 17 = .ok (.iconst 4, 1) := by decide +kernel
theorem dX7_limited_18 : decode cX7_limited 18 = .ok (.idiv, 1) := by decide +kernel
theorem dX7_limited_19 : decode cX7_limited 19 = .ok (.iadd, 1) := by decide +kernel
theorem dX7_limited_20 : decode cX7_limited 20 = .ok (.istore_n 2, 1) := by decide +kernel
theorem dX7_limited_21 : decode cX7_limited 21 = .ok (.iload_n 0, 1) := by decide +kernel
theorem dX7_limited_22 : decode cX7_limited 22 = .ok (.ifCond .ge 8, 3) := by decide +kernel
theorem dX7_limited_25 : decode cX7_limited 25 = .ok (.iload_n 2, 1) := by decide +kernel
theorem dX7_limited_26 : decode cX7_limited 26 = .ok (.ineg, 1) := by decide +kernel
theorem dX7_limited_27 : decode cX7_limited 27 = .ok (.goto 4, 3) := by decide +kernel
theorem dX7_limited_30 : decode cX7_limited 30 = .ok (.iload_n 2, 1) := by decide +kernel
theorem dX7_limited_31 : decode cX7_limited 31 = .ok (.ireturn, 1) := by decide +kernel
theorem dX7_sounds_0 : decode cX7_sounds 0 = .ok (.aload_n 0, 1) := by decide +kernel
theorem dX7_sounds_1 : decode cX7_sounds 1 = .ok (.getfield 16, 3) := by decide +kernel
theorem dX7_sounds_4 : decode cX7_sounds 4 = .ok (.iload_n 1, 1) := by decide +kernel
theorem dX7_sounds_5 : decode cX7_sounds 5 = .ok (.iaload, 1) := by decide +kernel
theorem dX7_sounds_6 : decode cX7_sounds 6 = .ok (.istore_n 2, 1) := by decide +kernel
theorem dX7_sounds_7 : decode cX7_sounds 7 = .ok (.iload_n 2, 1) := by decide +kernel
theorem dX7_sounds_8 : decode cX7_sounds 8 = .ok (.ifCond .ne 8, 3) := by decide +kernel
theorem dX7_sounds_11 : decode cX7_sounds 11 = .ok (.aload_n 0, 1) := by decide +kernel
theorem dX7_sounds_12 : decode cX7_sounds 12 = .ok (.invokevirtual 189, 3) := by decide +kernel
theorem dX7_sounds_15 : decode cX7_sounds 15 = .ok (.ireturn, 1) := by decide +kernel
theorem dX7_sounds_16 : decode cX7_sounds 16 = .ok (.iload_n 2, 1) := by decide +kernel
theorem dX7_sounds_17 : decode cX7_sounds 17 = .ok (.iconst 3, 1) := by decide +kernel
theorem dX7_sounds_18 : decode cX7_sounds 18 = .ok (.if_icmp .ne 9, 3) := by decide +kernel
theorem dX7_sounds_21 : decode cX7_sounds 21 = .ok (.aload_n 0, 1) := by decide +kernel
theorem dX7_sounds_22 : decode cX7_sounds 22 = .ok (.iload_n 1, 1) := by decide +kernel
theorem dX7_sounds_23 : decode cX7_sounds 23 = .ok (.invokevirtual 192, 3) := by decide +kernel
theorem dX7_sounds_26 : decode cX7_sounds 26 = .ok (.ireturn, 1) := by decide +kernel
theorem dX7_sounds_27 : decode cX7_sounds 27 = .ok (.iload_n 2, 1) := by decide +kernel
theorem dX7_sounds_28 : decode cX7_sounds 28 = .ok (.iconst 1, 1) := by decide +kernel
theorem dX7_sounds_29 : decode cX7_sounds 29 = .ok (.if_icmp .ne 21, 3) := by decide +kernel
theorem dX7_sounds_32 : decode cX7_sounds 32 = .ok (.aload_n 0, 1) := by decide +kernel
theorem dX7_sounds_33 : decode cX7_sounds 33 = .ok (.iload_n 1, 1) := by decide +kernel
theorem dX7_sounds_34 : decode cX7_sounds 34 = .ok (.invokevirtual 180, 3) := by decide +kernel
theorem dX7_sounds_37 : decode cX7_sounds 37 = .ok (.aload_n 0, 1) := by decide +kernel
theorem dX7_sounds_38 : decode cX7_sounds 38 = .ok (.getfield 19, 3) := by decide +kernel
theorem dX7_sounds_41 : decode cX7_sounds 41 = .ok (.iload_n 1, 1) := by decide +kernel
theorem dX7_sounds_42 : decode cX7_sounds 42 = .ok (.iaload, 1) := by decide +kernel
theorem dX7_sounds_43 : decode cX7_sounds 43 = .ok (.imul, 1) := by decide +kernel
theorem dX7_sounds_44 : decode cX7_sounds 44 = .ok (.bipush 100, 2) := by decide +kernel
theorem dX7_sounds_46 : decode cX7_sounds 46 = .ok (.idiv, 1) := by decide +kernel
theorem dX7_sounds_47 : decode cX7_sounds 47 = .ok (.goto 17, 3) := by decide +kernel
theorem dX7_sounds_50 : decode cX7_sounds 50 = .ok (.aload_n 0, 1) := by decide +kernel
theorem dX7_sounds_51 : decode cX7_sounds 51 = .ok (.iload_n 1, 1) := by decide +kernel
theorem dX7_sounds_52 : decode cX7_sounds 52 = .ok (.invokevirtual 180, 3) := by decide +kernel
theorem dX7_sounds_55 : decode cX7_sounds 55 = .ok (.aload_n 0, 1) := by decide +kernel
theorem dX7_sounds_56 : decode cX7_sounds 56 = .ok (.getfield 19, 3) := by decide +kernel
theorem dX7_sounds_59 : decode cX7_sounds 59 = .ok (.iload_n 1, 1) := by decide +kernel
theorem dX7_sounds_60 : decode cX7_sounds 60 = .ok (.iaload, 1) := by decide +kernel
theorem dX7_sounds_61 : decode cX7_sounds 61 = .ok (.invokestatic 195, 3) := by decide +kernel
theorem dX7_sounds_64 : decode cX7_sounds 64 = .ok (.ireturn, 1) := by decide +kernel
theorem dX7_samples_0 : decode cX7_samples 0 = .ok (.iconst 0, 1) := by decide +kernel
theorem dX7_samples_1 : decode cX7_samples 1 = .ok (.istore_n 1, 1) := by decide +kernel
theorem dX7_samples_2 : decode cX7_samples 2 = .ok (.iload_n 1, 1) := by decide +kernel
theorem dX7_samples_3 : decode cX7_samples 3 = .ok (.aload_n 0, 1) := by decide +kernel
theorem dX7_samples_4 : decode cX7_samples 4 = .ok (.getfield 51, 3) := by decide +kernel
theorem dX7_samples_7 : decode cX7_samples 7 = .ok (.if_icmp .ge 51, 3) := by decide +kernel
theorem dX7_samples_10 : decode cX7_samples 10 = .ok (.aload_n 0, 1) := by decide +kernel
theorem dX7_samples_11 : decode cX7_samples 11 = .ok (.getfield 16, 3) := by decide +kernel
theorem dX7_samples_14 : decode cX7_samples 14 = .ok (.iload_n 1, 1) := by decide +kernel
theorem dX7_samples_15 : decode cX7_samples 15 = .ok (.iaload, 1) := by decide +kernel
theorem dX7_samples_16 : decode cX7_samples 16 = .ok (.iconst 2, 1) := by decide +kernel
theorem dX7_samples_17 : decode cX7_samples 17 = .ok (.if_icmp .ne 35, 3) := by decide +kernel
theorem dX7_samples_20 : decode cX7_samples 20 = .ok (.aload_n 0, 1) := by decide +kernel
theorem dX7_samples_21 : decode cX7_samples 21 = .ok (.getfield 7, 3) := by decide +kernel
theorem dX7_samples_24 : decode cX7_samples 24 = .ok (.sipush 630, 3) := by decide +kernel
theorem dX7_samples_27 : decode cX7_samples 27 = .ok (.iload_n 1, 1) := by decide +kernel
theorem dX7_samples_28 : decode cX7_samples 28 = .ok (.iadd, 1) := by decide +kernel
theorem dX7_samples_29 : decode cX7_samples 29 = .ok (.aload_n 0, 1) := by decide +kernel
theorem dX7_samples_30 : decode cX7_samples 30 = .ok (.getfield 7, 3) := by decide +kernel
theorem dX7_samples_33 : decode cX7_samples 33 = .ok (.iconst 0, 1) := by decide +kernel
theorem dX7_samples_34 : decode cX7_samples 34 = .ok (.bipush 60, 2) := by decide +kernel
theorem dX7_samples_36 : decode cX7_samples 36 = .ok (.iload_n 1, 1) := by decide +kernel
theorem dX7_samples_37 : decode cX7_samples 37 = .ok (.imul, 1) := by decide +kernel
theorem dX7_samples_38 : decode cX7_samples 38 = .ok (.iadd, 1) := by decide +kernel
theorem dX7_samples_39 : decode cX7_samples 39 = .ok (.aload_n 0, 1) := by decide +kernel
theorem dX7_samples_40 : decode cX7_samples 40 = .ok (.getfield 7, 3) := by decide +kernel
theorem dX7_samples_43 : decode cX7_samples 43 = .ok (.sipush 600, 3) := by decide +kernel
theorem dX7_samples_46 : decode cX7_samples 46 = .ok (.iload_n 1, 1) := by decide +kernel
theorem dX7_samples_47 : decode cX7_samples 47 = .ok (.iadd, 1) := by decide +kernel
theorem dX7_samples_48 : decode cX7_samples 48 = .ok (.iaload, 1) := by decide +kernel
theorem dX7_samples_49 : decode cX7_samples 49 = .ok (.iadd, 1) := by decide +kernel
theorem dX7_samples_50 : decode cX7_samples 50 = .ok (.iaload, 1) := by decide +kernel
theorem dX7_samples_51 : decode cX7_samples 51 = .ok (.iastore, 1) := by decide +kernel
theorem dX7_samples_52 : decode cX7_samples 52 = .ok (.iinc 1 1, 3) := by decide +kernel
theorem dX7_samples_55 : decode cX7_samples 55 = .ok (.goto (-53), 3) := by decide +kernel
theorem dX7_samples_58 : decode cX7_samples 58 = .ok (.iconst 0, 1) := by decide +kernel
theorem dX7_samples_59 : decode cX7_samples 59 = .ok (.istore_n 1, 1) := by decide +kernel
theorem dX7_samples_60 : decode cX7_samples 60 = .ok (.iload_n 1, 1) := by decide +kernel
theorem dX7_samples_61 : decode cX7_samples 61 = .ok (.aload_n 0, 1) := by decide +kernel
theorem dX7_samples_62 : decode cX7_samples 62 = .ok (.getfield 51, 3) := by decide +kernel
theorem dX7_samples_65 : decode cX7_samples 65 = .ok (.if_icmp .ge 52, 3) := by decide +kernel
theorem dX7_samples_68 : decode cX7_samples 68 = .ok (.aload_n 0, 1) := by decide +kernel
theorem dX7_samples_69 : decode cX7_samples 69 = .ok (.getfield 16, 3) := by decide +kernel
theorem dX7_samples_72 : decode cX7_samples 72 = .ok (.aload_n 0, 1) := by decide +kernel
theorem dX7_samples_73 : decode cX7_samples 73 = .ok (.getfield 37, 3) := by decide +kernel
theorem dX7_samples_76 : decode cX7_samples 76 = .ok (.iload_n 1, 1) := by decide +kernel
theorem dX7_samples_77 : decode cX7_samples 77 = .ok (.iaload, 1) := by decide +kernel
theorem dX7_samples_78 : decode cX7_samples 78 = .ok (.iaload, 1) := by decide +kernel
theorem dX7_samples_79 : decode cX7_samples 79 = .ok (.iconst 2, 1) := by decide +kernel
theorem dX7_samples_80 : decode cX7_samples 80 = .ok (.if_icmp .eq 31, 3) := by decide +kernel
theorem dX7_samples_83 : decode cX7_samples 83 = .ok (.aload_n 0, 1) := by decide +kernel
theorem dX7_samples_84 : decode cX7_samples 84 = .ok (.getfield 7, 3) := by decide +kernel
theorem dX7_samples_87 : decode cX7_samples 87 = .ok (.sipush 630, 3) := by decide +kernel
theorem dX7_samples_90 : decode cX7_samples 90 = .ok (.aload_n 0, 1) := by decide +kernel
theorem dX7_samples_91 : decode cX7_samples 91 = .ok (.getfield 37, 3) := by decide +kernel
theorem dX7_samples_94 : decode cX7_samples 94 = .ok (.iload_n 1, 1) := by decide +kernel
theorem dX7_samples_95 : decode cX7_samples 95 = .ok (.iaload, 1) := by decide +kernel
theorem dX7_samples_96 : decode cX7_samples 96 = .ok (.iadd, 1) := by decide +kernel
theorem dX7_samples_97 : decode cX7_samples 97 = .ok (.aload_n 0, 1) := by decide +kernel
theorem dX7_samples_98 : decode cX7_samples 98 = .ok (.aload_n 0, 1) := by decide +kernel
theorem dX7_samples_99 : decode cX7_samples 99 = .ok (.getfield 37, 3) := by decide +kernel
theorem dX7_samples_102 : decode cX7_samples 102 = .ok (.iload_n 1, 1) := by decide +kernel
theorem dX7_samples_103 : decode cX7_samples 103 = .ok (.iaload, 1) := by decide +kernel
theorem dX7_samples_104 : decode cX7_samples 104 = .ok (.invokevirtual 198, 3) := by decide +kernel
theorem dX7_samples_107 : decode cX7_samples 107 = .ok (.invokestatic 183, 3) := by decide +kernel
theorem dX7_samples_110 : decode cX7_samples 110 = .ok (.iastore, 1) := by decide +kernel
theorem dX7_samples_111 : decode cX7_samples 111 = .ok (.iinc 1 1, 3) := by decide +kernel
theorem dX7_samples_114 : decode cX7_samples 114 = .ok (.goto (-54), 3) := by decide +kernel
theorem dX7_samples_117 : decode cX7_samples 117 = .ok (.iconst 0, 1) := by decide +kernel
theorem dX7_samples_118 : decode cX7_samples 118 = .ok (.istore_n 1, 1) := by decide +kernel
theorem dX7_samples_119 : decode cX7_samples 119 = .ok (.iload_n 1, 1) := by decide +kernel
theorem dX7_samples_120 : decode cX7_samples 120 = .ok (.aload_n 0, 1) := by decide +kernel
theorem dX7_samples_121 : decode cX7_samples 121 = .ok (.getfield 51, 3) := by decide +kernel
theorem dX7_samples_124 : decode cX7_samples 124 = .ok (.if_icmp .ge 102, 3) := by decide +kernel
theorem dX7_samples_127 : decode cX7_samples 127 = .ok (.aload_n 0, 1) := by decide +kernel
theorem dX7_samples_128 : decode cX7_samples 128 = .ok (.getfield 16, 3) := by decide +kernel
theorem dX7_samples_131 : decode cX7_samples 131 = .ok (.iload_n 1, 1) := by decide +kernel
theorem dX7_samples_132 : decode cX7_samples 132 = .ok (.iaload, 1) := by decide +kernel
theorem dX7_samples_133 : decode cX7_samples 133 = .ok (.iconst 2, 1) := by decide +kernel
theorem dX7_samples_134 : decode cX7_samples 134 = .ok (.if_icmp .eq 6, 3) := by decide +kernel
theorem dX7_samples_137 : decode cX7_samples 137 = .ok (.goto 83, 3) := by decide +kernel
theorem dX7_samples_140 : decode cX7_samples 140 = .ok (.aload_n 0, 1) := by decide +kernel
theorem dX7_samples_141 : decode cX7_samples 141 = .ok (.getfield 7, 3) := by decide +kernel
theorem dX7_samples_144 : decode cX7_samples 144 = .ok (.iconst 0, 1) := by decide +kernel
theorem dX7_samples_145 : decode cX7_samples 145 = .ok (.bipush 60, 2) := by decide +kernel
theorem dX7_samples_147 : decode cX7_samples 147 = .ok (.iload_n 1, 1) := by decide +kernel
theorem dX7_samples_148 : decode cX7_samples 148 = .ok (.imul, 1) := by decide +kernel
theorem dX7_samples_149 : decode cX7_samples 149 = .ok (.iadd, 1) := by decide +kernel
theorem dX7_samples_150 : decode cX7_samples 150 = .ok (.aload_n 0, 1) := by decide +kernel
theorem dX7_samples_151 : decode cX7_samples 151 = .ok (.getfield 7, 3) := by decide +kernel
theorem dX7_samples_154 : decode cX7_samples 154 = .ok (.sipush 600, 3) := by decide +kernel
theorem dX7_samples_157 : decode cX7_samples 157 = .ok (.iload_n 1, 1) := by decide +kernel
theorem dX7_samples_158 : decode cX7_samples 158 = .ok (.iadd, 1) := by decide +kernel
theorem dX7_samples_159 : decode cX7_samples 159 = .ok (.iaload, 1) := by decide +kernel
theorem dX7_samples_160 : decode cX7_samples 160 = .ok (.iadd, 1) := by decide +kernel
theorem dX7_samples_161 : decode cX7_samples 161 = .ok (.aload_n 0, 1) := by decide +kernel
theorem dX7_samples_162 : decode cX7_samples 162 = .ok (.iload_n 1, 1) := by decide +kernel
theorem dX7_samples_163 : decode cX7_samples 163 = .ok (.invokevirtual 180, 3) := by decide +kernel
theorem dX7_samples_166 : decode cX7_samples 166 = .ok (.aload_n 0, 1) := by decide +kernel
theorem dX7_samples_167 : decode cX7_samples 167 = .ok (.getfield 7, 3) := by decide +kernel
theorem dX7_samples_170 : decode cX7_samples 170 = .ok (.sipush 630, 3) := by decide +kernel
theorem dX7_samples_173 : decode cX7_samples 173 = .ok (.iload_n 1, 1) := by decide +kernel
theorem dX7_samples_174 : decode cX7_samples 174 = .ok (.iadd, 1) := by decide +kernel
theorem dX7_samples_175 : decode cX7_samples 175 = .ok (.iaload, 1) := by decide +kernel
theorem dX7_samples_176 : decode cX7_samples 176 = .ok (.aload_n 0, 1) := by decide +kernel
theorem dX7_samples_177 : decode cX7_samples 177 = .ok (.getfield 22, 3) := by decide +kernel
theorem dX7_samples_180 : decode cX7_samples 180 = .ok (.iload_n 1, 1) := by decide +kernel
theorem dX7_samples_181 : decode cX7_samples 181 = .ok (.iaload, 1) := by decide +kernel
theorem dX7_samples_182 : decode cX7_samples 182 = .ok (.imul, 1) := by decide +kernel
theorem dX7_samples_183 : decode cX7_samples 183 = .ok (.bipush 100, 2) := by decide +kernel
theorem dX7_samples_185 : decode cX7_samples 185 = .ok (.idiv, 1) := by decide +kernel
theorem dX7_samples_186 : decode cX7_samples 186 = .ok (.iadd, 1) := by decide +kernel
theorem dX7_samples_187 : decode cX7_samples 187 = .ok (.invokestatic 183, 3) := by decide +kernel
theorem dX7_samples_190 : decode cX7_samples 190 = .ok (.iastore, 1) := by decide +kernel
theorem dX7_samples_191 : decode cX7_samples 191 = .ok (.aload_n 0, 1) := by decide +kernel
theorem dX7_samples_192 : decode cX7_samples 192 = .ok (.getfield 7, 3) := by decide +kernel
theorem dX7_samples_195 : decode cX7_samples 195 = .ok (.sipush 600, 3) := by decide +kernel
theorem dX7_samples_198 : decode cX7_samples 198 = .ok (.iload_n 1, 1) := by decide +kernel
theorem dX7_samples_199 : decode cX7_samples 199 = .ok (.iadd, 1) := by decide +kernel
theorem dX7_samples_200 : decode cX7_samples 200 = .ok (.aload_n 0, 1) := by decide +kernel
theorem dX7_samples_201 : decode cX7_samples 201 = .ok (.getfield 7, 3) := by decide +kernel
theorem dX7_samples_204 : decode cX7_samples 204 = .ok (.sipush 600, 3) := by decide +kernel
theorem dX7_samples_207 : decode cX7_samples 207 = .ok (.iload_n 1, 1) := by decide +kernel
theorem dX7_samples_208 : decode cX7_samples 208 = .ok (.iadd, 1) := by decide +kernel
theorem dX7_samples_209 : decode cX7_samples 209 = .ok (.iaload, 1) := by decide +kernel
theorem dX7_samples_210 : decode cX7_samples 210 = .ok (.iconst 1, 1) := by decide +kernel
theorem dX7_samples_211 : decode cX7_samples 211 = .ok (.iadd, 1) := by decide +kernel
theorem dX7_samples_212 : decode cX7_samples 212 = .ok (.aload_n 0, 1) := by decide +kernel
theorem dX7_samples_213 : decode cX7_samples 213 = .ok (.getfield 19, 3) := by decide +kernel
theorem dX7_samples_216 : decode cX7_samples 216 = .ok (.iload_n 1, 1) := by decide +kernel
theorem dX7_samples_217 : decode cX7_samples 217 = .ok (.iaload, 1) := by decide +kernel
theorem dX7_samples_218 : decode cX7_samples 218 = .ok (.irem, 1) := by decide +kernel
theorem dX7_samples_219 : decode cX7_samples 219 = .ok (.iastore, 1) := by decide +kernel
theorem dX7_samples_220 : decode cX7_samples 220 = .ok (.iinc 1 1, 3) := by decide +kernel
theorem dX7_samples_223 : decode cX7_samples 223 = .ok (.goto (-104), 3) := by decide +kernel
theorem dX7_samples_226 : decode cX7_samples 226 = .ok (.aload_n 0, 1) := by decide +kernel
theorem dX7_samples_227 : decode cX7_samples 227 = .ok (.getfield 7, 3) := by decide +kernel
theorem dX7_samples_230 : decode cX7_samples 230 = .ok (.sipush 630, 3) := by decide +kernel
theorem dX7_samples_233 : decode cX7_samples 233 = .ok (.aload_n 0, 1) := by decide +kernel
theorem dX7_samples_234 : decode cX7_samples 234 = .ok (.getfield 54, 3) := by decide +kernel
theorem dX7_samples_237 : decode cX7_samples 237 = .ok (.iadd, 1) := by decide +kernel
theorem dX7_samples_238 : decode cX7_samples 238 = .ok (.iaload, 1) := by decide +kernel
theorem dX7_samples_239 : decode cX7_samples 239 = .ok (.ireturn, 1) := by decide +kernel
theorem dX7_sampled_0 : decode cX7_sampled 0 = .ok (.aload_n 0, 1) := by decide +kernel
theorem dX7_sampled_1 : decode cX7_sampled 1 = .ok (.invokevirtual 201, 3) := by decide +kernel
theorem dX7_sampled_4 : decode cX7_sampled 4 = .ok (.istore_n 1, 1) := by decide +kernel
theorem dX7_sampled_5 : decode cX7_sampled 5 = .ok (.aload_n 0, 1) := by decide +kernel
theorem dX7_sampled_6 : decode cX7_sampled 6 = .ok (.getfield 40, 3) := by decide +kernel
theorem dX7_sampled_9 : decode cX7_sampled 9 = .ok (.aload_n 0, 1) := by decide +kernel
theorem dX7_sampled_10 : decode cX7_sampled 10 = .ok (.getfield 78, 3) := by decide +kernel
theorem dX7_sampled_13 : decode cX7_sampled 13 = .ok (.bipush 64, 2) := by decide +kernel
theorem dX7_sampled_15 : decode cX7_sampled 15 = .ok (.irem, 1) := by decide +kernel
theorem dX7_sampled_16 : decode cX7_sampled 16 = .ok (.iload_n 1, 1) := by decide +kernel
theorem dX7_sampled_17 : decode cX7_sampled 17 = .ok (.iastore, 1) := by decide +kernel
theorem dX7_sampled_18 : decode cX7_sampled 18 = .ok (.aload_n 0, 1) := by decide +kernel
theorem dX7_sampled_19 : decode cX7_sampled 19 = .ok (.dup, 1) := by decide +kernel
theorem dX7_sampled_20 : decode cX7_sampled 20 = .ok (.getfield 78, 3) := by decide +kernel
theorem dX7_sampled_23 : decode cX7_sampled 23 = .ok (.iconst 1, 1) := by decide +kernel
theorem dX7_sampled_24 : decode cX7_sampled 24 = .ok (.iadd, 1) := by decide +kernel
theorem dX7_sampled_25 : decode cX7_sampled 25 = .ok (.putfield 78, 3) := by decide +kernel
theorem dX7_sampled_28 : decode cX7_sampled 28 = .ok (.aload_n 0, 1) := by decide +kernel
theorem dX7_sampled_29 : decode cX7_sampled 29 = .ok (.iload_n 1, 1) := by decide +kernel
theorem dX7_sampled_30 : decode cX7_sampled 30 = .ok (.invokestatic 186, 3) := by decide +kernel
theorem dX7_sampled_33 : decode cX7_sampled 33 = .ok (.aload_n 0, 1) := by decide +kernel
theorem dX7_sampled_34 : decode cX7_sampled 34 = .ok (.getfield 81, 3) := by decide +kernel
theorem dX7_sampled_37 : decode cX7_sampled 37 = .ok (.if_icmp .le 10, 3) := by decide +kernel
theorem dX7_sampled_40 : decode cX7_sampled 40 = .ok (.iload_n 1, 1) := by decide +kernel
theorem dX7_sampled_41 : decode cX7_sampled 41 = .ok (.invokestatic 186, 3) := by decide +kernel
theorem dX7_sampled_44 : decode cX7_sampled 44 = .ok (.goto 7, 3) := by decide +kernel
theorem dX7_sampled_47 : decode cX7_sampled 47 = .ok (.aload_n 0, 1) := by decide +kernel
theorem dX7_sampled_48 : decode cX7_sampled 48 = .ok (.getfield 81, 3) := by decide +kernel
theorem dX7_sampled_51 : decode cX7_sampled 51 = .ok (.putfield 81, 3) := by decide +kernel
theorem dX7_sampled_54 : decode cX7_sampled 54 = .ok (.aload_n 0, 1) := by decide +kernel
theorem dX7_sampled_55 : decode cX7_sampled 55 = .ok (.dup, 1) := by decide +kernel
theorem dX7_sampled_56 : decode cX7_sampled 56 = .ok (.getfield 84, 3) := by decide +kernel
theorem dX7_sampled_59 : decode cX7_sampled 59 = .ok (.iload_n 1, 1) := by decide +kernel
theorem dX7_sampled_60 : decode cX7_sampled 60 = .ok (.ifCond .ne 7, 3) := by decide +kernel
theorem dX7_sampled_63 : decode cX7_sampled 63 = .ok (.iconst 1, 1) := by decide +kernel
theorem dX7_sampled_64 : decode cX7_sampled 64 = .ok (.goto 4, 3) := by decide +kernel
theorem dX7_sampled_67 : decode cX7_sampled 67 = .ok (.iconst 0, 1) := by decide +kernel
theorem dX7_sampled_68 : decode cX7_sampled 68 = .ok (.iadd, 1) := by decide +kernel
theorem dX7_sampled_69 : decode cX7_sampled 69 = .ok (.putfield 84, 3) := by decide +kernel
theorem dX7_sampled_72 : decode cX7_sampled 72 = .ok (.aload_n 0, 1) := by decide +kernel
theorem dX7_sampled_73 : decode cX7_sampled 73 = .ok (.dup, 1) := by decide +kernel
theorem dX7_sampled_74 : decode cX7_sampled 74 = .ok (.getfield 87, 3) := by decide +kernel
theorem dX7_sampled_77 : decode cX7_sampled 77 = .ok (.iload_n 1, 1) := by decide +kernel
theorem dX7_sampled_78 : decode cX7_sampled 78 = .ok (.i2l, 1) := by decide +kernel
theorem dX7_sampled_79 : decode cX7_sampled 79 = .ok (.iload_n 1, 1) := by decide +kernel
theorem dX7_sampled_80 : decode cX7_sampled 80 = .ok (.i2l, 1) := by decide +kernel
theorem dX7_sampled_81 : decode cX7_sampled 81 = .ok (.lmul, 1) := by decide +kernel
theorem dX7_sampled_82 : decode cX7_sampled 82 = .ok (.ladd, 1) := by decide +kernel
theorem dX7_sampled_83 : decode cX7_sampled 83 = .ok (.putfield 87, 3) := by decide +kernel
theorem dX7_sampled_86 : decode cX7_sampled 86 = .ok (.iload_n 1, 1) := by decide +kernel
theorem dX7_sampled_87 : decode cX7_sampled 87 = .ok (.ireturn, 1) := by decide +kernel
theorem dX7_play_0 : decode cX7_play 0 = .ok (.aload_n 0, 1) := by decide +kernel
theorem dX7_play_1 : decode cX7_play 1 = .ok (.iload_n 1, 1) := by decide +kernel
theorem dX7_play_2 : decode cX7_play 2 = .ok (.iconst 1, 1) := by decide +kernel
theorem dX7_play_3 : decode cX7_play 3 = .ok (.bipush 64, 2) := by decide +kernel
theorem dX7_play_5 : decode cX7_play 5 = .ok (.invokestatic 94, 3) := by decide +kernel
theorem dX7_play_8 : decode cX7_play 8 = .ok (.invokevirtual 121, 3) := by decide +kernel
theorem dX7_play_11 : decode cX7_play 11 = .ok (.ifCond .le 5, 3) := by decide +kernel
theorem dX7_play_14 : decode cX7_play 14 = .ok (.iconst 0, 1) := by decide +kernel
theorem dX7_play_15 : decode cX7_play 15 = .ok (.ireturn, 1) := by decide +kernel
theorem dX7_play_16 : decode cX7_play 16 = .ok (.iconst 0, 1) := by decide +kernel
theorem dX7_play_17 : decode cX7_play 17 = .ok (.istore_n 2, 1) := by decide +kernel
theorem dX7_play_18 : decode cX7_play 18 = .ok (.iconst 0, 1) := by decide +kernel
theorem dX7_play_19 : decode cX7_play 19 = .ok (.istore_n 3, 1) := by decide +kernel
theorem dX7_play_20 : decode cX7_play 20 = .ok (.iload_n 3, 1) := by decide +kernel
theorem dX7_play_21 : decode cX7_play 21 = .ok (.iload_n 1, 1) := by decide +kernel
theorem dX7_play_22 : decode cX7_play 22 = .ok (.if_icmp .ge 14, 3) := by decide +kernel
theorem dX7_play_25 : decode cX7_play 25 = .ok (.aload_n 0, 1) := by decide +kernel
theorem dX7_play_26 : decode cX7_play 26 = .ok (.invokevirtual 204, 3) := by decide +kernel
theorem dX7_play_29 : decode cX7_play 29 = .ok (.istore_n 2, 1) := by decide +kernel
theorem dX7_play_30 : decode cX7_play 30 = .ok (.iinc 3 1, 3) := by decide +kernel
theorem dX7_play_33 : decode cX7_play 33 = .ok (.goto (-13), 3) := by decide +kernel
theorem dX7_play_36 : decode cX7_play 36 = .ok (.iload_n 2, 1) := by decide +kernel
theorem dX7_play_37 : decode cX7_play 37 = .ok (.ireturn, 1) := by decide +kernel
theorem dX7_step_0 : decode cX7_step 0 = .ok (.aload_n 0, 1) := by decide +kernel
theorem dX7_step_1 : decode cX7_step 1 = .ok (.aload_n 0, 1) := by decide +kernel
theorem dX7_step_2 : decode cX7_step 2 = .ok (.invokevirtual 204, 3) := by decide +kernel
theorem dX7_step_5 : decode cX7_step 5 = .ok (.invokevirtual 125, 3) := by decide +kernel
theorem dX7_step_8 : decode cX7_step 8 = .ok (.ireturn, 1) := by decide +kernel
theorem dX7_foreseen_0 : decode cX7_foreseen 0 = .ok (.iconst 0, 1) := by decide +kernel
theorem dX7_foreseen_1 : decode cX7_foreseen 1 = .ok (.istore_n 2, 1) := by decide +kernel
theorem dX7_foreseen_2 : decode cX7_foreseen 2 = .ok (.iconst 0, 1) := by decide +kernel
theorem dX7_foreseen_3 : decode cX7_foreseen 3 = .ok (.istore_n 3, 1) := by decide +kernel
theorem dX7_foreseen_4 : decode cX7_foreseen 4 = .ok (.iload_n 3, 1) := by decide +kernel
theorem dX7_foreseen_5 : decode cX7_foreseen 5 = .ok (.sipush 704, 3) := by decide +kernel
theorem dX7_foreseen_8 : decode cX7_foreseen 8 = .ok (.if_icmp .ge 21, 3) := by decide +kernel
theorem dX7_foreseen_11 : decode cX7_foreseen 11 = .ok (.aload_n 0, 1) := by decide +kernel
theorem dX7_foreseen_12 : decode cX7_foreseen 12 = .ok (.getfield 13, 3) := by decide +kernel
theorem dX7_foreseen_15 : decode cX7_foreseen 15 = .ok (.iload_n 3, 1) := by decide +kernel
theorem dX7_foreseen_16 : decode cX7_foreseen 16 = .ok (.aload_n 0, 1) := by decide +kernel
theorem dX7_foreseen_17 : decode cX7_foreseen 17 = .ok (.getfield 7, 3) := by decide +kernel
theorem dX7_foreseen_20 : decode cX7_foreseen 20 = .ok (.iload_n 3, 1) := by decide +kernel
theorem dX7_foreseen_21 : decode cX7_foreseen 21 = .ok (.iaload, 1) := by decide +kernel
theorem dX7_foreseen_22 : decode cX7_foreseen 22 = .ok (.iastore, 1) := by decide +kernel
theorem dX7_foreseen_23 : decode cX7_foreseen 23 = .ok (.iinc 3 1, 3) := by decide +kernel
theorem dX7_foreseen_26 : decode cX7_foreseen 26 = .ok (.goto (-22), 3) := by decide +kernel
theorem dX7_foreseen_29 : decode cX7_foreseen 29 = .ok (.iconst 0, 1) := by decide +kernel
theorem dX7_foreseen_30 : decode cX7_foreseen 30 = .ok (.istore_n 3, 1) := by decide +kernel
theorem dX7_foreseen_31 : decode cX7_foreseen 31 = .ok (.iload_n 3, 1) := by decide +kernel
theorem dX7_foreseen_32 : decode cX7_foreseen 32 = .ok (.iload_n 1, 1) := by decide +kernel
theorem dX7_foreseen_33 : decode cX7_foreseen 33 = .ok (.if_icmp .ge 14, 3) := by decide +kernel
theorem dX7_foreseen_36 : decode cX7_foreseen 36 = .ok (.aload_n 0, 1) := by decide +kernel
theorem dX7_foreseen_37 : decode cX7_foreseen 37 = .ok (.invokevirtual 201, 3) := by decide +kernel
theorem dX7_foreseen_40 : decode cX7_foreseen 40 = .ok (.istore_n 2, 1) := by decide +kernel
theorem dX7_foreseen_41 : decode cX7_foreseen 41 = .ok (.iinc 3 1, 3) := by decide +kernel
theorem dX7_foreseen_44 : decode cX7_foreseen 44 = .ok (.goto (-13), 3) := by decide +kernel
theorem dX7_foreseen_47 : decode cX7_foreseen 47 = .ok (.iconst 0, 1) := by decide +kernel
theorem dX7_foreseen_48 : decode cX7_foreseen 48 = .ok (.istore_n 3, 1) := by decide +kernel
theorem dX7_foreseen_49 : decode cX7_foreseen 49 = .ok (.iload_n 3, 1) := by decide +kernel
theorem dX7_foreseen_50 : decode cX7_foreseen 50 = .ok (.sipush 704, 3) := by decide +kernel
theorem dX7_foreseen_53 : decode cX7_foreseen 53 = .ok (.if_icmp .ge 21, 3) := by decide +kernel
theorem dX7_foreseen_56 : decode cX7_foreseen 56 = .ok (.aload_n 0, 1) := by decide +kernel
theorem dX7_foreseen_57 : decode cX7_foreseen 57 = .ok (.getfield 7, 3) := by decide +kernel
theorem dX7_foreseen_60 : decode cX7_foreseen 60 = .ok (.iload_n 3, 1) := by decide +kernel
theorem dX7_foreseen_61 : decode cX7_foreseen 61 = .ok (.aload_n 0, 1) := by decide +kernel
theorem dX7_foreseen_62 : decode cX7_foreseen 62 = .ok (.getfield 13, 3) := by decide +kernel
theorem dX7_foreseen_65 : decode cX7_foreseen 65 = .ok (.iload_n 3, 1) := by decide +kernel
theorem dX7_foreseen_66 : decode cX7_foreseen 66 = .ok (.iaload, 1) := by decide +kernel
theorem dX7_foreseen_67 : decode cX7_foreseen 67 = .ok (.iastore, 1) := by decide +kernel
theorem dX7_foreseen_68 : decode cX7_foreseen 68 = .ok (.iinc 3 1, 3) := by decide +kernel
theorem dX7_foreseen_71 : decode cX7_foreseen 71 = .ok (.goto (-22), 3) := by decide +kernel
theorem dX7_foreseen_74 : decode cX7_foreseen 74 = .ok (.iload_n 2, 1) := by decide +kernel
theorem dX7_foreseen_75 : decode cX7_foreseen 75 = .ok (.ireturn, 1) := by decide +kernel
theorem dX7_ahead_0 : decode cX7_ahead 0 = .ok (.aload_n 0, 1) := by decide +kernel
theorem dX7_ahead_1 : decode cX7_ahead 1 = .ok (.iload_n 1, 1) := by decide +kernel
theorem dX7_ahead_2 : decode cX7_ahead 2 = .ok (.iconst 1, 1) := by decide +kernel
theorem dX7_ahead_3 : decode cX7_ahead 3 = .ok (.bipush 40, 2) := by decide +kernel
theorem dX7_ahead_5 : decode cX7_ahead 5 = .ok (.invokestatic 94, 3) := by decide +kernel
theorem dX7_ahead_8 : decode cX7_ahead 8 = .ok (.invokevirtual 121, 3) := by decide +kernel
theorem dX7_ahead_11 : decode cX7_ahead 11 = .ok (.ifCond .le 7, 3) := by decide +kernel
theorem dX7_ahead_14 : decode cX7_ahead 14 = .ok (.iconst 0, 1) := by decide +kernel
theorem dX7_ahead_15 : decode cX7_ahead 15 = .ok (.goto 8, 3) := by decide +kernel
theorem dX7_ahead_18 : decode cX7_ahead 18 = .ok (.aload_n 0, 1) := by decide +kernel
theorem dX7_ahead_19 : decode cX7_ahead 19 = .ok (.iload_n 1, 1) := by decide +kernel
theorem dX7_ahead_20 : decode cX7_ahead 20 = .ok (.invokevirtual 207, 3) := by decide +kernel
theorem dX7_ahead_23 : decode cX7_ahead 23 = .ok (.ireturn, 1) := by decide +kernel
theorem dX7_aheadByBlocks_0 : decode cX7_aheadByBlocks 0 = .ok (.aload_n 0, 1) := by decide +kernel
theorem dX7_aheadByBlocks_1 : decode cX7_aheadByBlocks 1 = .ok (.iload_n 1, 1) := by decide +kernel
theorem dX7_aheadByBlocks_2 : decode cX7_aheadByBlocks 2 = .ok (.iconst 1, 1) := by decide +kernel
theorem dX7_aheadByBlocks_3 : decode cX7_aheadByBlocks 3 = .ok (.bipush 40, 2) := by decide +kernel
theorem dX7_aheadByBlocks_5 : decode cX7_aheadByBlocks 5 = .ok (.invokestatic 94, 3) := by decide +kernel
theorem dX7_aheadByBlocks_8 : decode cX7_aheadByBlocks 8 = .ok (.ifCond .eq 17, 3) := by decide +kernel
theorem dX7_aheadByBlocks_11 : decode cX7_aheadByBlocks 11 = .ok (.iload_n 2, 1) := by decide +kernel
theorem dX7_aheadByBlocks_12 : decode cX7_aheadByBlocks 12 = .ok (.iconst 1, 1) := by decide +kernel
theorem dX7_aheadByBlocks_13 : decode cX7_aheadByBlocks 13 = .ok (.bipush 64, 2) := by decide +kernel
theorem dX7_aheadByBlocks_15 : decode cX7_aheadByBlocks 15 = .ok (.invokestatic 94, 3) := by decide +kernel
theorem dX7_aheadByBlocks_18 : decode cX7_aheadByBlocks 18 = .ok (.ifCond .eq 7, 3) := by decide +kernel
theorem dX7_aheadByBlocks_21 : decode cX7_aheadByBlocks 21 = .ok (.iconst 1, 1) := by decide +kernel
theorem dX7_aheadByBlocks_22 : decode cX7_aheadByBlocks 22 = .ok (.goto 4, 3) := by decide +kernel
theorem dX7_aheadByBlocks_25 : decode cX7_aheadByBlocks 25 = .ok (.iconst 0, 1) := by decide +kernel
theorem dX7_aheadByBlocks_26 : decode cX7_aheadByBlocks 26 = .ok (.invokevirtual 121, 3) := by decide +kernel
theorem dX7_aheadByBlocks_29 : decode cX7_aheadByBlocks 29 = .ok (.ifCond .le 7, 3) := by decide +kernel
theorem dX7_aheadByBlocks_32 : decode cX7_aheadByBlocks 32 = .ok (.iconst 0, 1) := by decide +kernel
theorem dX7_aheadByBlocks_33 : decode cX7_aheadByBlocks 33 = .ok (.goto 8, 3) := by decide +kernel
theorem dX7_aheadByBlocks_36 : decode cX7_aheadByBlocks 36 = .ok (.aload_n 0, 1) := by decide +kernel
theorem dX7_aheadByBlocks_37 : decode cX7_aheadByBlocks 37 = .ok (.iload_n 1, 1) := by decide +kernel
theorem dX7_aheadByBlocks_38 : decode cX7_aheadByBlocks 38 = .ok (.invokevirtual 207, 3) := by decide +kernel
theorem dX7_aheadByBlocks_41 : decode cX7_aheadByBlocks 41 = .ok (.ireturn, 1) := by decide +kernel
theorem dX7_heard_0 : decode cX7_heard 0 = .ok (.aload_n 0, 1) := by decide +kernel
theorem dX7_heard_1 : decode cX7_heard 1 = .ok (.iload_n 1, 1) := by decide +kernel
theorem dX7_heard_2 : decode cX7_heard 2 = .ok (.iconst 0, 1) := by decide +kernel
theorem dX7_heard_3 : decode cX7_heard 3 = .ok (.bipush 63, 2) := by decide +kernel
theorem dX7_heard_5 : decode cX7_heard 5 = .ok (.invokestatic 94, 3) := by decide +kernel
theorem dX7_heard_8 : decode cX7_heard 8 = .ok (.ifCond .ne 7, 3) := by decide +kernel
theorem dX7_heard_11 : decode cX7_heard 11 = .ok (.iconst 1, 1) := by decide +kernel
theorem dX7_heard_12 : decode cX7_heard 12 = .ok (.goto 16, 3) := by decide +kernel
theorem dX7_heard_15 : decode cX7_heard 15 = .ok (.iload_n 1, 1) := by decide +kernel
theorem dX7_heard_16 : decode cX7_heard 16 = .ok (.aload_n 0, 1) := by decide +kernel
theorem dX7_heard_17 : decode cX7_heard 17 = .ok (.getfield 78, 3) := by decide +kernel
theorem dX7_heard_20 : decode cX7_heard 20 = .ok (.if_icmp .lt 7, 3) := by decide +kernel
theorem dX7_heard_23 : decode cX7_heard 23 = .ok (.iconst 2, 1) := by decide +kernel
theorem dX7_heard_24 : decode cX7_heard 24 = .ok (.goto 4, 3) := by decide +kernel
theorem dX7_heard_27 : decode cX7_heard 27 = .ok (.iconst 0, 1) := by decide +kernel
theorem dX7_heard_28 : decode cX7_heard 28 = .ok (.putfield 47, 3) := by decide +kernel
theorem dX7_heard_31 : decode cX7_heard 31 = .ok (.aload_n 0, 1) := by decide +kernel
theorem dX7_heard_32 : decode cX7_heard 32 = .ok (.getfield 47, 3) := by decide +kernel
theorem dX7_heard_35 : decode cX7_heard 35 = .ok (.ifCond .le 7, 3) := by decide +kernel
theorem dX7_heard_38 : decode cX7_heard 38 = .ok (.iconst 0, 1) := by decide +kernel
theorem dX7_heard_39 : decode cX7_heard 39 = .ok (.goto 19, 3) := by decide +kernel
theorem dX7_heard_42 : decode cX7_heard 42 = .ok (.aload_n 0, 1) := by decide +kernel
theorem dX7_heard_43 : decode cX7_heard 43 = .ok (.getfield 40, 3) := by decide +kernel
theorem dX7_heard_46 : decode cX7_heard 46 = .ok (.aload_n 0, 1) := by decide +kernel
theorem dX7_heard_47 : decode cX7_heard 47 = .ok (.getfield 78, 3) := by decide +kernel
theorem dX7_heard_50 : decode cX7_heard 50 = .ok (.iconst 1, 1) := by decide +kernel
theorem dX7_heard_51 : decode cX7_heard 51 = .ok (.isub, 1) := by decide +kernel
theorem dX7_heard_52 : decode cX7_heard 52 = .ok (.iload_n 1, 1) := by decide +kernel
theorem dX7_heard_53 : decode cX7_heard 53 = .ok (.isub, 1) := by decide +kernel
theorem dX7_heard_54 : decode cX7_heard 54 = .ok (.bipush 64, 2) := by decide +kernel
theorem dX7_heard_56 : decode cX7_heard 56 = .ok (.irem, 1) := by decide +kernel
theorem dX7_heard_57 : decode cX7_heard 57 = .ok (.iaload, 1) := by decide +kernel
theorem dX7_heard_58 : decode cX7_heard 58 = .ok (.ireturn, 1) := by decide +kernel
theorem dX7_outputOf_0 : decode cX7_outputOf 0 = .ok (.aload_n 0, 1) := by decide +kernel
theorem dX7_outputOf_1 : decode cX7_outputOf 1 = .ok (.aload_n 0, 1) := by decide +kernel
theorem dX7_outputOf_2 : decode cX7_outputOf 2 = .ok (.iload_n 1, 1) := by decide +kernel
theorem dX7_outputOf_3 : decode cX7_outputOf 3 = .ok (.invokevirtual 110, 3) := by decide +kernel
theorem dX7_outputOf_6 : decode cX7_outputOf 6 = .ok (.invokevirtual 121, 3) := by decide +kernel
theorem dX7_outputOf_9 : decode cX7_outputOf 9 = .ok (.ifCond .le 7, 3) := by decide +kernel
theorem dX7_outputOf_12 : decode cX7_outputOf 12 = .ok (.iconst 0, 1) := by decide +kernel
theorem dX7_outputOf_13 : decode cX7_outputOf 13 = .ok (.goto 13, 3) := by decide +kernel
theorem dX7_outputOf_16 : decode cX7_outputOf 16 = .ok (.aload_n 0, 1) := by decide +kernel
theorem dX7_outputOf_17 : decode cX7_outputOf 17 = .ok (.getfield 7, 3) := by decide +kernel
theorem dX7_outputOf_20 : decode cX7_outputOf 20 = .ok (.sipush 630, 3) := by decide +kernel
theorem dX7_outputOf_23 : decode cX7_outputOf 23 = .ok (.iload_n 1, 1) := by decide +kernel
theorem dX7_outputOf_24 : decode cX7_outputOf 24 = .ok (.iadd, 1) := by decide +kernel
theorem dX7_outputOf_25 : decode cX7_outputOf 25 = .ok (.iaload, 1) := by decide +kernel
theorem dX7_outputOf_26 : decode cX7_outputOf 26 = .ok (.ireturn, 1) := by decide +kernel
theorem dX7_time_0 : decode cX7_time 0 = .ok (.aload_n 0, 1) := by decide +kernel
theorem dX7_time_1 : decode cX7_time 1 = .ok (.aload_n 0, 1) := by decide +kernel
theorem dX7_time_2 : decode cX7_time 2 = .ok (.getfield 78, 3) := by decide +kernel
theorem dX7_time_5 : decode cX7_time 5 = .ok (.invokevirtual 125, 3) := by decide +kernel
theorem dX7_time_8 : decode cX7_time 8 = .ok (.ireturn, 1) := by decide +kernel
theorem dX7_greatest_0 : decode cX7_greatest 0 = .ok (.aload_n 0, 1) := by decide +kernel
theorem dX7_greatest_1 : decode cX7_greatest 1 = .ok (.aload_n 0, 1) := by decide +kernel
theorem dX7_greatest_2 : decode cX7_greatest 2 = .ok (.getfield 81, 3) := by decide +kernel
theorem dX7_greatest_5 : decode cX7_greatest 5 = .ok (.invokevirtual 125, 3) := by decide +kernel
theorem dX7_greatest_8 : decode cX7_greatest 8 = .ok (.ireturn, 1) := by decide +kernel
theorem dX7_energy_0 : decode cX7_energy 0 = .ok (.aload_n 0, 1) := by decide +kernel
theorem dX7_energy_1 : decode cX7_energy 1 = .ok (.iconst 0, 1) := by decide +kernel
theorem dX7_energy_2 : decode cX7_energy 2 = .ok (.putfield 47, 3) := by decide +kernel
theorem dX7_energy_5 : decode cX7_energy 5 = .ok (.aload_n 0, 1) := by decide +kernel
theorem dX7_energy_6 : decode cX7_energy 6 = .ok (.getfield 87, 3) := by decide +kernel
theorem dX7_energy_9 : decode cX7_energy 9 = .ok (.lreturn, 1) := by decide +kernel
theorem dX7_meanEnergy_0 : decode cX7_meanEnergy 0 = .ok (.aload_n 0, 1) := by decide +kernel
theorem dX7_meanEnergy_1 : decode cX7_meanEnergy 1 = .ok (.aload_n 0, 1) := by decide +kernel
theorem dX7_meanEnergy_2 : decode cX7_meanEnergy 2 = .ok (.getfield 78, 3) := by decide +kernel
theorem dX7_meanEnergy_5 : decode cX7_meanEnergy 5 = .ok (.ifCond .le 7, 3) := by decide +kernel
theorem dX7_meanEnergy_8 : decode cX7_meanEnergy 8 = .ok (.iconst 1, 1) := by decide +kernel
theorem dX7_meanEnergy_9 : decode cX7_meanEnergy 9 = .ok (.goto 4, 3) := by decide +kernel
theorem dX7_meanEnergy_12 : decode cX7_meanEnergy 12 = .ok (.iconst 0, 1) := by decide +kernel
theorem dX7_meanEnergy_13 : decode cX7_meanEnergy 13 = .ok (.invokevirtual 121, 3) := by decide +kernel
theorem dX7_meanEnergy_16 : decode cX7_meanEnergy 16 = .ok (.ifCond .le 7, 3) := by decide +kernel
theorem dX7_meanEnergy_19 : decode cX7_meanEnergy 19 = .ok (.dconst 0, 1) := by decide +kernel
theorem dX7_meanEnergy_20 : decode cX7_meanEnergy 20 = .ok (.goto 14, 3) := by decide +kernel
theorem dX7_meanEnergy_23 : decode cX7_meanEnergy 23 = .ok (.aload_n 0, 1) := by decide +kernel
theorem dX7_meanEnergy_24 : decode cX7_meanEnergy 24 = .ok (.getfield 87, 3) := by decide +kernel
theorem dX7_meanEnergy_27 : decode cX7_meanEnergy 27 = .ok (.l2d, 1) := by decide +kernel
theorem dX7_meanEnergy_28 : decode cX7_meanEnergy 28 = .ok (.aload_n 0, 1) := by decide +kernel
theorem dX7_meanEnergy_29 : decode cX7_meanEnergy 29 = .ok (.getfield 78, 3) := by decide +kernel
theorem dX7_meanEnergy_32 : decode cX7_meanEnergy 32 = .ok (.i2d, 1) := by decide +kernel
theorem dX7_meanEnergy_33 : decode cX7_meanEnergy 33 = .ok (.ddiv, 1) := by decide +kernel
theorem dX7_meanEnergy_34 : decode cX7_meanEnergy 34 = .ok (.dreturn, 1) := by decide +kernel
theorem dX7_quietShare_0 : decode cX7_quietShare 0 = .ok (.aload_n 0, 1) := by decide +kernel
theorem dX7_quietShare_1 : decode cX7_quietShare 1 = .ok (.aload_n 0, 1) := by decide +kernel
theorem dX7_quietShare_2 : decode cX7_quietShare 2 = .ok (.getfield 78, 3) := by decide +kernel
theorem dX7_quietShare_5 : decode cX7_quietShare 5 = .ok (.ifCond .le 7, 3) := by decide +kernel
theorem dX7_quietShare_8 : decode cX7_quietShare 8 = .ok (.iconst 1, 1) := by decide +kernel
theorem dX7_quietShare_9 : decode cX7_quietShare 9 = .ok (.goto 4, 3) := by decide +kernel
theorem dX7_quietShare_12 : decode cX7_quietShare 12 = .ok (.iconst 0, 1) := by decide +kernel
theorem dX7_quietShare_13 : decode cX7_quietShare 13 = .ok (.invokevirtual 121, 3) := by decide +kernel
theorem dX7_quietShare_16 : decode cX7_quietShare 16 = .ok (.ifCond .le 7, 3) := by decide +kernel
theorem dX7_quietShare_19 : decode cX7_quietShare 19 = .ok (.fconst 0, 1) := by decide +kernel
theorem dX7_quietShare_20 : decode cX7_quietShare 20 = .ok (.goto 14, 3) := by decide +kernel
theorem dX7_quietShare_23 : decode cX7_quietShare 23 = .ok (.aload_n 0, 1) := by decide +kernel
theorem dX7_quietShare_24 : decode cX7_quietShare 24 = .ok (.getfield 84, 3) := by decide +kernel
theorem dX7_quietShare_27 : decode cX7_quietShare 27 = .ok (.i2f, 1) := by decide +kernel
theorem dX7_quietShare_28 : decode cX7_quietShare 28 = .ok (.aload_n 0, 1) := by decide +kernel
theorem dX7_quietShare_29 : decode cX7_quietShare 29 = .ok (.getfield 78, 3) := by decide +kernel
theorem dX7_quietShare_32 : decode cX7_quietShare 32 = .ok (.i2f, 1) := by decide +kernel
theorem dX7_quietShare_33 : decode cX7_quietShare 33 = .ok (.fdiv, 1) := by decide +kernel
theorem dX7_quietShare_34 : decode cX7_quietShare 34 = .ok (.freturn, 1) := by decide +kernel
theorem dX7_placeOf_0 : decode cX7_placeOf 0 = .ok (.iconst 0, 1) := by decide +kernel
theorem dX7_placeOf_1 : decode cX7_placeOf 1 = .ok (.istore_n 2, 1) := by decide +kernel
theorem dX7_placeOf_2 : decode cX7_placeOf 2 = .ok (.aload_n 0, 1) := by decide +kernel
theorem dX7_placeOf_3 : decode cX7_placeOf 3 = .ok (.getfield 37, 3) := by decide +kernel
theorem dX7_placeOf_6 : decode cX7_placeOf 6 = .ok (.iload_n 2, 1) := by decide +kernel
theorem dX7_placeOf_7 : decode cX7_placeOf 7 = .ok (.iaload, 1) := by decide +kernel
theorem dX7_placeOf_8 : decode cX7_placeOf 8 = .ok (.iload_n 1, 1) := by decide +kernel
theorem dX7_placeOf_9 : decode cX7_placeOf 9 = .ok (.if_icmp .eq 9, 3) := by decide +kernel
theorem dX7_placeOf_12 : decode cX7_placeOf 12 = .ok (.iinc 2 1, 3) := by decide +kernel
theorem dX7_placeOf_15 : decode cX7_placeOf 15 = .ok (.goto (-13), 3) := by decide +kernel
theorem dX7_placeOf_18 : decode cX7_placeOf 18 = .ok (.iload_n 2, 1) := by decide +kernel
theorem dX7_placeOf_19 : decode cX7_placeOf 19 = .ok (.ireturn, 1) := by decide +kernel
theorem dX7_isConsistent_0 : decode cX7_isConsistent 0 = .ok (.aload_n 0, 1) := by decide +kernel
theorem dX7_isConsistent_1 : decode cX7_isConsistent 1 = .ok (.iconst 0, 1) := by decide +kernel
theorem dX7_isConsistent_2 : decode cX7_isConsistent 2 = .ok (.putfield 47, 3) := by decide +kernel
theorem dX7_isConsistent_5 : decode cX7_isConsistent 5 = .ok (.iconst 0, 1) := by decide +kernel
theorem dX7_isConsistent_6 : decode cX7_isConsistent 6 = .ok (.istore_n 1, 1) := by decide +kernel
theorem dX7_isConsistent_7 : decode cX7_isConsistent 7 = .ok (.iload_n 1, 1) := by decide +kernel
theorem dX7_isConsistent_8 : decode cX7_isConsistent 8 = .ok (.aload_n 0, 1) := by decide +kernel
theorem dX7_isConsistent_9 : decode cX7_isConsistent 9 = .ok (.getfield 51, 3) := by decide +kernel
theorem dX7_isConsistent_12 : decode cX7_isConsistent 12 = .ok (.if_icmp .ge 61, 3) := by decide +kernel
theorem dX7_isConsistent_15 : decode cX7_isConsistent 15 = .ok (.iconst 0, 1) := by decide +kernel
theorem dX7_isConsistent_16 : decode cX7_isConsistent 16 = .ok (.istore_n 2, 1) := by decide +kernel
theorem dX7_isConsistent_17 : decode cX7_isConsistent 17 = .ok (.iload_n 2, 1) := by decide +kernel
theorem dX7_isConsistent_18 : decode cX7_isConsistent 18 = .ok (.aload_n 0, 1) := by decide +kernel
theorem dX7_isConsistent_19 : decode cX7_isConsistent 19 = .ok (.getfield 34, 3) := by decide +kernel
theorem dX7_isConsistent_22 : decode cX7_isConsistent 22 = .ok (.iload_n 1, 1) := by decide +kernel
theorem dX7_isConsistent_23 : decode cX7_isConsistent 23 = .ok (.iaload, 1) := by decide +kernel
theorem dX7_isConsistent_24 : decode cX7_isConsistent 24 = .ok (.if_icmp .ge 43, 3) := by decide +kernel
theorem dX7_isConsistent_27 : decode cX7_isConsistent 27 = .ok (.aload_n 0, 1) := by decide +kernel
theorem dX7_isConsistent_28 : decode cX7_isConsistent 28 = .ok (.getfield 16, 3) := by decide +kernel
theorem dX7_isConsistent_31 : decode cX7_isConsistent 31 = .ok (.iload_n 1, 1) := by decide +kernel
theorem dX7_isConsistent_32 : decode cX7_isConsistent 32 = .ok (.iaload, 1) := by decide +kernel
theorem dX7_isConsistent_33 : decode cX7_isConsistent 33 = .ok (.iconst 2, 1) := by decide +kernel
theorem dX7_isConsistent_34 : decode cX7_isConsistent 34 = .ok (.if_icmp .eq 33, 3) := by decide +kernel
theorem dX7_isConsistent_37 : decode cX7_isConsistent 37 = .ok (.aload_n 0, 1) := by decide +kernel
theorem dX7_isConsistent_38 : decode cX7_isConsistent 38 = .ok (.aload_n 0, 1) := by decide +kernel
theorem dX7_isConsistent_39 : decode cX7_isConsistent 39 = .ok (.getfield 28, 3) := by decide +kernel
theorem dX7_isConsistent_42 : decode cX7_isConsistent 42 = .ok (.iconst 4, 1) := by decide +kernel
theorem dX7_isConsistent_43 : decode cX7_isConsistent 43 = .ok (.iload_n 1, 1) := by decide +kernel
theorem dX7_isConsistent_44 : decode cX7_isConsistent 44 = .ok (.imul, 1) := by decide +kernel
theorem dX7_isConsistent_45 : decode cX7_isConsistent 45 = .ok (.iload_n 2, 1) := by decide +kernel
theorem dX7_isConsistent_46 : decode cX7_isConsistent 46 = .ok (.iadd, 1) := by decide +kernel
theorem dX7_isConsistent_47 : decode cX7_isConsistent 47 = .ok (.iaload, 1) := by decide +kernel
theorem dX7_isConsistent_48 : decode cX7_isConsistent 48 = .ok (.invokevirtual 210, 3) := by decide +kernel
theorem dX7_isConsistent_51 : decode cX7_isConsistent 51 = .ok (.aload_n 0, 1) := by decide +kernel
theorem dX7_isConsistent_52 : decode cX7_isConsistent 52 = .ok (.iload_n 1, 1) := by decide +kernel
theorem dX7_isConsistent_53 : decode cX7_isConsistent 53 = .ok (.invokevirtual 210, 3) := by decide +kernel
theorem dX7_isConsistent_56 : decode cX7_isConsistent 56 = .ok (.if_icmp .le 5, 3) := by decide +kernel
theorem dX7_isConsistent_59 : decode cX7_isConsistent 59 = .ok (.iconst 0, 1) := by decide +kernel
theorem dX7_isConsistent_60 : decode cX7_isConsistent 60 = .ok (.ireturn, 1) := by decide +kernel
theorem dX7_isConsistent_61 : decode cX7_isConsistent 61 = .ok (.iinc 2 1, 3) := by decide +kernel
theorem dX7_isConsistent_64 : decode cX7_isConsistent 64 = .ok (.goto (-47), 3) := by decide +kernel
theorem dX7_isConsistent_67 : decode cX7_isConsistent 67 = .ok (.iinc 1 1, 3) := by decide +kernel
theorem dX7_isConsistent_70 : decode cX7_isConsistent 70 = .ok (.goto (-63), 3) := by decide +kernel
theorem dX7_isConsistent_73 : decode cX7_isConsistent 73 = .ok (.iconst 0, 1) := by decide +kernel
theorem dX7_isConsistent_74 : decode cX7_isConsistent 74 = .ok (.istore_n 1, 1) := by decide +kernel
theorem dX7_isConsistent_75 : decode cX7_isConsistent 75 = .ok (.iload_n 1, 1) := by decide +kernel
theorem dX7_isConsistent_76 : decode cX7_isConsistent 76 = .ok (.iconst 4, 1) := by decide +kernel
theorem dX7_isConsistent_77 : decode cX7_isConsistent 77 = .ok (.if_icmp .ge 26, 3) := by decide +kernel
theorem dX7_isConsistent_80 : decode cX7_isConsistent 80 = .ok (.aload_n 0, 1) := by decide +kernel
theorem dX7_isConsistent_81 : decode cX7_isConsistent 81 = .ok (.iload_n 1, 1) := by decide +kernel
theorem dX7_isConsistent_82 : decode cX7_isConsistent 82 = .ok (.invokevirtual 149, 3) := by decide +kernel
theorem dX7_isConsistent_85 : decode cX7_isConsistent 85 = .ok (.iconst 0, 1) := by decide +kernel
theorem dX7_isConsistent_86 : decode cX7_isConsistent 86 = .ok (.sipush 1000, 3) := by decide +kernel
theorem dX7_isConsistent_89 : decode cX7_isConsistent 89 = .ok (.invokestatic 94, 3) := by decide +kernel
theorem dX7_isConsistent_92 : decode cX7_isConsistent 92 = .ok (.ifCond .ne 5, 3) := by decide +kernel
theorem dX7_isConsistent_95 : decode cX7_isConsistent 95 = .ok (.iconst 0, 1) := by decide +kernel
theorem dX7_isConsistent_96 : decode cX7_isConsistent 96 = .ok (.ireturn, 1) := by decide +kernel
theorem dX7_isConsistent_97 : decode cX7_isConsistent 97 = .ok (.iinc 1 1, 3) := by decide +kernel
theorem dX7_isConsistent_100 : decode cX7_isConsistent 100 = .ok (.goto (-25), 3) := by decide +kernel
theorem dX7_isConsistent_103 : decode cX7_isConsistent 103 = .ok (.iconst 1, 1) := by decide +kernel
theorem dX7_isConsistent_104 : decode cX7_isConsistent 104 = .ok (.ireturn, 1) := by decide +kernel
theorem dJx00060_init_a7421_0 : decode cJx00060_init_a7421 0 = .ok (.aload_n 0, 1) := by decide +kernel
theorem dJx00060_init_a7421_1 : decode cJx00060_init_a7421 1 = .ok (.aload_n 1, 1) := by decide +kernel
theorem dJx00060_init_a7421_2 : decode cJx00060_init_a7421 2 = .ok (.invokespecial 7, 3) := by decide +kernel
theorem dJx00060_init_a7421_5 : decode cJx00060_init_a7421 5 = .ok (.return_, 1) := by decide +kernel
theorem dJ9_abs_0f7a4_0 : decode cJ9_abs_0f7a4 0 = .ok (.iload_n 0, 1) := by decide +kernel
theorem dJ9_abs_0f7a4_1 : decode cJ9_abs_0f7a4 1 = .ok (.ifCond .ge 8, 3) := by decide +kernel
theorem dJ9_abs_0f7a4_4 : decode cJ9_abs_0f7a4 4 = .ok (.iload_n 0, 1) := by decide +kernel
theorem dJ9_abs_0f7a4_5 : decode cJ9_abs_0f7a4 5 = .ok (.ineg, 1) := by decide +kernel
theorem dJ9_abs_0f7a4_6 : decode cJ9_abs_0f7a4 6 = .ok (.goto 4, 3) := by decide +kernel
theorem dJ9_abs_0f7a4_9 : decode cJ9_abs_0f7a4 9 = .ok (.iload_n 0, 1) := by decide +kernel
theorem dJ9_abs_0f7a4_10 : decode cJ9_abs_0f7a4 10 = .ok (.ireturn, 1) := by decide +kernel
theorem dJ9_max_7cf53_0 : decode cJ9_max_7cf53 0 = .ok (.iload_n 0, 1) := by decide +kernel
theorem dJ9_max_7cf53_1 : decode cJ9_max_7cf53 1 = .ok (.iload_n 1, 1) := by decide +kernel
theorem dJ9_max_7cf53_2 : decode cJ9_max_7cf53 2 = .ok (.if_icmp .lt 7, 3) := by decide +kernel
theorem dJ9_max_7cf53_5 : decode cJ9_max_7cf53 5 = .ok (.iload_n 0, 1) := by decide +kernel
theorem dJ9_max_7cf53_6 : decode cJ9_max_7cf53 6 = .ok (.goto 4, 3) := by decide +kernel
theorem dJ9_max_7cf53_9 : decode cJ9_max_7cf53 9 = .ok (.iload_n 1, 1) := by decide +kernel
theorem dJ9_max_7cf53_10 : decode cJ9_max_7cf53 10 = .ok (.ireturn, 1) := by decide +kernel
theorem dJ9_min_7cf53_0 : decode cJ9_min_7cf53 0 = .ok (.iload_n 0, 1) := by decide +kernel
theorem dJ9_min_7cf53_1 : decode cJ9_min_7cf53 1 = .ok (.iload_n 1, 1) := by decide +kernel
theorem dJ9_min_7cf53_2 : decode cJ9_min_7cf53 2 = .ok (.if_icmp .gt 7, 3) := by decide +kernel
theorem dJ9_min_7cf53_5 : decode cJ9_min_7cf53 5 = .ok (.iload_n 0, 1) := by decide +kernel
theorem dJ9_min_7cf53_6 : decode cJ9_min_7cf53 6 = .ok (.goto 4, 3) := by decide +kernel
theorem dJ9_min_7cf53_9 : decode cJ9_min_7cf53 9 = .ok (.iload_n 1, 1) := by decide +kernel
theorem dJ9_min_7cf53_10 : decode cJ9_min_7cf53 10 = .ok (.ireturn, 1) := by decide +kernel
theorem dL_addGain_0 : decode cL_addGain 0 = .ok (.aload_n 2, 1) := by decide +kernel
theorem dL_addGain_1 : decode cL_addGain 1 = .ok (.iconst 0, 1) := by decide +kernel
theorem dL_addGain_2 : decode cL_addGain 2 = .ok (.aload_n 0, 1) := by decide +kernel
theorem dL_addGain_3 : decode cL_addGain 3 = .ok (.iload_n 1, 1) := by decide +kernel
theorem dL_addGain_4 : decode cL_addGain 4 = .ok (.invokevirtual 7, 3) := by decide +kernel
theorem dL_addGain_7 : decode cL_addGain 7 = .ok (.i2l, 1) := by decide +kernel
theorem dL_addGain_8 : decode cL_addGain 8 = .ok (.lastore, 1) := by decide +kernel
theorem dL_addGain_9 : decode cL_addGain 9 = .ok (.goto 9, 3) := by decide +kernel
theorem dL_addGain_12 : decode cL_addGain 12 = .ok (.astore_n 3, 1) := by decide +kernel
theorem dL_addGain_13 : decode cL_addGain 13 = .ok (.iconst 1, 1) := by decide +kernel
theorem dL_addGain_14 : decode cL_addGain 14 = .ok (.ireturn, 1) := by decide +kernel
theorem dL_addGain_15 : decode cL_addGain 15 = .ok (.astore_n 3, 1) := by decide +kernel
theorem dL_addGain_16 : decode cL_addGain 16 = .ok (.iconst 2, 1) := by decide +kernel
theorem dL_addGain_17 : decode cL_addGain 17 = .ok (.ireturn, 1) := by decide +kernel
theorem dL_addGain_18 : decode cL_addGain 18 = .ok (.iconst 0, 1) := by decide +kernel
theorem dL_addGain_19 : decode cL_addGain 19 = .ok (.ireturn, 1) := by decide +kernel
theorem dL_addDelay_0 : decode cL_addDelay 0 = .ok (.aload_n 3, 1) := by decide +kernel
theorem dL_addDelay_1 : decode cL_addDelay 1 = .ok (.iconst 0, 1) := by decide +kernel
theorem dL_addDelay_2 : decode cL_addDelay 2 = .ok (.aload_n 0, 1) := by decide +kernel
theorem dL_addDelay_3 : decode cL_addDelay 3 = .ok (.iload_n 1, 1) := by decide +kernel
theorem dL_addDelay_4 : decode cL_addDelay 4 = .ok (.iload_n 2, 1) := by decide +kernel
theorem dL_addDelay_5 : decode cL_addDelay 5 = .ok (.invokevirtual 17, 3) := by decide +kernel
theorem dL_addDelay_8 : decode cL_addDelay 8 = .ok (.i2l, 1) := by decide +kernel
theorem dL_addDelay_9 : decode cL_addDelay 9 = .ok (.lastore, 1) := by decide +kernel
theorem dL_addDelay_10 : decode cL_addDelay 10 = .ok (.goto 11, 3) := by decide +kernel
theorem dL_addDelay_13 : decode cL_addDelay 13 = .ok (.astore 4, 2) := by decide +kernel
theorem dL_addDelay_15 : decode cL_addDelay 15 = .ok (.iconst 1, 1) := by decide +kernel
theorem dL_addDelay_16 : decode cL_addDelay 16 = .ok (.ireturn, 1) := by decide +kernel
theorem dL_addDelay_17 : decode cL_addDelay 17 = .ok (.astore 4, 2) := by decide +kernel
theorem dL_addDelay_19 : decode cL_addDelay 19 = .ok (.iconst 2, 1) := by decide +kernel
theorem dL_addDelay_20 : decode cL_addDelay 20 = .ok (.ireturn, 1) := by decide +kernel
theorem dL_addDelay_21 : decode cL_addDelay 21 = .ok (.iconst 0, 1) := by decide +kernel
theorem dL_addDelay_22 : decode cL_addDelay 22 = .ok (.ireturn, 1) := by decide +kernel
theorem dL_addFilter_0 : decode cL_addFilter 0 = .ok (.aload 4, 2) := by decide +kernel
theorem dL_addFilter_2 : decode cL_addFilter 2 = .ok (.iconst 0, 1) := by decide +kernel
theorem dL_addFilter_3 : decode cL_addFilter 3 = .ok (.aload_n 0, 1) := by decide +kernel
theorem dL_addFilter_4 : decode cL_addFilter 4 = .ok (.iload_n 1, 1) := by decide +kernel
theorem dL_addFilter_5 : decode cL_addFilter 5 = .ok (.iload_n 2, 1) := by decide +kernel
theorem dL_addFilter_6 : decode cL_addFilter 6 = .ok (.iload_n 3, 1) := by decide +kernel
theorem dL_addFilter_7 : decode cL_addFilter 7 = .ok (.invokevirtual 21, 3) := by decide +kernel
theorem dL_addFilter_10 : decode cL_addFilter 10 = .ok (.i2l, 1) := by decide +kernel
theorem dL_addFilter_11 : decode cL_addFilter 11 = .ok (.lastore, 1) := by decide +kernel
theorem dL_addFilter_12 : decode cL_addFilter 12 = .ok (.goto 11, 3) := by decide +kernel
theorem dL_addFilter_15 : decode cL_addFilter 15 = .ok (.astore 5, 2) := by decide +kernel
theorem dL_addFilter_17 : decode cL_addFilter 17 = .ok (.iconst 1, 1) := by decide +kernel
theorem dL_addFilter_18 : decode cL_addFilter 18 = .ok (.ireturn, 1) := by decide +kernel
theorem dL_addFilter_19 : decode cL_addFilter 19 = .ok (.astore 5, 2) := by decide +kernel
theorem dL_addFilter_21 : decode cL_addFilter 21 = .ok (.iconst 2, 1) := by decide +kernel
theorem dL_addFilter_22 : decode cL_addFilter 22 = .ok (.ireturn, 1) := by decide +kernel
theorem dL_addFilter_23 : decode cL_addFilter 23 = .ok (.iconst 0, 1) := by decide +kernel
theorem dL_addFilter_24 : decode cL_addFilter 24 = .ok (.ireturn, 1) := by decide +kernel
theorem dL_addBus_0 : decode cL_addBus 0 = .ok (.aload_n 2, 1) := by decide +kernel
theorem dL_addBus_1 : decode cL_addBus 1 = .ok (.iconst 0, 1) := by decide +kernel
theorem dL_addBus_2 : decode cL_addBus 2 = .ok (.aload_n 0, 1) := by decide +kernel
theorem dL_addBus_3 : decode cL_addBus 3 = .ok (.iload_n 1, 1) := by decide +kernel
theorem dL_addBus_4 : decode cL_addBus 4 = .ok (.invokevirtual 25, 3) := by decide +kernel
theorem dL_addBus_7 : decode cL_addBus 7 = .ok (.i2l, 1) := by decide +kernel
theorem dL_addBus_8 : decode cL_addBus 8 = .ok (.lastore, 1) := by decide +kernel
theorem dL_addBus_9 : decode cL_addBus 9 = .ok (.goto 9, 3) := by decide +kernel
theorem dL_addBus_12 : decode cL_addBus 12 = .ok (.astore_n 3, 1) := by decide +kernel
theorem dL_addBus_13 : decode cL_addBus 13 = .ok (.iconst 1, 1) := by decide +kernel
theorem dL_addBus_14 : decode cL_addBus 14 = .ok (.ireturn, 1) := by decide +kernel
theorem dL_addBus_15 : decode cL_addBus 15 = .ok (.astore_n 3, 1) := by decide +kernel
theorem dL_addBus_16 : decode cL_addBus 16 = .ok (.iconst 2, 1) := by decide +kernel
theorem dL_addBus_17 : decode cL_addBus 17 = .ok (.ireturn, 1) := by decide +kernel
theorem dL_addBus_18 : decode cL_addBus 18 = .ok (.iconst 0, 1) := by decide +kernel
theorem dL_addBus_19 : decode cL_addBus 19 = .ok (.ireturn, 1) := by decide +kernel
theorem dL_connect_0 : decode cL_connect 0 = .ok (.aload 4, 2) := by decide +kernel
theorem dL_connect_2 : decode cL_connect 2 = .ok (.iconst 0, 1) := by decide +kernel
theorem dL_connect_3 : decode cL_connect 3 = .ok (.aload_n 0, 1) := by decide +kernel
theorem dL_connect_4 : decode cL_connect 4 = .ok (.iload_n 1, 1) := by decide +kernel
theorem dL_connect_5 : decode cL_connect 5 = .ok (.iload_n 2, 1) := by decide +kernel
theorem dL_connect_6 : decode cL_connect 6 = .ok (.iload_n 3, 1) := by decide +kernel
theorem dL_connect_7 : decode cL_connect 7 = .ok (.invokevirtual 28, 3) := by decide +kernel
theorem dL_connect_10 : decode cL_connect 10 = .ok (.i2l, 1) := by decide +kernel
theorem dL_connect_11 : decode cL_connect 11 = .ok (.lastore, 1) := by decide +kernel
theorem dL_connect_12 : decode cL_connect 12 = .ok (.goto 19, 3) := by decide +kernel
theorem dL_connect_15 : decode cL_connect 15 = .ok (.astore 5, 2) := by decide +kernel
theorem dL_connect_17 : decode cL_connect 17 = .ok (.iconst 1, 1) := by decide +kernel
theorem dL_connect_18 : decode cL_connect 18 = .ok (.ireturn, 1) := by decide +kernel
theorem dL_connect_19 : decode cL_connect 19 = .ok (.astore 5, 2) := by decide +kernel
theorem dL_connect_21 : decode cL_connect 21 = .ok (.iconst 2, 1) := by decide +kernel
theorem dL_connect_22 : decode cL_connect 22 = .ok (.ireturn, 1) := by decide +kernel
theorem dL_connect_23 : decode cL_connect 23 = .ok (.astore 5, 2) := by decide +kernel
theorem dL_connect_25 : decode cL_connect 25 = .ok (.iconst 3, 1) := by decide +kernel
theorem dL_connect_26 : decode cL_connect 26 = .ok (.ireturn, 1) := by decide +kernel
theorem dL_connect_27 : decode cL_connect 27 = .ok (.astore 5, 2) := by decide +kernel
theorem dL_connect_29 : decode cL_connect 29 = .ok (.iconst 4, 1) := by decide +kernel
theorem dL_connect_30 : decode cL_connect 30 = .ok (.ireturn, 1) := by decide +kernel
theorem dL_connect_31 : decode cL_connect 31 = .ok (.iconst 0, 1) := by decide +kernel
theorem dL_connect_32 : decode cL_connect 32 = .ok (.ireturn, 1) := by decide +kernel
theorem dL_disconnect_0 : decode cL_disconnect 0 = .ok (.aload_n 3, 1) := by decide +kernel
theorem dL_disconnect_1 : decode cL_disconnect 1 = .ok (.iconst 0, 1) := by decide +kernel
theorem dL_disconnect_2 : decode cL_disconnect 2 = .ok (.aload_n 0, 1) := by decide +kernel
theorem dL_disconnect_3 : decode cL_disconnect 3 = .ok (.iload_n 1, 1) := by decide +kernel
theorem dL_disconnect_4 : decode cL_disconnect 4 = .ok (.iload_n 2, 1) := by decide +kernel
theorem dL_disconnect_5 : decode cL_disconnect 5 = .ok (.invokevirtual 35, 3) := by decide +kernel
theorem dL_disconnect_8 : decode cL_disconnect 8 = .ok (.i2l, 1) := by decide +kernel
theorem dL_disconnect_9 : decode cL_disconnect 9 = .ok (.lastore, 1) := by decide +kernel
theorem dL_disconnect_10 : decode cL_disconnect 10 = .ok (.goto 11, 3) := by decide +kernel
theorem dL_disconnect_13 : decode cL_disconnect 13 = .ok (.astore 4, 2) := by decide +kernel
theorem dL_disconnect_15 : decode cL_disconnect 15 = .ok (.iconst 1, 1) := by decide +kernel
theorem dL_disconnect_16 : decode cL_disconnect 16 = .ok (.ireturn, 1) := by decide +kernel
theorem dL_disconnect_17 : decode cL_disconnect 17 = .ok (.astore 4, 2) := by decide +kernel
theorem dL_disconnect_19 : decode cL_disconnect 19 = .ok (.iconst 2, 1) := by decide +kernel
theorem dL_disconnect_20 : decode cL_disconnect 20 = .ok (.ireturn, 1) := by decide +kernel
theorem dL_disconnect_21 : decode cL_disconnect 21 = .ok (.iconst 0, 1) := by decide +kernel
theorem dL_disconnect_22 : decode cL_disconnect 22 = .ok (.ireturn, 1) := by decide +kernel
theorem dL_setGain_0 : decode cL_setGain 0 = .ok (.aload_n 3, 1) := by decide +kernel
theorem dL_setGain_1 : decode cL_setGain 1 = .ok (.iconst 0, 1) := by decide +kernel
theorem dL_setGain_2 : decode cL_setGain 2 = .ok (.aload_n 0, 1) := by decide +kernel
theorem dL_setGain_3 : decode cL_setGain 3 = .ok (.iload_n 1, 1) := by decide +kernel
theorem dL_setGain_4 : decode cL_setGain 4 = .ok (.iload_n 2, 1) := by decide +kernel
theorem dL_setGain_5 : decode cL_setGain 5 = .ok (.invokevirtual 40, 3) := by decide +kernel
theorem dL_setGain_8 : decode cL_setGain 8 = .ok (.i2l, 1) := by decide +kernel
theorem dL_setGain_9 : decode cL_setGain 9 = .ok (.lastore, 1) := by decide +kernel
theorem dL_setGain_10 : decode cL_setGain 10 = .ok (.goto 15, 3) := by decide +kernel
theorem dL_setGain_13 : decode cL_setGain 13 = .ok (.astore 4, 2) := by decide +kernel
theorem dL_setGain_15 : decode cL_setGain 15 = .ok (.iconst 1, 1) := by decide +kernel
theorem dL_setGain_16 : decode cL_setGain 16 = .ok (.ireturn, 1) := by decide +kernel
theorem dL_setGain_17 : decode cL_setGain 17 = .ok (.astore 4, 2) := by decide +kernel
theorem dL_setGain_19 : decode cL_setGain 19 = .ok (.iconst 2, 1) := by decide +kernel
theorem dL_setGain_20 : decode cL_setGain 20 = .ok (.ireturn, 1) := by decide +kernel
theorem dL_setGain_21 : decode cL_setGain 21 = .ok (.astore 4, 2) := by decide +kernel
theorem dL_setGain_23 : decode cL_setGain 23 = .ok (.iconst 3, 1) := by decide +kernel
theorem dL_setGain_24 : decode cL_setGain 24 = .ok (.ireturn, 1) := by decide +kernel
theorem dL_setGain_25 : decode cL_setGain 25 = .ok (.iconst 0, 1) := by decide +kernel
theorem dL_setGain_26 : decode cL_setGain 26 = .ok (.ireturn, 1) := by decide +kernel
theorem dL_setOutput_0 : decode cL_setOutput 0 = .ok (.aload_n 2, 1) := by decide +kernel
theorem dL_setOutput_1 : decode cL_setOutput 1 = .ok (.iconst 0, 1) := by decide +kernel
theorem dL_setOutput_2 : decode cL_setOutput 2 = .ok (.aload_n 0, 1) := by decide +kernel
theorem dL_setOutput_3 : decode cL_setOutput 3 = .ok (.iload_n 1, 1) := by decide +kernel
theorem dL_setOutput_4 : decode cL_setOutput 4 = .ok (.invokevirtual 43, 3) := by decide +kernel
theorem dL_setOutput_7 : decode cL_setOutput 7 = .ok (.i2l, 1) := by decide +kernel
theorem dL_setOutput_8 : decode cL_setOutput 8 = .ok (.lastore, 1) := by decide +kernel
theorem dL_setOutput_9 : decode cL_setOutput 9 = .ok (.goto 6, 3) := by decide +kernel
theorem dL_setOutput_12 : decode cL_setOutput 12 = .ok (.astore_n 3, 1) := by decide +kernel
theorem dL_setOutput_13 : decode cL_setOutput 13 = .ok (.iconst 1, 1) := by decide +kernel
theorem dL_setOutput_14 : decode cL_setOutput 14 = .ok (.ireturn, 1) := by decide +kernel
theorem dL_setOutput_15 : decode cL_setOutput 15 = .ok (.iconst 0, 1) := by decide +kernel
theorem dL_setOutput_16 : decode cL_setOutput 16 = .ok (.ireturn, 1) := by decide +kernel
theorem dL_kindOf_0 : decode cL_kindOf 0 = .ok (.aload_n 2, 1) := by decide +kernel
theorem dL_kindOf_1 : decode cL_kindOf 1 = .ok (.iconst 0, 1) := by decide +kernel
theorem dL_kindOf_2 : decode cL_kindOf 2 = .ok (.aload_n 0, 1) := by decide +kernel
theorem dL_kindOf_3 : decode cL_kindOf 3 = .ok (.iload_n 1, 1) := by decide +kernel
theorem dL_kindOf_4 : decode cL_kindOf 4 = .ok (.invokevirtual 46, 3) := by decide +kernel
theorem dL_kindOf_7 : decode cL_kindOf 7 = .ok (.i2l, 1) := by decide +kernel
theorem dL_kindOf_8 : decode cL_kindOf 8 = .ok (.lastore, 1) := by decide +kernel
theorem dL_kindOf_9 : decode cL_kindOf 9 = .ok (.goto 6, 3) := by decide +kernel
theorem dL_kindOf_12 : decode cL_kindOf 12 = .ok (.astore_n 3, 1) := by decide +kernel
theorem dL_kindOf_13 : decode cL_kindOf 13 = .ok (.iconst 1, 1) := by decide +kernel
theorem dL_kindOf_14 : decode cL_kindOf 14 = .ok (.ireturn, 1) := by decide +kernel
theorem dL_kindOf_15 : decode cL_kindOf 15 = .ok (.iconst 0, 1) := by decide +kernel
theorem dL_kindOf_16 : decode cL_kindOf 16 = .ok (.ireturn, 1) := by decide +kernel
theorem dL_wires_0 : decode cL_wires 0 = .ok (.aload_n 2, 1) := by decide +kernel
theorem dL_wires_1 : decode cL_wires 1 = .ok (.iconst 0, 1) := by decide +kernel
theorem dL_wires_2 : decode cL_wires 2 = .ok (.aload_n 0, 1) := by decide +kernel
theorem dL_wires_3 : decode cL_wires 3 = .ok (.iload_n 1, 1) := by decide +kernel
theorem dL_wires_4 : decode cL_wires 4 = .ok (.invokevirtual 50, 3) := by decide +kernel
theorem dL_wires_7 : decode cL_wires 7 = .ok (.i2l, 1) := by decide +kernel
theorem dL_wires_8 : decode cL_wires 8 = .ok (.lastore, 1) := by decide +kernel
theorem dL_wires_9 : decode cL_wires 9 = .ok (.goto 6, 3) := by decide +kernel
theorem dL_wires_12 : decode cL_wires 12 = .ok (.astore_n 3, 1) := by decide +kernel
theorem dL_wires_13 : decode cL_wires 13 = .ok (.iconst 1, 1) := by decide +kernel
theorem dL_wires_14 : decode cL_wires 14 = .ok (.ireturn, 1) := by decide +kernel
theorem dL_wires_15 : decode cL_wires 15 = .ok (.iconst 0, 1) := by decide +kernel
theorem dL_wires_16 : decode cL_wires 16 = .ok (.ireturn, 1) := by decide +kernel
theorem dL_wireFrom_0 : decode cL_wireFrom 0 = .ok (.aload_n 3, 1) := by decide +kernel
theorem dL_wireFrom_1 : decode cL_wireFrom 1 = .ok (.iconst 0, 1) := by decide +kernel
theorem dL_wireFrom_2 : decode cL_wireFrom 2 = .ok (.aload_n 0, 1) := by decide +kernel
theorem dL_wireFrom_3 : decode cL_wireFrom 3 = .ok (.iload_n 1, 1) := by decide +kernel
theorem dL_wireFrom_4 : decode cL_wireFrom 4 = .ok (.iload_n 2, 1) := by decide +kernel
theorem dL_wireFrom_5 : decode cL_wireFrom 5 = .ok (.invokevirtual 53, 3) := by decide +kernel
theorem dL_wireFrom_8 : decode cL_wireFrom 8 = .ok (.i2l, 1) := by decide +kernel
theorem dL_wireFrom_9 : decode cL_wireFrom 9 = .ok (.lastore, 1) := by decide +kernel
theorem dL_wireFrom_10 : decode cL_wireFrom 10 = .ok (.goto 11, 3) := by decide +kernel
theorem dL_wireFrom_13 : decode cL_wireFrom 13 = .ok (.astore 4, 2) := by decide +kernel
theorem dL_wireFrom_15 : decode cL_wireFrom 15 = .ok (.iconst 1, 1) := by decide +kernel
theorem dL_wireFrom_16 : decode cL_wireFrom 16 = .ok (.ireturn, 1) := by decide +kernel
theorem dL_wireFrom_17 : decode cL_wireFrom 17 = .ok (.astore 4, 2) := by decide +kernel
theorem dL_wireFrom_19 : decode cL_wireFrom 19 = .ok (.iconst 2, 1) := by decide +kernel
theorem dL_wireFrom_20 : decode cL_wireFrom 20 = .ok (.ireturn, 1) := by decide +kernel
theorem dL_wireFrom_21 : decode cL_wireFrom 21 = .ok (.iconst 0, 1) := by decide +kernel
theorem dL_wireFrom_22 : decode cL_wireFrom 22 = .ok (.ireturn, 1) := by decide +kernel
theorem dL_wirePercent_0 : decode cL_wirePercent 0 = .ok (.aload_n 3, 1) := by decide +kernel
theorem dL_wirePercent_1 : decode cL_wirePercent 1 = .ok (.iconst 0, 1) := by decide +kernel
theorem dL_wirePercent_2 : decode cL_wirePercent 2 = .ok (.aload_n 0, 1) := by decide +kernel
theorem dL_wirePercent_3 : decode cL_wirePercent 3 = .ok (.iload_n 1, 1) := by decide +kernel
theorem dL_wirePercent_4 : decode cL_wirePercent 4 = .ok (.iload_n 2, 1) := by decide +kernel
theorem dL_wirePercent_5 : decode cL_wirePercent 5 = .ok (.invokevirtual 56, 3) := by decide +kernel
theorem dL_wirePercent_8 : decode cL_wirePercent 8 = .ok (.i2l, 1) := by decide +kernel
theorem dL_wirePercent_9 : decode cL_wirePercent 9 = .ok (.lastore, 1) := by decide +kernel
theorem dL_wirePercent_10 : decode cL_wirePercent 10 = .ok (.goto 11, 3) := by decide +kernel
theorem dL_wirePercent_13 : decode cL_wirePercent 13 = .ok (.astore 4, 2) := by decide +kernel
theorem dL_wirePercent_15 : decode cL_wirePercent 15 = .ok (.iconst 1, 1) := by decide +kernel
theorem dL_wirePercent_16 : decode cL_wirePercent 16 = .ok (.ireturn, 1) := by decide +kernel
theorem dL_wirePercent_17 : decode cL_wirePercent 17 = .ok (.astore 4, 2) := by decide +kernel
theorem dL_wirePercent_19 : decode cL_wirePercent 19 = .ok (.iconst 2, 1) := by decide +kernel
theorem dL_wirePercent_20 : decode cL_wirePercent 20 = .ok (.ireturn, 1) := by decide +kernel
theorem dL_wirePercent_21 : decode cL_wirePercent 21 = .ok (.iconst 0, 1) := by decide +kernel
theorem dL_wirePercent_22 : decode cL_wirePercent 22 = .ok (.ireturn, 1) := by decide +kernel
theorem dL_nodeAt_0 : decode cL_nodeAt 0 = .ok (.aload_n 2, 1) := by decide +kernel
theorem dL_nodeAt_1 : decode cL_nodeAt 1 = .ok (.iconst 0, 1) := by decide +kernel
theorem dL_nodeAt_2 : decode cL_nodeAt 2 = .ok (.aload_n 0, 1) := by decide +kernel
theorem dL_nodeAt_3 : decode cL_nodeAt 3 = .ok (.iload_n 1, 1) := by decide +kernel
theorem dL_nodeAt_4 : decode cL_nodeAt 4 = .ok (.invokevirtual 59, 3) := by decide +kernel
theorem dL_nodeAt_7 : decode cL_nodeAt 7 = .ok (.i2l, 1) := by decide +kernel
theorem dL_nodeAt_8 : decode cL_nodeAt 8 = .ok (.lastore, 1) := by decide +kernel
theorem dL_nodeAt_9 : decode cL_nodeAt 9 = .ok (.goto 6, 3) := by decide +kernel
theorem dL_nodeAt_12 : decode cL_nodeAt 12 = .ok (.astore_n 3, 1) := by decide +kernel
theorem dL_nodeAt_13 : decode cL_nodeAt 13 = .ok (.iconst 1, 1) := by decide +kernel
theorem dL_nodeAt_14 : decode cL_nodeAt 14 = .ok (.ireturn, 1) := by decide +kernel
theorem dL_nodeAt_15 : decode cL_nodeAt 15 = .ok (.iconst 0, 1) := by decide +kernel
theorem dL_nodeAt_16 : decode cL_nodeAt 16 = .ok (.ireturn, 1) := by decide +kernel
theorem dL_setWave_0 : decode cL_setWave 0 = .ok (.aload_n 2, 1) := by decide +kernel
theorem dL_setWave_1 : decode cL_setWave 1 = .ok (.iconst 0, 1) := by decide +kernel
theorem dL_setWave_2 : decode cL_setWave 2 = .ok (.aload_n 0, 1) := by decide +kernel
theorem dL_setWave_3 : decode cL_setWave 3 = .ok (.iload_n 1, 1) := by decide +kernel
theorem dL_setWave_4 : decode cL_setWave 4 = .ok (.invokevirtual 62, 3) := by decide +kernel
theorem dL_setWave_7 : decode cL_setWave 7 = .ok (.i2l, 1) := by decide +kernel
theorem dL_setWave_8 : decode cL_setWave 8 = .ok (.lastore, 1) := by decide +kernel
theorem dL_setWave_9 : decode cL_setWave 9 = .ok (.goto 6, 3) := by decide +kernel
theorem dL_setWave_12 : decode cL_setWave 12 = .ok (.astore_n 3, 1) := by decide +kernel
theorem dL_setWave_13 : decode cL_setWave 13 = .ok (.iconst 1, 1) := by decide +kernel
theorem dL_setWave_14 : decode cL_setWave 14 = .ok (.ireturn, 1) := by decide +kernel
theorem dL_setWave_15 : decode cL_setWave 15 = .ok (.iconst 0, 1) := by decide +kernel
theorem dL_setWave_16 : decode cL_setWave 16 = .ok (.ireturn, 1) := by decide +kernel
theorem dL_setEnvelope_0 : decode cL_setEnvelope 0 = .ok (.aload 5, 2) := by decide +kernel
theorem dL_setEnvelope_2 : decode cL_setEnvelope 2 = .ok (.iconst 0, 1) := by decide +kernel
theorem dL_setEnvelope_3 : decode cL_setEnvelope 3 = .ok (.aload_n 0, 1) := by decide +kernel
theorem dL_setEnvelope_4 : decode cL_setEnvelope 4 = .ok (.iload_n 1, 1) := by decide +kernel
theorem dL_setEnvelope_5 : decode cL_setEnvelope 5 = .ok (.iload_n 2, 1) := by decide +kernel
theorem dL_setEnvelope_6 : decode cL_setEnvelope 6 = .ok (.iload_n 3, 1) := by decide +kernel
theorem dL_setEnvelope_7 : decode cL_setEnvelope 7 = .ok (.iload 4, 2) := by decide +kernel
theorem dL_setEnvelope_9 : decode cL_setEnvelope 9 = .ok (.invokevirtual 66, 3) := by decide +kernel
theorem dL_setEnvelope_12 : decode cL_setEnvelope 12 = .ok (.i2l, 1) := by decide +kernel
theorem dL_setEnvelope_13 : decode cL_setEnvelope 13 = .ok (.lastore, 1) := by decide +kernel
theorem dL_setEnvelope_14 : decode cL_setEnvelope 14 = .ok (.goto 7, 3) := by decide +kernel
theorem dL_setEnvelope_17 : decode cL_setEnvelope 17 = .ok (.astore 6, 2) := by decide +kernel
theorem dL_setEnvelope_19 : decode cL_setEnvelope 19 = .ok (.iconst 1, 1) := by decide +kernel
theorem dL_setEnvelope_20 : decode cL_setEnvelope 20 = .ok (.ireturn, 1) := by decide +kernel
theorem dL_setEnvelope_21 : decode cL_setEnvelope 21 = .ok (.iconst 0, 1) := by decide +kernel
theorem dL_setEnvelope_22 : decode cL_setEnvelope 22 = .ok (.ireturn, 1) := by decide +kernel
theorem dL_begin_0 : decode cL_begin 0 = .ok (.aload_n 3, 1) := by decide +kernel
theorem dL_begin_1 : decode cL_begin 1 = .ok (.iconst 0, 1) := by decide +kernel
theorem dL_begin_2 : decode cL_begin 2 = .ok (.aload_n 0, 1) := by decide +kernel
theorem dL_begin_3 : decode cL_begin 3 = .ok (.iload_n 1, 1) := by decide +kernel
theorem dL_begin_4 : decode cL_begin 4 = .ok (.iload_n 2, 1) := by decide +kernel
theorem dL_begin_5 : decode cL_begin 5 = .ok (.invokevirtual 70, 3) := by decide +kernel
theorem dL_begin_8 : decode cL_begin 8 = .ok (.i2l, 1) := by decide +kernel
theorem dL_begin_9 : decode cL_begin 9 = .ok (.lastore, 1) := by decide +kernel
theorem dL_begin_10 : decode cL_begin 10 = .ok (.goto 7, 3) := by decide +kernel
theorem dL_begin_13 : decode cL_begin 13 = .ok (.astore 4, 2) := by decide +kernel
theorem dL_begin_15 : decode cL_begin 15 = .ok (.iconst 1, 1) := by decide +kernel
theorem dL_begin_16 : decode cL_begin 16 = .ok (.ireturn, 1) := by decide +kernel
theorem dL_begin_17 : decode cL_begin 17 = .ok (.iconst 0, 1) := by decide +kernel
theorem dL_begin_18 : decode cL_begin 18 = .ok (.ireturn, 1) := by decide +kernel
theorem dL_end_0 : decode cL_end 0 = .ok (.aload_n 2, 1) := by decide +kernel
theorem dL_end_1 : decode cL_end 1 = .ok (.iconst 0, 1) := by decide +kernel
theorem dL_end_2 : decode cL_end 2 = .ok (.aload_n 0, 1) := by decide +kernel
theorem dL_end_3 : decode cL_end 3 = .ok (.iload_n 1, 1) := by decide +kernel
theorem dL_end_4 : decode cL_end 4 = .ok (.invokevirtual 73, 3) := by decide +kernel
theorem dL_end_7 : decode cL_end 7 = .ok (.i2l, 1) := by decide +kernel
theorem dL_end_8 : decode cL_end 8 = .ok (.lastore, 1) := by decide +kernel
theorem dL_end_9 : decode cL_end 9 = .ok (.goto 9, 3) := by decide +kernel
theorem dL_end_12 : decode cL_end 12 = .ok (.astore_n 3, 1) := by decide +kernel
theorem dL_end_13 : decode cL_end 13 = .ok (.iconst 1, 1) := by decide +kernel
theorem dL_end_14 : decode cL_end 14 = .ok (.ireturn, 1) := by decide +kernel
theorem dL_end_15 : decode cL_end 15 = .ok (.astore_n 3, 1) := by decide +kernel
theorem dL_end_16 : decode cL_end 16 = .ok (.iconst 2, 1) := by decide +kernel
theorem dL_end_17 : decode cL_end 17 = .ok (.ireturn, 1) := by decide +kernel
theorem dL_end_18 : decode cL_end 18 = .ok (.iconst 0, 1) := by decide +kernel
theorem dL_end_19 : decode cL_end 19 = .ok (.ireturn, 1) := by decide +kernel
theorem dL_stateOf_0 : decode cL_stateOf 0 = .ok (.aload_n 2, 1) := by decide +kernel
theorem dL_stateOf_1 : decode cL_stateOf 1 = .ok (.iconst 0, 1) := by decide +kernel
theorem dL_stateOf_2 : decode cL_stateOf 2 = .ok (.aload_n 0, 1) := by decide +kernel
theorem dL_stateOf_3 : decode cL_stateOf 3 = .ok (.iload_n 1, 1) := by decide +kernel
theorem dL_stateOf_4 : decode cL_stateOf 4 = .ok (.invokevirtual 76, 3) := by decide +kernel
theorem dL_stateOf_7 : decode cL_stateOf 7 = .ok (.i2l, 1) := by decide +kernel
theorem dL_stateOf_8 : decode cL_stateOf 8 = .ok (.lastore, 1) := by decide +kernel
theorem dL_stateOf_9 : decode cL_stateOf 9 = .ok (.goto 6, 3) := by decide +kernel
theorem dL_stateOf_12 : decode cL_stateOf 12 = .ok (.astore_n 3, 1) := by decide +kernel
theorem dL_stateOf_13 : decode cL_stateOf 13 = .ok (.iconst 1, 1) := by decide +kernel
theorem dL_stateOf_14 : decode cL_stateOf 14 = .ok (.ireturn, 1) := by decide +kernel
theorem dL_stateOf_15 : decode cL_stateOf 15 = .ok (.iconst 0, 1) := by decide +kernel
theorem dL_stateOf_16 : decode cL_stateOf 16 = .ok (.ireturn, 1) := by decide +kernel
theorem dL_keyOf_0 : decode cL_keyOf 0 = .ok (.aload_n 2, 1) := by decide +kernel
theorem dL_keyOf_1 : decode cL_keyOf 1 = .ok (.iconst 0, 1) := by decide +kernel
theorem dL_keyOf_2 : decode cL_keyOf 2 = .ok (.aload_n 0, 1) := by decide +kernel
theorem dL_keyOf_3 : decode cL_keyOf 3 = .ok (.iload_n 1, 1) := by decide +kernel
theorem dL_keyOf_4 : decode cL_keyOf 4 = .ok (.invokevirtual 79, 3) := by decide +kernel
theorem dL_keyOf_7 : decode cL_keyOf 7 = .ok (.i2l, 1) := by decide +kernel
theorem dL_keyOf_8 : decode cL_keyOf 8 = .ok (.lastore, 1) := by decide +kernel
theorem dL_keyOf_9 : decode cL_keyOf 9 = .ok (.goto 9, 3) := by decide +kernel
theorem dL_keyOf_12 : decode cL_keyOf 12 = .ok (.astore_n 3, 1) := by decide +kernel
theorem dL_keyOf_13 : decode cL_keyOf 13 = .ok (.iconst 1, 1) := by decide +kernel
theorem dL_keyOf_14 : decode cL_keyOf 14 = .ok (.ireturn, 1) := by decide +kernel
theorem dL_keyOf_15 : decode cL_keyOf 15 = .ok (.astore_n 3, 1) := by decide +kernel
theorem dL_keyOf_16 : decode cL_keyOf 16 = .ok (.iconst 2, 1) := by decide +kernel
theorem dL_keyOf_17 : decode cL_keyOf 17 = .ok (.ireturn, 1) := by decide +kernel
theorem dL_keyOf_18 : decode cL_keyOf 18 = .ok (.iconst 0, 1) := by decide +kernel
theorem dL_keyOf_19 : decode cL_keyOf 19 = .ok (.ireturn, 1) := by decide +kernel
theorem dL_levelOf_0 : decode cL_levelOf 0 = .ok (.aload_n 2, 1) := by decide +kernel
theorem dL_levelOf_1 : decode cL_levelOf 1 = .ok (.iconst 0, 1) := by decide +kernel
theorem dL_levelOf_2 : decode cL_levelOf 2 = .ok (.aload_n 0, 1) := by decide +kernel
theorem dL_levelOf_3 : decode cL_levelOf 3 = .ok (.iload_n 1, 1) := by decide +kernel
theorem dL_levelOf_4 : decode cL_levelOf 4 = .ok (.invokevirtual 82, 3) := by decide +kernel
theorem dL_levelOf_7 : decode cL_levelOf 7 = .ok (.i2l, 1) := by decide +kernel
theorem dL_levelOf_8 : decode cL_levelOf 8 = .ok (.lastore, 1) := by decide +kernel
theorem dL_levelOf_9 : decode cL_levelOf 9 = .ok (.goto 6, 3) := by decide +kernel
theorem dL_levelOf_12 : decode cL_levelOf 12 = .ok (.astore_n 3, 1) := by decide +kernel
theorem dL_levelOf_13 : decode cL_levelOf 13 = .ok (.iconst 1, 1) := by decide +kernel
theorem dL_levelOf_14 : decode cL_levelOf 14 = .ok (.ireturn, 1) := by decide +kernel
theorem dL_levelOf_15 : decode cL_levelOf 15 = .ok (.iconst 0, 1) := by decide +kernel
theorem dL_levelOf_16 : decode cL_levelOf 16 = .ok (.ireturn, 1) := by decide +kernel
theorem dL_phaseOf_0 : decode cL_phaseOf 0 = .ok (.aload_n 2, 1) := by decide +kernel
theorem dL_phaseOf_1 : decode cL_phaseOf 1 = .ok (.iconst 0, 1) := by decide +kernel
theorem dL_phaseOf_2 : decode cL_phaseOf 2 = .ok (.aload_n 0, 1) := by decide +kernel
theorem dL_phaseOf_3 : decode cL_phaseOf 3 = .ok (.iload_n 1, 1) := by decide +kernel
theorem dL_phaseOf_4 : decode cL_phaseOf 4 = .ok (.invokevirtual 85, 3) := by decide +kernel
theorem dL_phaseOf_7 : decode cL_phaseOf 7 = .ok (.i2l, 1) := by decide +kernel
theorem dL_phaseOf_8 : decode cL_phaseOf 8 = .ok (.lastore, 1) := by decide +kernel
theorem dL_phaseOf_9 : decode cL_phaseOf 9 = .ok (.goto 9, 3) := by decide +kernel
theorem dL_phaseOf_12 : decode cL_phaseOf 12 = .ok (.astore_n 3, 1) := by decide +kernel
theorem dL_phaseOf_13 : decode cL_phaseOf 13 = .ok (.iconst 1, 1) := by decide +kernel
theorem dL_phaseOf_14 : decode cL_phaseOf 14 = .ok (.ireturn, 1) := by decide +kernel
theorem dL_phaseOf_15 : decode cL_phaseOf 15 = .ok (.astore_n 3, 1) := by decide +kernel
theorem dL_phaseOf_16 : decode cL_phaseOf 16 = .ok (.iconst 2, 1) := by decide +kernel
theorem dL_phaseOf_17 : decode cL_phaseOf 17 = .ok (.ireturn, 1) := by decide +kernel
theorem dL_phaseOf_18 : decode cL_phaseOf 18 = .ok (.iconst 0, 1) := by decide +kernel
theorem dL_phaseOf_19 : decode cL_phaseOf 19 = .ok (.ireturn, 1) := by decide +kernel
theorem dL_play_0 : decode cL_play 0 = .ok (.aload_n 2, 1) := by decide +kernel
theorem dL_play_1 : decode cL_play 1 = .ok (.iconst 0, 1) := by decide +kernel
theorem dL_play_2 : decode cL_play 2 = .ok (.aload_n 0, 1) := by decide +kernel
theorem dL_play_3 : decode cL_play 3 = .ok (.iload_n 1, 1) := by decide +kernel
theorem dL_play_4 : decode cL_play 4 = .ok (.invokevirtual 88, 3) := by decide +kernel
theorem dL_play_7 : decode cL_play 7 = .ok (.i2l, 1) := by decide +kernel
theorem dL_play_8 : decode cL_play 8 = .ok (.lastore, 1) := by decide +kernel
theorem dL_play_9 : decode cL_play 9 = .ok (.goto 6, 3) := by decide +kernel
theorem dL_play_12 : decode cL_play 12 = .ok (.astore_n 3, 1) := by decide +kernel
theorem dL_play_13 : decode cL_play 13 = .ok (.iconst 1, 1) := by decide +kernel
theorem dL_play_14 : decode cL_play 14 = .ok (.ireturn, 1) := by decide +kernel
theorem dL_play_15 : decode cL_play 15 = .ok (.iconst 0, 1) := by decide +kernel
theorem dL_play_16 : decode cL_play 16 = .ok (.ireturn, 1) := by decide +kernel
theorem dL_ahead_0 : decode cL_ahead 0 = .ok (.aload_n 2, 1) := by decide +kernel
theorem dL_ahead_1 : decode cL_ahead 1 = .ok (.iconst 0, 1) := by decide +kernel
theorem dL_ahead_2 : decode cL_ahead 2 = .ok (.aload_n 0, 1) := by decide +kernel
theorem dL_ahead_3 : decode cL_ahead 3 = .ok (.iload_n 1, 1) := by decide +kernel
theorem dL_ahead_4 : decode cL_ahead 4 = .ok (.invokevirtual 91, 3) := by decide +kernel
theorem dL_ahead_7 : decode cL_ahead 7 = .ok (.i2l, 1) := by decide +kernel
theorem dL_ahead_8 : decode cL_ahead 8 = .ok (.lastore, 1) := by decide +kernel
theorem dL_ahead_9 : decode cL_ahead 9 = .ok (.goto 6, 3) := by decide +kernel
theorem dL_ahead_12 : decode cL_ahead 12 = .ok (.astore_n 3, 1) := by decide +kernel
theorem dL_ahead_13 : decode cL_ahead 13 = .ok (.iconst 1, 1) := by decide +kernel
theorem dL_ahead_14 : decode cL_ahead 14 = .ok (.ireturn, 1) := by decide +kernel
theorem dL_ahead_15 : decode cL_ahead 15 = .ok (.iconst 0, 1) := by decide +kernel
theorem dL_ahead_16 : decode cL_ahead 16 = .ok (.ireturn, 1) := by decide +kernel
theorem dL_aheadByBlocks_0 : decode cL_aheadByBlocks 0 = .ok (.aload_n 3, 1) := by decide +kernel
theorem dL_aheadByBlocks_1 : decode cL_aheadByBlocks 1 = .ok (.iconst 0, 1) := by decide +kernel
theorem dL_aheadByBlocks_2 : decode cL_aheadByBlocks 2 = .ok (.aload_n 0, 1) := by decide +kernel
theorem dL_aheadByBlocks_3 : decode cL_aheadByBlocks 3 = .ok (.iload_n 1, 1) := by decide +kernel
theorem dL_aheadByBlocks_4 : decode cL_aheadByBlocks 4 = .ok (.iload_n 2, 1) := by decide +kernel
theorem dL_aheadByBlocks_5 : decode cL_aheadByBlocks 5 = .ok (.invokevirtual 94, 3) := by decide +kernel
theorem dL_aheadByBlocks_8 : decode cL_aheadByBlocks 8 = .ok (.i2l, 1) := by decide +kernel
theorem dL_aheadByBlocks_9 : decode cL_aheadByBlocks 9 = .ok (.lastore, 1) := by decide +kernel
theorem dL_aheadByBlocks_10 : decode cL_aheadByBlocks 10 = .ok (.goto 7, 3) := by decide +kernel
theorem dL_aheadByBlocks_13 : decode cL_aheadByBlocks 13 = .ok (.astore 4, 2) := by decide +kernel
theorem dL_aheadByBlocks_15 : decode cL_aheadByBlocks 15 = .ok (.iconst 1, 1) := by decide +kernel
theorem dL_aheadByBlocks_16 : decode cL_aheadByBlocks 16 = .ok (.ireturn, 1) := by decide +kernel
theorem dL_aheadByBlocks_17 : decode cL_aheadByBlocks 17 = .ok (.iconst 0, 1) := by decide +kernel
theorem dL_aheadByBlocks_18 : decode cL_aheadByBlocks 18 = .ok (.ireturn, 1) := by decide +kernel
theorem dL_heard_0 : decode cL_heard 0 = .ok (.aload_n 2, 1) := by decide +kernel
theorem dL_heard_1 : decode cL_heard 1 = .ok (.iconst 0, 1) := by decide +kernel
theorem dL_heard_2 : decode cL_heard 2 = .ok (.aload_n 0, 1) := by decide +kernel
theorem dL_heard_3 : decode cL_heard 3 = .ok (.iload_n 1, 1) := by decide +kernel
theorem dL_heard_4 : decode cL_heard 4 = .ok (.invokevirtual 97, 3) := by decide +kernel
theorem dL_heard_7 : decode cL_heard 7 = .ok (.i2l, 1) := by decide +kernel
theorem dL_heard_8 : decode cL_heard 8 = .ok (.lastore, 1) := by decide +kernel
theorem dL_heard_9 : decode cL_heard 9 = .ok (.goto 9, 3) := by decide +kernel
theorem dL_heard_12 : decode cL_heard 12 = .ok (.astore_n 3, 1) := by decide +kernel
theorem dL_heard_13 : decode cL_heard 13 = .ok (.iconst 1, 1) := by decide +kernel
theorem dL_heard_14 : decode cL_heard 14 = .ok (.ireturn, 1) := by decide +kernel
theorem dL_heard_15 : decode cL_heard 15 = .ok (.astore_n 3, 1) := by decide +kernel
theorem dL_heard_16 : decode cL_heard 16 = .ok (.iconst 2, 1) := by decide +kernel
theorem dL_heard_17 : decode cL_heard 17 = .ok (.ireturn, 1) := by decide +kernel
theorem dL_heard_18 : decode cL_heard 18 = .ok (.iconst 0, 1) := by decide +kernel
theorem dL_heard_19 : decode cL_heard 19 = .ok (.ireturn, 1) := by decide +kernel
theorem dL_outputOf_0 : decode cL_outputOf 0 = .ok (.aload_n 2, 1) := by decide +kernel
theorem dL_outputOf_1 : decode cL_outputOf 1 = .ok (.iconst 0, 1) := by decide +kernel
theorem dL_outputOf_2 : decode cL_outputOf 2 = .ok (.aload_n 0, 1) := by decide +kernel
theorem dL_outputOf_3 : decode cL_outputOf 3 = .ok (.iload_n 1, 1) := by decide +kernel
theorem dL_outputOf_4 : decode cL_outputOf 4 = .ok (.invokevirtual 100, 3) := by decide +kernel
theorem dL_outputOf_7 : decode cL_outputOf 7 = .ok (.i2l, 1) := by decide +kernel
theorem dL_outputOf_8 : decode cL_outputOf 8 = .ok (.lastore, 1) := by decide +kernel
theorem dL_outputOf_9 : decode cL_outputOf 9 = .ok (.goto 6, 3) := by decide +kernel
theorem dL_outputOf_12 : decode cL_outputOf 12 = .ok (.astore_n 3, 1) := by decide +kernel
theorem dL_outputOf_13 : decode cL_outputOf 13 = .ok (.iconst 1, 1) := by decide +kernel
theorem dL_outputOf_14 : decode cL_outputOf 14 = .ok (.ireturn, 1) := by decide +kernel
theorem dL_outputOf_15 : decode cL_outputOf 15 = .ok (.iconst 0, 1) := by decide +kernel
theorem dL_outputOf_16 : decode cL_outputOf 16 = .ok (.ireturn, 1) := by decide +kernel
theorem dL_meanEnergy_0 : decode cL_meanEnergy 0 = .ok (.aload_n 1, 1) := by decide +kernel
theorem dL_meanEnergy_1 : decode cL_meanEnergy 1 = .ok (.iconst 0, 1) := by decide +kernel
theorem dL_meanEnergy_2 : decode cL_meanEnergy 2 = .ok (.aload_n 0, 1) := by decide +kernel
theorem dL_meanEnergy_3 : decode cL_meanEnergy 3 = .ok (.invokevirtual 103, 3) := by decide +kernel
theorem dL_meanEnergy_6 : decode cL_meanEnergy 6 = .ok (.dastore, 1) := by decide +kernel
theorem dL_meanEnergy_7 : decode cL_meanEnergy 7 = .ok (.goto 6, 3) := by decide +kernel
theorem dL_meanEnergy_10 : decode cL_meanEnergy 10 = .ok (.astore_n 2, 1) := by decide +kernel
theorem dL_meanEnergy_11 : decode cL_meanEnergy 11 = .ok (.iconst 1, 1) := by decide +kernel
theorem dL_meanEnergy_12 : decode cL_meanEnergy 12 = .ok (.ireturn, 1) := by decide +kernel
theorem dL_meanEnergy_13 : decode cL_meanEnergy 13 = .ok (.iconst 0, 1) := by decide +kernel
theorem dL_meanEnergy_14 : decode cL_meanEnergy 14 = .ok (.ireturn, 1) := by decide +kernel
theorem dL_quietShare_0 : decode cL_quietShare 0 = .ok (.aload_n 1, 1) := by decide +kernel
theorem dL_quietShare_1 : decode cL_quietShare 1 = .ok (.iconst 0, 1) := by decide +kernel
theorem dL_quietShare_2 : decode cL_quietShare 2 = .ok (.aload_n 0, 1) := by decide +kernel
