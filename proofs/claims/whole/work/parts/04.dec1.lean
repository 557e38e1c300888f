theorem dX5_release_35 : decode cX5_release 35 = .ok (.goto 4, 3) := by decide +kernel
theorem dX5_release_38 : decode cX5_release 38 = .ok (.iconst 0, 1) := by decide +kernel
theorem dX5_release_39 : decode cX5_release 39 = .ok (.putfield 24, 3) := by decide +kernel
theorem dX5_release_42 : decode cX5_release 42 = .ok (.return_, 1) := by decide +kernel
theorem dX5_addSamples_0 : decode cX5_addSamples 0 = .ok (.iconst 0, 1) := by decide +kernel
theorem dX5_addSamples_1 : decode cX5_addSamples 1 = .ok (.istore_n 3, 1) := by decide +kernel
theorem dX5_addSamples_2 : decode cX5_addSamples 2 = .ok (.iload_n 3, 1) := by decide +kernel
theorem dX5_addSamples_3 : decode cX5_addSamples 3 = .ok (.iload_n 2, 1) := by decide +kernel
theorem dX5_addSamples_4 : decode cX5_addSamples 4 = .ok (.if_icmp .ge 50, 3) := by decide +kernel
theorem dX5_addSamples_7 : decode cX5_addSamples 7 = .ok (.aload_n 0, 1) := by decide +kernel
theorem dX5_addSamples_8 : decode cX5_addSamples 8 = .ok (.getfield 24, 3) := by decide +kernel
theorem dX5_addSamples_11 : decode cX5_addSamples 11 = .ok (.ifCond .eq 43, 3) := by decide +kernel
theorem dX5_addSamples_14 : decode cX5_addSamples 14 = .ok (.aload_n 0, 1) := by decide +kernel
theorem dX5_addSamples_15 : decode cX5_addSamples 15 = .ok (.invokevirtual 70, 3) := by decide +kernel
theorem dX5_addSamples_18 : decode cX5_addSamples 18 = .ok (.aload_n 0, 1) := by decide +kernel
theorem dX5_addSamples_19 : decode cX5_addSamples 19 = .ok (.invokevirtual 54, 3) := by decide +kernel
theorem dX5_addSamples_22 : decode cX5_addSamples 22 = .ok (.imul, 1) := by decide +kernel
theorem dX5_addSamples_23 : decode cX5_addSamples 23 = .ok (.sipush 1000, 3) := by decide +kernel
theorem dX5_addSamples_26 : decode cX5_addSamples 26 = .ok (.idiv, 1) := by decide +kernel
theorem dX5_addSamples_27 : decode cX5_addSamples 27 = .ok (.istore 4, 2) := by decide +kernel
theorem dX5_addSamples_29 : decode cX5_addSamples 29 = .ok (.aload_n 1, 1) := by decide +kernel
theorem dX5_addSamples_30 : decode cX5_addSamples 30 = .ok (.iload_n 3, 1) := by decide +kernel
theorem dX5_addSamples_31 : decode cX5_addSamples 31 = .ok (.dup2, 1) := by decide +kernel
theorem dX5_addSamples_32 : decode cX5_addSamples 32 = .ok (.iaload, 1) := by decide +kernel
theorem dX5_addSamples_33 : decode cX5_addSamples 33 = .ok (.iload 4, 2) := by decide +kernel
theorem dX5_addSamples_35 : decode cX5_addSamples 35 = .ok (.aload_n 0, 1) := by decide +kernel
theorem dX5_addSamples_36 : decode cX5_addSamples 36 = .ok (.getfield 35, 3) := by decide +kernel
theorem dX5_addSamples_39 : decode cX5_addSamples 39 = .ok (.invokestatic 73, 3) := by decide +kernel
theorem dX5_addSamples_42 : decode cX5_addSamples 42 = .ok (.iadd, 1) := by decide +kernel
theorem dX5_addSamples_43 : decode cX5_addSamples 43 = .ok (.iastore, 1) := by decide +kernel
theorem dX5_addSamples_44 : decode cX5_addSamples 44 = .ok (.aload_n 0, 1) := by decide +kernel
theorem dX5_addSamples_45 : decode cX5_addSamples 45 = .ok (.invokevirtual 77, 3) := by decide +kernel
theorem dX5_addSamples_48 : decode cX5_addSamples 48 = .ok (.iinc 3 1, 3) := by decide +kernel
theorem dX5_addSamples_51 : decode cX5_addSamples 51 = .ok (.goto (-49), 3) := by decide +kernel
theorem dX5_addSamples_54 : decode cX5_addSamples 54 = .ok (.return_, 1) := by decide +kernel
theorem dX5_moveOn_0 : decode cX5_moveOn 0 = .ok (.aload_n 0, 1) := by decide +kernel
theorem dX5_moveOn_1 : decode cX5_moveOn 1 = .ok (.aload_n 0, 1) := by decide +kernel
theorem dX5_moveOn_2 : decode cX5_moveOn 2 = .ok (.getfield 45, 3) := by decide +kernel
theorem dX5_moveOn_5 : decode cX5_moveOn 5 = .ok (.aload_n 0, 1) := by decide +kernel
theorem dX5_moveOn_6 : decode cX5_moveOn 6 = .ok (.getfield 42, 3) := by decide +kernel
theorem dX5_moveOn_9 : decode cX5_moveOn 9 = .ok (.iadd, 1) := by decide +kernel
theorem dX5_moveOn_10 : decode cX5_moveOn 10 = .ok (.ldc 80, 2) := by decide +kernel
theorem dX5_moveOn_12 : decode cX5_moveOn 12 = .ok (.iand, 1) := by decide +kernel
theorem dX5_moveOn_13 : decode cX5_moveOn 13 = .ok (.putfield 45, 3) := by decide +kernel
theorem dX5_moveOn_16 : decode cX5_moveOn 16 = .ok (.aload_n 0, 1) := by decide +kernel
theorem dX5_moveOn_17 : decode cX5_moveOn 17 = .ok (.getfield 28, 3) := by decide +kernel
theorem dX5_moveOn_20 : decode cX5_moveOn 20 = .ok (.ifCond .eq 39, 3) := by decide +kernel
theorem dX5_moveOn_23 : decode cX5_moveOn 23 = .ok (.aload_n 0, 1) := by decide +kernel
theorem dX5_moveOn_24 : decode cX5_moveOn 24 = .ok (.dup, 1) := by decide +kernel
theorem dX5_moveOn_25 : decode cX5_moveOn 25 = .ok (.getfield 61, 3) := by decide +kernel
theorem dX5_moveOn_28 : decode cX5_moveOn 28 = .ok (.iconst 1, 1) := by decide +kernel
theorem dX5_moveOn_29 : decode cX5_moveOn 29 = .ok (.iadd, 1) := by decide +kernel
theorem dX5_moveOn_30 : decode cX5_moveOn 30 = .ok (.putfield 61, 3) := by decide +kernel
theorem dX5_moveOn_33 : decode cX5_moveOn 33 = .ok (.aload_n 0, 1) := by decide +kernel
theorem dX5_moveOn_34 : decode cX5_moveOn 34 = .ok (.aload_n 0, 1) := by decide +kernel
theorem dX5_moveOn_35 : decode cX5_moveOn 35 = .ok (.getfield 61, 3) := by decide +kernel
theorem dX5_moveOn_38 : decode cX5_moveOn 38 = .ok (.aload_n 0, 1) := by decide +kernel
theorem dX5_moveOn_39 : decode cX5_moveOn 39 = .ok (.getfield 20, 3) := by decide +kernel
theorem dX5_moveOn_42 : decode cX5_moveOn 42 = .ok (.getfield 67, 3) := by decide +kernel
theorem dX5_moveOn_45 : decode cX5_moveOn 45 = .ok (.if_icmp .ge 7, 3) := by decide +kernel
theorem dX5_moveOn_48 : decode cX5_moveOn 48 = .ok (.iconst 1, 1) := by decide +kernel
theorem dX5_moveOn_49 : decode cX5_moveOn 49 = .ok (.goto 4, 3) := by decide +kernel
theorem dX5_moveOn_52 : decode cX5_moveOn 52 = .ok (.iconst 0, 1) := by decide +kernel
theorem dX5_moveOn_53 : decode cX5_moveOn 53 = .ok (.putfield 24, 3) := by decide +kernel
theorem dX5_moveOn_56 : decode cX5_moveOn 56 = .ok (.goto 13, 3) := by decide +kernel
theorem dX5_moveOn_59 : decode cX5_moveOn 59 = .ok (.aload_n 0, 1) := by decide +kernel
theorem dX5_moveOn_60 : decode cX5_moveOn 60 = .ok (.dup, 1) := by decide +kernel
theorem dX5_moveOn_61 : decode cX5_moveOn 61 = .ok (.getfield 51, 3) := by decide +kernel
theorem dX5_moveOn_64 : decode cX5_moveOn 64 = .ok (.iconst 1, 1) := by decide +kernel
theorem dX5_moveOn_65 : decode cX5_moveOn 65 = .ok (.iadd, 1) := by decide +kernel
theorem dX5_moveOn_66 : decode cX5_moveOn 66 = .ok (.putfield 51, 3) := by decide +kernel
theorem dX5_moveOn_69 : decode cX5_moveOn 69 = .ok (.return_, 1) := by decide +kernel
theorem dX5_holds_0 : decode cX5_holds 0 = .ok (.aload_n 0, 1) := by decide +kernel
theorem dX5_holds_1 : decode cX5_holds 1 = .ok (.getfield 24, 3) := by decide +kernel
theorem dX5_holds_4 : decode cX5_holds 4 = .ok (.ifCond .eq 27, 3) := by decide +kernel
theorem dX5_holds_7 : decode cX5_holds 7 = .ok (.aload_n 0, 1) := by decide +kernel
theorem dX5_holds_8 : decode cX5_holds 8 = .ok (.getfield 28, 3) := by decide +kernel
theorem dX5_holds_11 : decode cX5_holds 11 = .ok (.ifCond .ne 20, 3) := by decide +kernel
theorem dX5_holds_14 : decode cX5_holds 14 = .ok (.iload_n 1, 1) := by decide +kernel
theorem dX5_holds_15 : decode cX5_holds 15 = .ok (.iconst (-1), 1) := by decide +kernel
theorem dX5_holds_16 : decode cX5_holds 16 = .ok (.if_icmp .eq 11, 3) := by decide +kernel
theorem dX5_holds_19 : decode cX5_holds 19 = .ok (.iload_n 1, 1) := by decide +kernel
theorem dX5_holds_20 : decode cX5_holds 20 = .ok (.aload_n 0, 1) := by decide +kernel
theorem dX5_holds_21 : decode cX5_holds 21 = .ok (.getfield 31, 3) := by decide +kernel
theorem dX5_holds_24 : decode cX5_holds 24 = .ok (.if_icmp .ne 7, 3) := by decide +kernel
theorem dX5_holds_27 : decode cX5_holds 27 = .ok (.iconst 1, 1) := by decide +kernel
theorem dX5_holds_28 : decode cX5_holds 28 = .ok (.goto 4, 3) := by decide +kernel
theorem dX5_holds_31 : decode cX5_holds 31 = .ok (.iconst 0, 1) := by decide +kernel
theorem dX5_holds_32 : decode cX5_holds 32 = .ok (.ireturn, 1) := by decide +kernel
theorem dX5_isStolenBefore_0 : decode cX5_isStolenBefore 0 = .ok (.aload_n 0, 1) := by decide +kernel
theorem dX5_isStolenBefore_1 : decode cX5_isStolenBefore 1 = .ok (.getfield 28, 3) := by decide +kernel
theorem dX5_isStolenBefore_4 : decode cX5_isStolenBefore 4 = .ok (.aload_n 1, 1) := by decide +kernel
theorem dX5_isStolenBefore_5 : decode cX5_isStolenBefore 5 = .ok (.getfield 28, 3) := by decide +kernel
theorem dX5_isStolenBefore_8 : decode cX5_isStolenBefore 8 = .ok (.if_icmp .eq 8, 3) := by decide +kernel
theorem dX5_isStolenBefore_11 : decode cX5_isStolenBefore 11 = .ok (.aload_n 0, 1) := by decide +kernel
theorem dX5_isStolenBefore_12 : decode cX5_isStolenBefore 12 = .ok (.getfield 28, 3) := by decide +kernel
theorem dX5_isStolenBefore_15 : decode cX5_isStolenBefore 15 = .ok (.ireturn, 1) := by decide +kernel
theorem dX5_isStolenBefore_16 : decode cX5_isStolenBefore 16 = .ok (.aload_n 0, 1) := by decide +kernel
theorem dX5_isStolenBefore_17 : decode cX5_isStolenBefore 17 = .ok (.getfield 28, 3) := by decide +kernel
theorem dX5_isStolenBefore_20 : decode cX5_isStolenBefore 20 = .ok (.ifCond .eq 22, 3) := by decide +kernel
theorem dX5_isStolenBefore_23 : decode cX5_isStolenBefore 23 = .ok (.aload_n 0, 1) := by decide +kernel
theorem dX5_isStolenBefore_24 : decode cX5_isStolenBefore 24 = .ok (.getfield 64, 3) := by decide +kernel
theorem dX5_isStolenBefore_27 : decode cX5_isStolenBefore 27 = .ok (.aload_n 1, 1) := by decide +kernel
theorem dX5_isStolenBefore_28 : decode cX5_isStolenBefore 28 = .ok (.getfield 64, 3) := by decide +kernel
theorem dX5_isStolenBefore_31 : decode cX5_isStolenBefore 31 = .ok (.if_icmp .ge 7, 3) := by decide +kernel
theorem dX5_isStolenBefore_34 : decode cX5_isStolenBefore 34 = .ok (.iconst 1, 1) := by decide +kernel
theorem dX5_isStolenBefore_35 : decode cX5_isStolenBefore 35 = .ok (.goto 23, 3) := by decide +kernel
theorem dX5_isStolenBefore_38 : decode cX5_isStolenBefore 38 = .ok (.iconst 0, 1) := by decide +kernel
theorem dX5_isStolenBefore_39 : decode cX5_isStolenBefore 39 = .ok (.goto 19, 3) := by decide +kernel
theorem dX5_isStolenBefore_42 : decode cX5_isStolenBefore 42 = .ok (.aload_n 0, 1) := by decide +kernel
theorem dX5_isStolenBefore_43 : decode cX5_isStolenBefore 43 = .ok (.getfield 48, 3) := by decide +kernel
theorem dX5_isStolenBefore_46 : decode cX5_isStolenBefore 46 = .ok (.aload_n 1, 1) := by decide +kernel
theorem dX5_isStolenBefore_47 : decode cX5_isStolenBefore 47 = .ok (.getfield 48, 3) := by decide +kernel
theorem dX5_isStolenBefore_50 : decode cX5_isStolenBefore 50 = .ok (.if_icmp .ge 7, 3) := by decide +kernel
theorem dX5_isStolenBefore_53 : decode cX5_isStolenBefore 53 = .ok (.iconst 1, 1) := by decide +kernel
theorem dX5_isStolenBefore_54 : decode cX5_isStolenBefore 54 = .ok (.goto 4, 3) := by decide +kernel
theorem dX5_isStolenBefore_57 : decode cX5_isStolenBefore 57 = .ok (.iconst 0, 1) := by decide +kernel
theorem dX5_isStolenBefore_58 : decode cX5_isStolenBefore 58 = .ok (.ireturn, 1) := by decide +kernel
theorem dX5_level_0 : decode cX5_level 0 = .ok (.aload_n 0, 1) := by decide +kernel
theorem dX5_level_1 : decode cX5_level 1 = .ok (.getfield 24, 3) := by decide +kernel
theorem dX5_level_4 : decode cX5_level 4 = .ok (.ifCond .ne 5, 3) := by decide +kernel
theorem dX5_level_7 : decode cX5_level 7 = .ok (.iconst 0, 1) := by decide +kernel
theorem dX5_level_8 : decode cX5_level 8 = .ok (.ireturn, 1) := by decide +kernel
theorem dX5_level_9 : decode cX5_level 9 = .ok (.aload_n 0, 1) := by decide +kernel
theorem dX5_level_10 : decode cX5_level 10 = .ok (.getfield 28, 3) := by decide +kernel
theorem dX5_level_13 : decode cX5_level 13 = .ok (.ifCond .eq 36, 3) := by decide +kernel
theorem dX5_level_16 : decode cX5_level 16 = .ok (.aload_n 0, 1) := by decide +kernel
theorem dX5_level_17 : decode cX5_level 17 = .ok (.getfield 20, 3) := by decide +kernel
theorem dX5_level_20 : decode cX5_level 20 = .ok (.getfield 67, 3) := by decide +kernel
theorem dX5_level_23 : decode cX5_level 23 = .ok (.istore_n 1, 1) := by decide +kernel
theorem dX5_level_24 : decode cX5_level 24 = .ok (.iload_n 1, 1) := by decide +kernel
theorem dX5_level_25 : decode cX5_level 25 = .ok (.ifCond .le 22, 3) := by decide +kernel
theorem dX5_level_28 : decode cX5_level 28 = .ok (.aload_n 0, 1) := by decide +kernel
theorem dX5_level_29 : decode cX5_level 29 = .ok (.getfield 58, 3) := by decide +kernel
theorem dX5_level_32 : decode cX5_level 32 = .ok (.aload_n 0, 1) := by decide +kernel
theorem dX5_level_33 : decode cX5_level 33 = .ok (.getfield 58, 3) := by decide +kernel
theorem dX5_level_36 : decode cX5_level 36 = .ok (.aload_n 0, 1) := by decide +kernel
theorem dX5_level_37 : decode cX5_level 37 = .ok (.getfield 61, 3) := by decide +kernel
theorem dX5_level_40 : decode cX5_level 40 = .ok (.imul, 1) := by decide +kernel
theorem dX5_level_41 : decode cX5_level 41 = .ok (.iload_n 1, 1) := by decide +kernel
theorem dX5_level_42 : decode cX5_level 42 = .ok (.idiv, 1) := by decide +kernel
theorem dX5_level_43 : decode cX5_level 43 = .ok (.isub, 1) := by decide +kernel
theorem dX5_level_44 : decode cX5_level 44 = .ok (.goto 4, 3) := by decide +kernel
theorem dX5_level_47 : decode cX5_level 47 = .ok (.iconst 0, 1) := by decide +kernel
theorem dX5_level_48 : decode cX5_level 48 = .ok (.ireturn, 1) := by decide +kernel
theorem dX5_level_49 : decode cX5_level 49 = .ok (.aload_n 0, 1) := by decide +kernel
theorem dX5_level_50 : decode cX5_level 50 = .ok (.getfield 20, 3) := by decide +kernel
theorem dX5_level_53 : decode cX5_level 53 = .ok (.getfield 81, 3) := by decide +kernel
theorem dX5_level_56 : decode cX5_level 56 = .ok (.istore_n 1, 1) := by decide +kernel
theorem dX5_level_57 : decode cX5_level 57 = .ok (.iload_n 1, 1) := by decide +kernel
theorem dX5_level_58 : decode cX5_level 58 = .ok (.ifCond .le 22, 3) := by decide +kernel
theorem dX5_level_61 : decode cX5_level 61 = .ok (.aload_n 0, 1) := by decide +kernel
theorem dX5_level_62 : decode cX5_level 62 = .ok (.getfield 51, 3) := by decide +kernel
theorem dX5_level_65 : decode cX5_level 65 = .ok (.iload_n 1, 1) := by decide +kernel
theorem dX5_level_66 : decode cX5_level 66 = .ok (.if_icmp .ge 14, 3) := by decide +kernel
theorem dX5_level_69 : decode cX5_level 69 = .ok (.sipush 1000, 3) := by decide +kernel
theorem dX5_level_72 : decode cX5_level 72 = .ok (.aload_n 0, 1) := by decide +kernel
theorem dX5_level_73 : decode cX5_level 73 = .ok (.getfield 51, 3) := by decide +kernel
theorem dX5_level_76 : decode cX5_level 76 = .ok (.imul, 1) := by decide +kernel
theorem dX5_level_77 : decode cX5_level 77 = .ok (.iload_n 1, 1) := by decide +kernel
theorem dX5_level_78 : decode cX5_level 78 = .ok (.idiv, 1) := by decide +kernel
theorem dX5_level_79 : decode cX5_level 79 = .ok (.ireturn, 1) := by decide +kernel
theorem dX5_level_80 : decode cX5_level 80 = .ok (.aload_n 0, 1) := by decide +kernel
theorem dX5_level_81 : decode cX5_level 81 = .ok (.getfield 20, 3) := by decide +kernel
theorem dX5_level_84 : decode cX5_level 84 = .ok (.getfield 84, 3) := by decide +kernel
theorem dX5_level_87 : decode cX5_level 87 = .ok (.istore_n 2, 1) := by decide +kernel
theorem dX5_level_88 : decode cX5_level 88 = .ok (.aload_n 0, 1) := by decide +kernel
theorem dX5_level_89 : decode cX5_level 89 = .ok (.getfield 51, 3) := by decide +kernel
theorem dX5_level_92 : decode cX5_level 92 = .ok (.iload_n 1, 1) := by decide +kernel
theorem dX5_level_93 : decode cX5_level 93 = .ok (.isub, 1) := by decide +kernel
theorem dX5_level_94 : decode cX5_level 94 = .ok (.istore_n 3, 1) := by decide +kernel
theorem dX5_level_95 : decode cX5_level 95 = .ok (.iload_n 2, 1) := by decide +kernel
theorem dX5_level_96 : decode cX5_level 96 = .ok (.ifCond .le 28, 3) := by decide +kernel
theorem dX5_level_99 : decode cX5_level 99 = .ok (.iload_n 3, 1) := by decide +kernel
theorem dX5_level_100 : decode cX5_level 100 = .ok (.iload_n 2, 1) := by decide +kernel
theorem dX5_level_101 : decode cX5_level 101 = .ok (.if_icmp .ge 23, 3) := by decide +kernel
theorem dX5_level_104 : decode cX5_level 104 = .ok (.sipush 1000, 3) := by decide +kernel
theorem dX5_level_107 : decode cX5_level 107 = .ok (.sipush 1000, 3) := by decide +kernel
theorem dX5_level_110 : decode cX5_level 110 = .ok (.aload_n 0, 1) := by decide +kernel
theorem dX5_level_111 : decode cX5_level 111 = .ok (.getfield 20, 3) := by decide +kernel
theorem dX5_level_114 : decode cX5_level 114 = .ok (.getfield 87, 3) := by decide +kernel
theorem dX5_level_117 : decode cX5_level 117 = .ok (.isub, 1) := by decide +kernel
theorem dX5_level_118 : decode cX5_level 118 = .ok (.iload_n 3, 1) := by decide +kernel
theorem dX5_level_119 : decode cX5_level 119 = .ok (.imul, 1) := by decide +kernel
theorem dX5_level_120 : decode cX5_level 120 = .ok (.iload_n 2, 1) := by decide +kernel
theorem dX5_level_121 : decode cX5_level 121 = .ok (.idiv, 1) := by decide +kernel
theorem dX5_level_122 : decode cX5_level 122 = .ok (.isub, 1) := by decide +kernel
theorem dX5_level_123 : decode cX5_level 123 = .ok (.ireturn, 1) := by decide +kernel
theorem dX5_level_124 : decode cX5_level 124 = .ok (.aload_n 0, 1) := by decide +kernel
theorem dX5_level_125 : decode cX5_level 125 = .ok (.getfield 20, 3) := by decide +kernel
theorem dX5_level_128 : decode cX5_level 128 = .ok (.getfield 87, 3) := by decide +kernel
theorem dX5_level_131 : decode cX5_level 131 = .ok (.ireturn, 1) := by decide +kernel
theorem dX5_stage_0 : decode cX5_stage 0 = .ok (.aload_n 0, 1) := by decide +kernel
theorem dX5_stage_1 : decode cX5_stage 1 = .ok (.getfield 24, 3) := by decide +kernel
theorem dX5_stage_4 : decode cX5_stage 4 = .ok (.ifCond .ne 6, 3) := by decide +kernel
theorem dX5_stage_7 : decode cX5_stage 7 = .ok (.bipush 102, 2) := by decide +kernel
theorem dX5_stage_9 : decode cX5_stage 9 = .ok (.ireturn, 1) := by decide +kernel
theorem dX5_stage_10 : decode cX5_stage 10 = .ok (.aload_n 0, 1) := by decide +kernel
theorem dX5_stage_11 : decode cX5_stage 11 = .ok (.getfield 28, 3) := by decide +kernel
theorem dX5_stage_14 : decode cX5_stage 14 = .ok (.ifCond .eq 6, 3) := by decide +kernel
theorem dX5_stage_17 : decode cX5_stage 17 = .ok (.bipush 114, 2) := by decide +kernel
theorem dX5_stage_19 : decode cX5_stage 19 = .ok (.ireturn, 1) := by decide +kernel
theorem dX5_stage_20 : decode cX5_stage 20 = .ok (.aload_n 0, 1) := by decide +kernel
theorem dX5_stage_21 : decode cX5_stage 21 = .ok (.getfield 51, 3) := by decide +kernel
theorem dX5_stage_24 : decode cX5_stage 24 = .ok (.aload_n 0, 1) := by decide +kernel
theorem dX5_stage_25 : decode cX5_stage 25 = .ok (.getfield 20, 3) := by decide +kernel
theorem dX5_stage_28 : decode cX5_stage 28 = .ok (.getfield 81, 3) := by decide +kernel
theorem dX5_stage_31 : decode cX5_stage 31 = .ok (.if_icmp .ge 6, 3) := by decide +kernel
theorem dX5_stage_34 : decode cX5_stage 34 = .ok (.bipush 97, 2) := by decide +kernel
theorem dX5_stage_36 : decode cX5_stage 36 = .ok (.ireturn, 1) := by decide +kernel
theorem dX5_stage_37 : decode cX5_stage 37 = .ok (.aload_n 0, 1) := by decide +kernel
theorem dX5_stage_38 : decode cX5_stage 38 = .ok (.getfield 51, 3) := by decide +kernel
theorem dX5_stage_41 : decode cX5_stage 41 = .ok (.aload_n 0, 1) := by decide +kernel
theorem dX5_stage_42 : decode cX5_stage 42 = .ok (.getfield 20, 3) := by decide +kernel
theorem dX5_stage_45 : decode cX5_stage 45 = .ok (.getfield 81, 3) := by decide +kernel
theorem dX5_stage_48 : decode cX5_stage 48 = .ok (.isub, 1) := by decide +kernel
theorem dX5_stage_49 : decode cX5_stage 49 = .ok (.aload_n 0, 1) := by decide +kernel
theorem dX5_stage_50 : decode cX5_stage 50 = .ok (.getfield 20, 3) := by decide +kernel
theorem dX5_stage_53 : decode cX5_stage 53 = .ok (.getfield 84, 3) := by decide +kernel
theorem dX5_stage_56 : decode cX5_stage 56 = .ok (.if_icmp .ge 8, 3) := by decide +kernel
theorem dX5_stage_59 : decode cX5_stage 59 = .ok (.bipush 100, 2) := by decide +kernel
theorem dX5_stage_61 : decode cX5_stage 61 = .ok (.goto 5, 3) := by decide +kernel
theorem dX5_stage_64 : decode cX5_stage 64 = .ok (.bipush 115, 2) := by decide +kernel
theorem dX5_stage_66 : decode cX5_stage 66 = .ok (.ireturn, 1) := by decide +kernel
theorem dX5_waveValue_0 : decode cX5_waveValue 0 = .ok (.aload_n 0, 1) := by decide +kernel
theorem dX5_waveValue_1 : decode cX5_waveValue 1 = .ok (.getfield 9, 3) := by decide +kernel
theorem dX5_waveValue_4 : decode cX5_waveValue 4 = .ok (.bipush 113, 2) := by decide +kernel
theorem dX5_waveValue_6 : decode cX5_waveValue 6 = .ok (.if_icmp .ne 22, 3) := by decide +kernel
theorem dX5_waveValue_9 : decode cX5_waveValue 9 = .ok (.aload_n 0, 1) := by decide +kernel
theorem dX5_waveValue_10 : decode cX5_waveValue 10 = .ok (.getfield 45, 3) := by decide +kernel
theorem dX5_waveValue_13 : decode cX5_waveValue 13 = .ok (.ldc 90, 2) := by decide +kernel
theorem dX5_waveValue_15 : decode cX5_waveValue 15 = .ok (.if_icmp .ge 9, 3) := by decide +kernel
theorem dX5_waveValue_18 : decode cX5_waveValue 18 = .ok (.sipush 1000, 3) := by decide +kernel
theorem dX5_waveValue_21 : decode cX5_waveValue 21 = .ok (.goto 6, 3) := by decide +kernel
theorem dX5_waveValue_24 : decode cX5_waveValue 24 = .ok (.sipush (-1000), 3) := by decide +kernel
theorem dX5_waveValue_27 : decode cX5_waveValue 27 = .ok (.ireturn, 1) := by decide +kernel
theorem dX5_waveValue_28 : decode cX5_waveValue 28 = .ok (.aload_n 0, 1) := by decide +kernel
theorem dX5_waveValue_29 : decode cX5_waveValue 29 = .ok (.getfield 9, 3) := by decide +kernel
theorem dX5_waveValue_32 : decode cX5_waveValue 32 = .ok (.bipush 116, 2) := by decide +kernel
theorem dX5_waveValue_34 : decode cX5_waveValue 34 = .ok (.if_icmp .ne 36, 3) := by decide +kernel
theorem dX5_waveValue_37 : decode cX5_waveValue 37 = .ok (.aload_n 0, 1) := by decide +kernel
theorem dX5_waveValue_38 : decode cX5_waveValue 38 = .ok (.getfield 45, 3) := by decide +kernel
theorem dX5_waveValue_41 : decode cX5_waveValue 41 = .ok (.ldc 90, 2) := by decide +kernel
theorem dX5_waveValue_43 : decode cX5_waveValue 43 = .ok (.if_icmp .ge 10, 3) := by decide +kernel
theorem dX5_waveValue_46 : decode cX5_waveValue 46 = .ok (.aload_n 0, 1) := by decide +kernel
theorem dX5_waveValue_47 : decode cX5_waveValue 47 = .ok (.getfield 45, 3) := by decide +kernel
theorem dX5_waveValue_50 : decode cX5_waveValue 50 = .ok (.goto 10, 3) := by decide +kernel
theorem dX5_waveValue_53 : decode cX5_waveValue 53 = .ok (.ldc 80, 2) := by decide +kernel
theorem dX5_waveValue_55 : decode cX5_waveValue 55 = .ok (.aload_n 0, 1) := by decide +kernel
theorem dX5_waveValue_56 : decode cX5_waveValue 56 = .ok (.getfield 45, 3) := by decide +kernel
theorem dX5_waveValue_59 : decode cX5_waveValue 59 = .ok (.isub, 1) := by decide +kernel
theorem dX5_waveValue_60 : decode cX5_waveValue 60 = .ok (.istore_n 1, 1) := by decide +kernel
theorem dX5_waveValue_61 : decode cX5_waveValue 61 = .ok (.iload_n 1, 1) := by decide +kernel
theorem dX5_waveValue_62 : decode cX5_waveValue 62 = .ok (.bipush 16, 2) := by decide +kernel
theorem dX5_waveValue_64 : decode cX5_waveValue 64 = .ok (.idiv, 1) := by decide +kernel
theorem dX5_waveValue_65 : decode cX5_waveValue 65 = .ok (.sipush 1024, 3) := by decide +kernel
theorem dX5_waveValue_68 : decode cX5_waveValue 68 = .ok (.isub, 1) := by decide +kernel
theorem dX5_waveValue_69 : decode cX5_waveValue 69 = .ok (.ireturn, 1) := by decide +kernel
theorem dX5_waveValue_70 : decode cX5_waveValue 70 = .ok (.aload_n 0, 1) := by decide +kernel
theorem dX5_waveValue_71 : decode cX5_waveValue 71 = .ok (.getfield 45, 3) := by decide +kernel
theorem dX5_waveValue_74 : decode cX5_waveValue 74 = .ok (.bipush 32, 2) := by decide +kernel
theorem dX5_waveValue_76 : decode cX5_waveValue 76 = .ok (.idiv, 1) := by decide +kernel
theorem dX5_waveValue_77 : decode cX5_waveValue 77 = .ok (.sipush 1024, 3) := by decide +kernel
theorem dX5_waveValue_80 : decode cX5_waveValue 80 = .ok (.isub, 1) := by decide +kernel
theorem dX5_waveValue_81 : decode cX5_waveValue 81 = .ok (.ireturn, 1) := by decide +kernel
theorem dX5_copyFrom_0 : decode cX5_copyFrom 0 = .ok (.aload_n 0, 1) := by decide +kernel
theorem dX5_copyFrom_1 : decode cX5_copyFrom 1 = .ok (.aload_n 1, 1) := by decide +kernel
theorem dX5_copyFrom_2 : decode cX5_copyFrom 2 = .ok (.getfield 24, 3) := by decide +kernel
theorem dX5_copyFrom_5 : decode cX5_copyFrom 5 = .ok (.putfield 24, 3) := by decide +kernel
theorem dX5_copyFrom_8 : decode cX5_copyFrom 8 = .ok (.aload_n 0, 1) := by decide +kernel
theorem dX5_copyFrom_9 : decode cX5_copyFrom 9 = .ok (.aload_n 1, 1) := by decide +kernel
theorem dX5_copyFrom_10 : decode cX5_copyFrom 10 = .ok (.getfield 28, 3) := by decide +kernel
theorem dX5_copyFrom_13 : decode cX5_copyFrom 13 = .ok (.putfield 28, 3) := by decide +kernel
theorem dX5_copyFrom_16 : decode cX5_copyFrom 16 = .ok (.aload_n 0, 1) := by decide +kernel
theorem dX5_copyFrom_17 : decode cX5_copyFrom 17 = .ok (.aload_n 1, 1) := by decide +kernel
theorem dX5_copyFrom_18 : decode cX5_copyFrom 18 = .ok (.getfield 31, 3) := by decide +kernel
theorem dX5_copyFrom_21 : decode cX5_copyFrom 21 = .ok (.putfield 31, 3) := by decide +kernel
theorem dX5_copyFrom_24 : decode cX5_copyFrom 24 = .ok (.aload_n 0, 1) := by decide +kernel
theorem dX5_copyFrom_25 : decode cX5_copyFrom 25 = .ok (.aload_n 1, 1) := by decide +kernel
theorem dX5_copyFrom_26 : decode cX5_copyFrom 26 = .ok (.getfield 35, 3) := by decide +kernel
theorem dX5_copyFrom_29 : decode cX5_copyFrom 29 = .ok (.putfield 35, 3) := by decide +kernel
theorem dX5_copyFrom_32 : decode cX5_copyFrom 32 = .ok (.aload_n 0, 1) := by decide +kernel
theorem dX5_copyFrom_33 : decode cX5_copyFrom 33 = .ok (.aload_n 1, 1) := by decide +kernel
theorem dX5_copyFrom_34 : decode cX5_copyFrom 34 = .ok (.getfield 9, 3) := by decide +kernel
theorem dX5_copyFrom_37 : decode cX5_copyFrom 37 = .ok (.putfield 9, 3) := by decide +kernel
theorem dX5_copyFrom_40 : decode cX5_copyFrom 40 = .ok (.aload_n 0, 1) := by decide +kernel
theorem dX5_copyFrom_41 : decode cX5_copyFrom 41 = .ok (.aload_n 1, 1) := by decide +kernel
theorem dX5_copyFrom_42 : decode cX5_copyFrom 42 = .ok (.getfield 20, 3) := by decide +kernel
theorem dX5_copyFrom_45 : decode cX5_copyFrom 45 = .ok (.putfield 20, 3) := by decide +kernel
theorem dX5_copyFrom_48 : decode cX5_copyFrom 48 = .ok (.aload_n 0, 1) := by decide +kernel
theorem dX5_copyFrom_49 : decode cX5_copyFrom 49 = .ok (.aload_n 1, 1) := by decide +kernel
theorem dX5_copyFrom_50 : decode cX5_copyFrom 50 = .ok (.getfield 42, 3) := by decide +kernel
theorem dX5_copyFrom_53 : decode cX5_copyFrom 53 = .ok (.putfield 42, 3) := by decide +kernel
theorem dX5_copyFrom_56 : decode cX5_copyFrom 56 = .ok (.aload_n 0, 1) := by decide +kernel
theorem dX5_copyFrom_57 : decode cX5_copyFrom 57 = .ok (.aload_n 1, 1) := by decide +kernel
theorem dX5_copyFrom_58 : decode cX5_copyFrom 58 = .ok (.getfield 45, 3) := by decide +kernel
theorem dX5_copyFrom_61 : decode cX5_copyFrom 61 = .ok (.putfield 45, 3) := by decide +kernel
theorem dX5_copyFrom_64 : decode cX5_copyFrom 64 = .ok (.aload_n 0, 1) := by decide +kernel
theorem dX5_copyFrom_65 : decode cX5_copyFrom 65 = .ok (.aload_n 1, 1) := by decide +kernel
theorem dX5_copyFrom_66 : decode cX5_copyFrom 66 = .ok (.getfield 48, 3) := by decide +kernel
theorem dX5_copyFrom_69 : decode cX5_copyFrom 69 = .ok (.putfield 48, 3) := by decide +kernel
theorem dX5_copyFrom_72 : decode cX5_copyFrom 72 = .ok (.aload_n 0, 1) := by decide +kernel
theorem dX5_copyFrom_73 : decode cX5_copyFrom 73 = .ok (.aload_n 1, 1) := by decide +kernel
theorem dX5_copyFrom_74 : decode cX5_copyFrom 74 = .ok (.getfield 64, 3) := by decide +kernel
theorem dX5_copyFrom_77 : decode cX5_copyFrom 77 = .ok (.putfield 64, 3) := by decide +kernel
theorem dX5_copyFrom_80 : decode cX5_copyFrom 80 = .ok (.aload_n 0, 1) := by decide +kernel
theorem dX5_copyFrom_81 : decode cX5_copyFrom 81 = .ok (.aload_n 1, 1) := by decide +kernel
theorem dX5_copyFrom_82 : decode cX5_copyFrom 82 = .ok (.getfield 51, 3) := by decide +kernel
theorem dX5_copyFrom_85 : decode cX5_copyFrom 85 = .ok (.putfield 51, 3) := by decide +kernel
theorem dX5_copyFrom_88 : decode cX5_copyFrom 88 = .ok (.aload_n 0, 1) := by decide +kernel
theorem dX5_copyFrom_89 : decode cX5_copyFrom 89 = .ok (.aload_n 1, 1) := by decide +kernel
theorem dX5_copyFrom_90 : decode cX5_copyFrom 90 = .ok (.getfield 58, 3) := by decide +kernel
theorem dX5_copyFrom_93 : decode cX5_copyFrom 93 = .ok (.putfield 58, 3) := by decide +kernel
theorem dX5_copyFrom_96 : decode cX5_copyFrom 96 = .ok (.aload_n 0, 1) := by decide +kernel
theorem dX5_copyFrom_97 : decode cX5_copyFrom 97 = .ok (.aload_n 1, 1) := by decide +kernel
theorem dX5_copyFrom_98 : decode cX5_copyFrom 98 = .ok (.getfield 61, 3) := by decide +kernel
theorem dX5_copyFrom_101 : decode cX5_copyFrom 101 = .ok (.putfield 61, 3) := by decide +kernel
theorem dX5_copyFrom_104 : decode cX5_copyFrom 104 = .ok (.return_, 1) := by decide +kernel
theorem dX6_init_0 : decode cX6_init 0 = .ok (.aload_n 0, 1) := by decide +kernel
theorem dX6_init_1 : decode cX6_init 1 = .ok (.invokespecial 1, 3) := by decide +kernel
theorem dX6_init_4 : decode cX6_init 4 = .ok (.aload_n 0, 1) := by decide +kernel
theorem dX6_init_5 : decode cX6_init 5 = .ok (.new 7, 3) := by decide +kernel
theorem dX6_init_8 : decode cX6_init 8 = .ok (.dup, 1) := by decide +kernel
theorem dX6_init_9 : decode cX6_init 9 = .ok (.invokespecial 9, 3) := by decide +kernel
theorem dX6_init_12 : decode cX6_init 12 = .ok (.putfield 10, 3) := by decide +kernel
theorem dX6_init_15 : decode cX6_init 15 = .ok (.aload_n 0, 1) := by decide +kernel
theorem dX6_init_16 : decode cX6_init 16 = .ok (.new 16, 3) := by decide +kernel
theorem dX6_init_19 : decode cX6_init 19 = .ok (.dup, 1) := by decide +kernel
theorem dX6_init_20 : decode cX6_init 20 = .ok (.aload_n 0, 1) := by decide +kernel
theorem dX6_init_21 : decode cX6_init 21 = .ok (.getfield 10, 3) := by decide +kernel
theorem dX6_init_24 : decode cX6_init 24 = .ok (.invokespecial 18, 3) := by decide +kernel
theorem dX6_init_27 : decode cX6_init 27 = .ok (.putfield 21, 3) := by decide +kernel
theorem dX6_init_30 : decode cX6_init 30 = .ok (.aload_n 0, 1) := by decide +kernel
theorem dX6_init_31 : decode cX6_init 31 = .ok (.new 16, 3) := by decide +kernel
theorem dX6_init_34 : decode cX6_init 34 = .ok (.dup, 1) := by decide +kernel
theorem dX6_init_35 : decode cX6_init 35 = .ok (.aload_n 0, 1) := by decide +kernel
theorem dX6_init_36 : decode cX6_init 36 = .ok (.getfield 10, 3) := by decide +kernel
theorem dX6_init_39 : decode cX6_init 39 = .ok (.invokespecial 18, 3) := by decide +kernel
theorem dX6_init_42 : decode cX6_init 42 = .ok (.putfield 25, 3) := by decide +kernel
theorem dX6_init_45 : decode cX6_init 45 = .ok (.aload_n 0, 1) := by decide +kernel
theorem dX6_init_46 : decode cX6_init 46 = .ok (.new 28, 3) := by decide +kernel
theorem dX6_init_49 : decode cX6_init 49 = .ok (.dup, 1) := by decide +kernel
theorem dX6_init_50 : decode cX6_init 50 = .ok (.invokespecial 30, 3) := by decide +kernel
theorem dX6_init_53 : decode cX6_init 53 = .ok (.putfield 31, 3) := by decide +kernel
theorem dX6_init_56 : decode cX6_init 56 = .ok (.aload_n 0, 1) := by decide +kernel
theorem dX6_init_57 : decode cX6_init 57 = .ok (.bipush 64, 2) := by decide +kernel
theorem dX6_init_59 : decode cX6_init 59 = .ok (.newarray .int, 2) := by decide +kernel
theorem dX6_init_61 : decode cX6_init 61 = .ok (.putfield 35, 3) := by decide +kernel
theorem dX6_init_64 : decode cX6_init 64 = .ok (.aload_n 0, 1) := by decide +kernel
theorem dX6_init_65 : decode cX6_init 65 = .ok (.bipush 64, 2) := by decide +kernel
theorem dX6_init_67 : decode cX6_init 67 = .ok (.newarray .int, 2) := by decide +kernel
theorem dX6_init_69 : decode cX6_init 69 = .ok (.putfield 39, 3) := by decide +kernel
theorem dX6_init_72 : decode cX6_init 72 = .ok (.aload_n 0, 1) := by decide +kernel
theorem dX6_init_73 : decode cX6_init 73 = .ok (.bipush 115, 2) := by decide +kernel
theorem dX6_init_75 : decode cX6_init 75 = .ok (.putfield 42, 3) := by decide +kernel
theorem dX6_init_78 : decode cX6_init 78 = .ok (.aload_n 0, 1) := by decide +kernel
theorem dX6_init_79 : decode cX6_init 79 = .ok (.new 46, 3) := by decide +kernel
theorem dX6_init_82 : decode cX6_init 82 = .ok (.dup, 1) := by decide +kernel
theorem dX6_init_83 : decode cX6_init 83 = .ok (.iconst 0, 1) := by decide +kernel
theorem dX6_init_84 : decode cX6_init 84 = .ok (.iconst 0, 1) := by decide +kernel
theorem dX6_init_85 : decode cX6_init 85 = .ok (.sipush 1000, 3) := by decide +kernel
theorem dX6_init_88 : decode cX6_init 88 = .ok (.iconst 0, 1) := by decide +kernel
theorem dX6_init_89 : decode cX6_init 89 = .ok (.invokespecial 48, 3) := by decide +kernel
theorem dX6_init_92 : decode cX6_init 92 = .ok (.putfield 51, 3) := by decide +kernel
theorem dX6_init_95 : decode cX6_init 95 = .ok (.return_, 1) := by decide +kernel
theorem dX6_addGain_0 : decode cX6_addGain 0 = .ok (.iload_n 1, 1) := by decide +kernel
theorem dX6_addGain_1 : decode cX6_addGain 1 = .ok (.sipush (-200), 3) := by decide +kernel
theorem dX6_addGain_4 : decode cX6_addGain 4 = .ok (.sipush 200, 3) := by decide +kernel
theorem dX6_addGain_7 : decode cX6_addGain 7 = .ok (.invokestatic 55, 3) := by decide +kernel
theorem dX6_addGain_10 : decode cX6_addGain 10 = .ok (.aload_n 0, 1) := by decide +kernel
theorem dX6_addGain_11 : decode cX6_addGain 11 = .ok (.invokevirtual 59, 3) := by decide +kernel
theorem dX6_addGain_14 : decode cX6_addGain 14 = .ok (.aload_n 0, 1) := by decide +kernel
theorem dX6_addGain_15 : decode cX6_addGain 15 = .ok (.getfield 10, 3) := by decide +kernel
theorem dX6_addGain_18 : decode cX6_addGain 18 = .ok (.bipush 103, 2) := by decide +kernel
theorem dX6_addGain_20 : decode cX6_addGain 20 = .ok (.invokevirtual 62, 3) := by decide +kernel
theorem dX6_addGain_23 : decode cX6_addGain 23 = .ok (.istore_n 2, 1) := by decide +kernel
theorem dX6_addGain_24 : decode cX6_addGain 24 = .ok (.aload_n 0, 1) := by decide +kernel
theorem dX6_addGain_25 : decode cX6_addGain 25 = .ok (.getfield 10, 3) := by decide +kernel
theorem dX6_addGain_28 : decode cX6_addGain 28 = .ok (.getfield 66, 3) := by decide +kernel
theorem dX6_addGain_31 : decode cX6_addGain 31 = .ok (.iload_n 2, 1) := by decide +kernel
theorem dX6_addGain_32 : decode cX6_addGain 32 = .ok (.iload_n 1, 1) := by decide +kernel
theorem dX6_addGain_33 : decode cX6_addGain 33 = .ok (.iastore, 1) := by decide +kernel
theorem dX6_addGain_34 : decode cX6_addGain 34 = .ok (.iload_n 2, 1) := by decide +kernel
theorem dX6_addGain_35 : decode cX6_addGain 35 = .ok (.ireturn, 1) := by decide +kernel
theorem dX6_addDelay_0 : decode cX6_addDelay 0 = .ok (.iload_n 1, 1) := by decide +kernel
theorem dX6_addDelay_1 : decode cX6_addDelay 1 = .ok (.iconst 1, 1) := by decide +kernel
theorem dX6_addDelay_2 : decode cX6_addDelay 2 = .ok (.bipush 60, 2) := by decide +kernel
theorem dX6_addDelay_4 : decode cX6_addDelay 4 = .ok (.invokestatic 55, 3) := by decide +kernel
theorem dX6_addDelay_7 : decode cX6_addDelay 7 = .ok (.iload_n 2, 1) := by decide +kernel
theorem dX6_addDelay_8 : decode cX6_addDelay 8 = .ok (.bipush (-95), 2) := by decide +kernel
theorem dX6_addDelay_10 : decode cX6_addDelay 10 = .ok (.bipush 95, 2) := by decide +kernel
theorem dX6_addDelay_12 : decode cX6_addDelay 12 = .ok (.invokestatic 55, 3) := by decide +kernel
theorem dX6_addDelay_15 : decode cX6_addDelay 15 = .ok (.aload_n 0, 1) := by decide +kernel
theorem dX6_addDelay_16 : decode cX6_addDelay 16 = .ok (.invokevirtual 59, 3) := by decide +kernel
theorem dX6_addDelay_19 : decode cX6_addDelay 19 = .ok (.aload_n 0, 1) := by decide +kernel
theorem dX6_addDelay_20 : decode cX6_addDelay 20 = .ok (.getfield 10, 3) := by decide +kernel
theorem dX6_addDelay_23 : decode cX6_addDelay 23 = .ok (.bipush 100, 2) := by decide +kernel
theorem dX6_addDelay_25 : decode cX6_addDelay 25 = .ok (.invokevirtual 62, 3) := by decide +kernel
theorem dX6_addDelay_28 : decode cX6_addDelay 28 = .ok (.istore_n 3, 1) := by decide +kernel
theorem dX6_addDelay_29 : decode cX6_addDelay 29 = .ok (.aload_n 0, 1) := by decide +kernel
theorem dX6_addDelay_30 : decode cX6_addDelay 30 = .ok (.getfield 10, 3) := by decide +kernel
theorem dX6_addDelay_33 : decode cX6_addDelay 33 = .ok (.getfield 69, 3) := by decide +kernel
theorem dX6_addDelay_36 : decode cX6_addDelay 36 = .ok (.iload_n 3, 1) := by decide +kernel
theorem dX6_addDelay_37 : decode cX6_addDelay 37 = .ok (.iload_n 1, 1) := by decide +kernel
theorem dX6_addDelay_38 : decode cX6_addDelay 38 = .ok (.iastore, 1) := by decide +kernel
theorem dX6_addDelay_39 : decode cX6_addDelay 39 = .ok (.aload_n 0, 1) := by decide +kernel
theorem dX6_addDelay_40 : decode cX6_addDelay 40 = .ok (.getfield 10, 3) := by decide +kernel
theorem dX6_addDelay_43 : decode cX6_addDelay 43 = .ok (.getfield 72, 3) := by decide +kernel
theorem dX6_addDelay_46 : decode cX6_addDelay 46 = .ok (.iload_n 3, 1) := by decide +kernel
theorem dX6_addDelay_47 : decode cX6_addDelay 47 = .ok (.iload_n 2, 1) := by decide +kernel
theorem dX6_addDelay_48 : decode cX6_addDelay 48 = .ok (.iastore, 1) := by decide +kernel
theorem dX6_addDelay_49 : decode cX6_addDelay 49 = .ok (.iload_n 3, 1) := by decide +kernel
theorem dX6_addDelay_50 : decode cX6_addDelay 50 = .ok (.ireturn, 1) := by decide +kernel
theorem dX6_addFilter_0 : decode cX6_addFilter 0 = .ok (.iload_n 1, 1) := by decide +kernel
theorem dX6_addFilter_1 : decode cX6_addFilter 1 = .ok (.bipush (-64), 2) := by decide +kernel
theorem dX6_addFilter_3 : decode cX6_addFilter 3 = .ok (.bipush 64, 2) := by decide +kernel
theorem dX6_addFilter_5 : decode cX6_addFilter 5 = .ok (.invokestatic 55, 3) := by decide +kernel
theorem dX6_addFilter_8 : decode cX6_addFilter 8 = .ok (.iload_n 2, 1) := by decide +kernel
theorem dX6_addFilter_9 : decode cX6_addFilter 9 = .ok (.bipush (-64), 2) := by decide +kernel
theorem dX6_addFilter_11 : decode cX6_addFilter 11 = .ok (.bipush 64, 2) := by decide +kernel
theorem dX6_addFilter_13 : decode cX6_addFilter 13 = .ok (.invokestatic 55, 3) := by decide +kernel
theorem dX6_addFilter_16 : decode cX6_addFilter 16 = .ok (.iload_n 3, 1) := by decide +kernel
theorem dX6_addFilter_17 : decode cX6_addFilter 17 = .ok (.bipush (-64), 2) := by decide +kernel
theorem dX6_addFilter_19 : decode cX6_addFilter 19 = .ok (.bipush 64, 2) := by decide +kernel
theorem dX6_addFilter_21 : decode cX6_addFilter 21 = .ok (.invokestatic 55, 3) := by decide +kernel
theorem dX6_addFilter_24 : decode cX6_addFilter 24 = .ok (.aload_n 0, 1) := by decide +kernel
theorem dX6_addFilter_25 : decode cX6_addFilter 25 = .ok (.invokevirtual 59, 3) := by decide +kernel
theorem dX6_addFilter_28 : decode cX6_addFilter 28 = .ok (.aload_n 0, 1) := by decide +kernel
theorem dX6_addFilter_29 : decode cX6_addFilter 29 = .ok (.getfield 10, 3) := by decide +kernel
theorem dX6_addFilter_32 : decode cX6_addFilter 32 = .ok (.bipush 102, 2) := by decide +kernel
theorem dX6_addFilter_34 : decode cX6_addFilter 34 = .ok (.invokevirtual 62, 3) := by decide +kernel
theorem dX6_addFilter_37 : decode cX6_addFilter 37 = .ok (.istore 4, 2) := by decide +kernel
theorem dX6_addFilter_39 : decode cX6_addFilter 39 = .ok (.aload_n 0, 1) := by decide +kernel
theorem dX6_addFilter_40 : decode cX6_addFilter 40 = .ok (.getfield 10, 3) := by decide +kernel
theorem dX6_addFilter_43 : decode cX6_addFilter 43 = .ok (.getfield 75, 3) := by decide +kernel
theorem dX6_addFilter_46 : decode cX6_addFilter 46 = .ok (.iload 4, 2) := by decide +kernel
theorem dX6_addFilter_48 : decode cX6_addFilter 48 = .ok (.iload_n 1, 1) := by decide +kernel
theorem dX6_addFilter_49 : decode cX6_addFilter 49 = .ok (.iastore, 1) := by decide +kernel
theorem dX6_addFilter_50 : decode cX6_addFilter 50 = .ok (.aload_n 0, 1) := by decide +kernel
theorem dX6_addFilter_51 : decode cX6_addFilter 51 = .ok (.getfield 10, 3) := by decide +kernel
theorem dX6_addFilter_54 : decode cX6_addFilter 54 = .ok (.getfield 78, 3) := by decide +kernel
theorem dX6_addFilter_57 : decode cX6_addFilter 57 = .ok (.iload 4, 2) := by decide +kernel
theorem dX6_addFilter_59 : decode cX6_addFilter 59 = .ok (.iload_n 2, 1) := by decide +kernel
theorem dX6_addFilter_60 : decode cX6_addFilter 60 = .ok (.iastore, 1) := by decide +kernel
theorem dX6_addFilter_61 : decode cX6_addFilter 61 = .ok (.aload_n 0, 1) := by decide +kernel
theorem dX6_addFilter_62 : decode cX6_addFilter 62 = .ok (.getfield 10, 3) := by decide +kernel
theorem dX6_addFilter_65 : decode cX6_addFilter 65 = .ok (.getfield 81, 3) := by decide +kernel
theorem dX6_addFilter_68 : decode cX6_addFilter 68 = .ok (.iload 4, 2) := by decide +kernel
theorem dX6_addFilter_70 : decode cX6_addFilter 70 = .ok (.iload_n 3, 1) := by decide +kernel
theorem dX6_addFilter_71 : decode cX6_addFilter 71 = .ok (.iastore, 1) := by decide +kernel
theorem dX6_addFilter_72 : decode cX6_addFilter 72 = .ok (.iload 4, 2) := by decide +kernel
theorem dX6_addFilter_74 : decode cX6_addFilter 74 = .ok (.ireturn, 1) := by decide +kernel
theorem dX6_addBus_0 : decode cX6_addBus 0 = .ok (.iload_n 1, 1) := by decide +kernel
theorem dX6_addBus_1 : decode cX6_addBus 1 = .ok (.iconst 0, 1) := by decide +kernel
theorem dX6_addBus_2 : decode cX6_addBus 2 = .ok (.sipush 32767, 3) := by decide +kernel
theorem dX6_addBus_5 : decode cX6_addBus 5 = .ok (.invokestatic 55, 3) := by decide +kernel
theorem dX6_addBus_8 : decode cX6_addBus 8 = .ok (.aload_n 0, 1) := by decide +kernel
theorem dX6_addBus_9 : decode cX6_addBus 9 = .ok (.invokevirtual 59, 3) := by decide +kernel
theorem dX6_addBus_12 : decode cX6_addBus 12 = .ok (.aload_n 0, 1) := by decide +kernel
theorem dX6_addBus_13 : decode cX6_addBus 13 = .ok (.getfield 10, 3) := by decide +kernel
theorem dX6_addBus_16 : decode cX6_addBus 16 = .ok (.bipush 98, 2) := by decide +kernel
theorem dX6_addBus_18 : decode cX6_addBus 18 = .ok (.invokevirtual 62, 3) := by decide +kernel
theorem dX6_addBus_21 : decode cX6_addBus 21 = .ok (.istore_n 2, 1) := by decide +kernel
theorem dX6_addBus_22 : decode cX6_addBus 22 = .ok (.aload_n 0, 1) := by decide +kernel
theorem dX6_addBus_23 : decode cX6_addBus 23 = .ok (.getfield 10, 3) := by decide +kernel
theorem dX6_addBus_26 : decode cX6_addBus 26 = .ok (.getfield 84, 3) := by decide +kernel
theorem dX6_addBus_29 : decode cX6_addBus 29 = .ok (.iload_n 2, 1) := by decide +kernel
theorem dX6_addBus_30 : decode cX6_addBus 30 = .ok (.iload_n 1, 1) := by decide +kernel
theorem dX6_addBus_31 : decode cX6_addBus 31 = .ok (.iastore, 1) := by decide +kernel
theorem dX6_addBus_32 : decode cX6_addBus 32 = .ok (.iload_n 2, 1) := by decide +kernel
theorem dX6_addBus_33 : decode cX6_addBus 33 = .ok (.ireturn, 1) := by decide +kernel
theorem dX6_connect_0 : decode cX6_connect 0 = .ok (.aload_n 0, 1) := by decide +kernel
theorem dX6_connect_1 : decode cX6_connect 1 = .ok (.iload_n 1, 1) := by decide +kernel
theorem dX6_connect_2 : decode cX6_connect 2 = .ok (.invokevirtual 87, 3) := by decide +kernel
theorem dX6_connect_5 : decode cX6_connect 5 = .ok (.aload_n 0, 1) := by decide +kernel
theorem dX6_connect_6 : decode cX6_connect 6 = .ok (.iload_n 2, 1) := by decide +kernel
theorem dX6_connect_7 : decode cX6_connect 7 = .ok (.invokevirtual 87, 3) := by decide +kernel
theorem dX6_connect_10 : decode cX6_connect 10 = .ok (.iload_n 3, 1) := by decide +kernel
theorem dX6_connect_11 : decode cX6_connect 11 = .ok (.bipush (-100), 2) := by decide +kernel
theorem dX6_connect_13 : decode cX6_connect 13 = .ok (.bipush 100, 2) := by decide +kernel
theorem dX6_connect_15 : decode cX6_connect 15 = .ok (.invokestatic 55, 3) := by decide +kernel
theorem dX6_connect_18 : decode cX6_connect 18 = .ok (.iload_n 3, 1) := by decide +kernel
theorem dX6_connect_19 : decode cX6_connect 19 = .ok (.ifCond .ne 13, 3) := by decide +kernel
theorem dX6_connect_22 : decode cX6_connect 22 = .ok (.new 91, 3) := by decide +kernel
theorem dX6_connect_25 : decode cX6_connect 25 = .ok (.dup, 1) := by decide +kernel
theorem dX6_connect_26 : decode cX6_connect 26 = .ok (.ldc 93, 2) := by decide +kernel
theorem dX6_connect_28 : decode cX6_connect 28 = .ok (.invokespecial 95, 3) := by decide +kernel
theorem dX6_connect_31 : decode cX6_connect 31 = .ok (.athrow, 1) := by decide +kernel
theorem dX6_connect_32 : decode cX6_connect 32 = .ok (.aload_n 0, 1) := by decide +kernel
theorem dX6_connect_33 : decode cX6_connect 33 = .ok (.getfield 10, 3) := by decide +kernel
theorem dX6_connect_36 : decode cX6_connect 36 = .ok (.iload_n 1, 1) := by decide +kernel
theorem dX6_connect_37 : decode cX6_connect 37 = .ok (.iload_n 2, 1) := by decide +kernel
theorem dX6_connect_38 : decode cX6_connect 38 = .ok (.invokevirtual 98, 3) := by decide +kernel
theorem dX6_connect_41 : decode cX6_connect 41 = .ok (.iconst (-1), 1) := by decide +kernel
theorem dX6_connect_42 : decode cX6_connect 42 = .ok (.if_icmp .ne 16, 3) := by decide +kernel
theorem dX6_connect_45 : decode cX6_connect 45 = .ok (.aload_n 0, 1) := by decide +kernel
theorem dX6_connect_46 : decode cX6_connect 46 = .ok (.getfield 10, 3) := by decide +kernel
theorem dX6_connect_49 : decode cX6_connect 49 = .ok (.getfield 102, 3) := by decide +kernel
theorem dX6_connect_52 : decode cX6_connect 52 = .ok (.iload_n 2, 1) := by decide +kernel
theorem dX6_connect_53 : decode cX6_connect 53 = .ok (.iaload, 1) := by decide +kernel
theorem dX6_connect_54 : decode cX6_connect 54 = .ok (.iconst 4, 1) := by decide +kernel
theorem dX6_connect_55 : decode cX6_connect 55 = .ok (.if_icmp .lt 13, 3) := by decide +kernel
theorem dX6_connect_58 : decode cX6_connect 58 = .ok (.new 105, 3) := by decide +kernel
theorem dX6_connect_61 : decode cX6_connect 61 = .ok (.dup, 1) := by decide +kernel
theorem dX6_connect_62 : decode cX6_connect 62 = .ok (.ldc 107, 2) := by decide +kernel
theorem dX6_connect_64 : decode cX6_connect 64 = .ok (.invokespecial 109, 3) := by decide +kernel
theorem dX6_connect_67 : decode cX6_connect 67 = .ok (.athrow, 1) := by decide +kernel
theorem dX6_connect_68 : decode cX6_connect 68 = .ok (.aload_n 0, 1) := by decide +kernel
theorem dX6_connect_69 : decode cX6_connect 69 = .ok (.getfield 10, 3) := by decide +kernel
theorem dX6_connect_72 : decode cX6_connect 72 = .ok (.getfield 110, 3) := by decide +kernel
theorem dX6_connect_75 : decode cX6_connect 75 = .ok (.iload_n 2, 1) := by decide +kernel
theorem dX6_connect_76 : decode cX6_connect 76 = .ok (.caload, 1) := by decide +kernel
theorem dX6_connect_77 : decode cX6_connect 77 = .ok (.bipush 118, 2) := by decide +kernel
theorem dX6_connect_79 : decode cX6_connect 79 = .ok (.if_icmp .eq 15, 3) := by decide +kernel
theorem dX6_connect_82 : decode cX6_connect 82 = .ok (.aload_n 0, 1) := by decide +kernel
theorem dX6_connect_83 : decode cX6_connect 83 = .ok (.getfield 10, 3) := by decide +kernel
theorem dX6_connect_86 : decode cX6_connect 86 = .ok (.iload_n 1, 1) := by decide +kernel
theorem dX6_connect_87 : decode cX6_connect 87 = .ok (.iload_n 2, 1) := by decide +kernel
theorem dX6_connect_88 : decode cX6_connect 88 = .ok (.invokevirtual 114, 3) := by decide +kernel
theorem dX6_connect_91 : decode cX6_connect 91 = .ok (.ifCond .eq 13, 3) := by decide +kernel
theorem dX6_connect_94 : decode cX6_connect 94 = .ok (.new 118, 3) := by decide +kernel
theorem dX6_connect_97 : decode cX6_connect 97 = .ok (.dup, 1) := by decide +kernel
theorem dX6_connect_98 : decode cX6_connect 98 = .ok (.ldc 120, 2) := by decide +kernel
theorem dX6_connect_100 : decode cX6_connect 100 = .ok (.invokespecial 122, 3) := by decide +kernel
theorem dX6_connect_103 : decode cX6_connect 103 = .ok (.athrow, 1) := by decide +kernel
theorem dX6_connect_104 : decode cX6_connect 104 = .ok (.aload_n 0, 1) := by decide +kernel
theorem dX6_connect_105 : decode cX6_connect 105 = .ok (.getfield 10, 3) := by decide +kernel
theorem dX6_connect_108 : decode cX6_connect 108 = .ok (.iload_n 1, 1) := by decide +kernel
theorem dX6_connect_109 : decode cX6_connect 109 = .ok (.iload_n 2, 1) := by decide +kernel
theorem dX6_connect_110 : decode cX6_connect 110 = .ok (.iload_n 3, 1) := by decide +kernel
theorem dX6_connect_111 : decode cX6_connect 111 = .ok (.invokevirtual 123, 3) := by decide +kernel
theorem dX6_connect_114 : decode cX6_connect 114 = .ok (.ireturn, 1) := by decide +kernel
theorem dX6_disconnect_0 : decode cX6_disconnect 0 = .ok (.aload_n 0, 1) := by decide +kernel
theorem dX6_disconnect_1 : decode cX6_disconnect 1 = .ok (.iload_n 1, 1) := by decide +kernel
theorem dX6_disconnect_2 : decode cX6_disconnect 2 = .ok (.invokevirtual 87, 3) := by decide +kernel
theorem dX6_disconnect_5 : decode cX6_disconnect 5 = .ok (.aload_n 0, 1) := by decide +kernel
theorem dX6_disconnect_6 : decode cX6_disconnect 6 = .ok (.iload_n 2, 1) := by decide +kernel
theorem dX6_disconnect_7 : decode cX6_disconnect 7 = .ok (.invokevirtual 87, 3) := by decide +kernel
theorem dX6_disconnect_10 : decode cX6_disconnect 10 = .ok (.aload_n 0, 1) := by decide +kernel
theorem dX6_disconnect_11 : decode cX6_disconnect 11 = .ok (.getfield 10, 3) := by decide +kernel
theorem dX6_disconnect_14 : decode cX6_disconnect 14 = .ok (.iload_n 1, 1) := by decide +kernel
theorem dX6_disconnect_15 : decode cX6_disconnect 15 = .ok (.iload_n 2, 1) := by decide +kernel
theorem dX6_disconnect_16 : decode cX6_disconnect 16 = .ok (.invokevirtual 98, 3) := by decide +kernel
theorem dX6_disconnect_19 : decode cX6_disconnect 19 = .ok (.istore_n 3, 1) := by decide +kernel
theorem dX6_disconnect_20 : decode cX6_disconnect 20 = .ok (.iload_n 3, 1) := by decide +kernel
theorem dX6_disconnect_21 : decode cX6_disconnect 21 = .ok (.iconst (-1), 1) := by decide +kernel
theorem dX6_disconnect_22 : decode cX6_disconnect 22 = .ok (.if_icmp .ne 13, 3) := by decide +kernel
theorem dX6_disconnect_25 : decode cX6_disconnect 25 = .ok (.new 127, 3) := by decide +kernel
theorem dX6_disconnect_28 : decode cX6_disconnect 28 = .ok (.dup, 1) := by decide +kernel
theorem dX6_disconnect_29 : decode cX6_disconnect 29 = .ok (.ldc 129, 2) := by decide +kernel
theorem dX6_disconnect_31 : decode cX6_disconnect 31 = .ok (.invokespecial 131, 3) := by decide +kernel
theorem dX6_disconnect_34 : decode cX6_disconnect 34 = .ok (.athrow, 1) := by decide +kernel
theorem dX6_disconnect_35 : decode cX6_disconnect 35 = .ok (.aload_n 0, 1) := by decide +kernel
theorem dX6_disconnect_36 : decode cX6_disconnect 36 = .ok (.getfield 10, 3) := by decide +kernel
theorem dX6_disconnect_39 : decode cX6_disconnect 39 = .ok (.iload_n 2, 1) := by decide +kernel
theorem dX6_disconnect_40 : decode cX6_disconnect 40 = .ok (.iload_n 3, 1) := by decide +kernel
theorem dX6_disconnect_41 : decode cX6_disconnect 41 = .ok (.invokevirtual 132, 3) := by decide +kernel
theorem dX6_disconnect_44 : decode cX6_disconnect 44 = .ok (.ireturn, 1) := by decide +kernel
theorem dX6_setGain_0 : decode cX6_setGain 0 = .ok (.aload_n 0, 1) := by decide +kernel
theorem dX6_setGain_1 : decode cX6_setGain 1 = .ok (.iload_n 1, 1) := by decide +kernel
theorem dX6_setGain_2 : decode cX6_setGain 2 = .ok (.invokevirtual 87, 3) := by decide +kernel
theorem dX6_setGain_5 : decode cX6_setGain 5 = .ok (.aload_n 0, 1) := by decide +kernel
theorem dX6_setGain_6 : decode cX6_setGain 6 = .ok (.getfield 10, 3) := by decide +kernel
theorem dX6_setGain_9 : decode cX6_setGain 9 = .ok (.getfield 110, 3) := by decide +kernel
theorem dX6_setGain_12 : decode cX6_setGain 12 = .ok (.iload_n 1, 1) := by decide +kernel
theorem dX6_setGain_13 : decode cX6_setGain 13 = .ok (.caload, 1) := by decide +kernel
theorem dX6_setGain_14 : decode cX6_setGain 14 = .ok (.bipush 103, 2) := by decide +kernel
theorem dX6_setGain_16 : decode cX6_setGain 16 = .ok (.if_icmp .eq 13, 3) := by decide +kernel
theorem dX6_setGain_19 : decode cX6_setGain 19 = .ok (.new 118, 3) := by decide +kernel
theorem dX6_setGain_22 : decode cX6_setGain 22 = .ok (.dup, 1) := by decide +kernel
theorem dX6_setGain_23 : decode cX6_setGain 23 = .ok (.ldc 135, 2) := by decide +kernel
theorem dX6_setGain_25 : decode cX6_setGain 25 = .ok (.invokespecial 122, 3) := by decide +kernel
theorem dX6_setGain_28 : decode cX6_setGain 28 = .ok (.athrow, 1) := by decide +kernel
theorem dX6_setGain_29 : decode cX6_setGain 29 = .ok (.iload_n 2, 1) := by decide +kernel
theorem dX6_setGain_30 : decode cX6_setGain 30 = .ok (.sipush (-200), 3) := by decide +kernel
theorem dX6_setGain_33 : decode cX6_setGain 33 = .ok (.sipush 200, 3) := by decide +kernel
theorem dX6_setGain_36 : decode cX6_setGain 36 = .ok (.invokestatic 55, 3) := by decide +kernel
theorem dX6_setGain_39 : decode cX6_setGain 39 = .ok (.aload_n 0, 1) := by decide +kernel
theorem dX6_setGain_40 : decode cX6_setGain 40 = .ok (.getfield 10, 3) := by decide +kernel
theorem dX6_setGain_43 : decode cX6_setGain 43 = .ok (.getfield 66, 3) := by decide +kernel
theorem dX6_setGain_46 : decode cX6_setGain 46 = .ok (.iload_n 1, 1) := by decide +kernel
theorem dX6_setGain_47 : decode cX6_setGain 47 = .ok (.iaload, 1) := by decide +kernel
theorem dX6_setGain_48 : decode cX6_setGain 48 = .ok (.istore_n 3, 1) := by decide +kernel
theorem dX6_setGain_49 : decode cX6_setGain 49 = .ok (.aload_n 0, 1) := by decide +kernel
theorem dX6_setGain_50 : decode cX6_setGain 50 = .ok (.getfield 10, 3) := by decide +kernel
theorem dX6_setGain_53 : decode cX6_setGain 53 = .ok (.getfield 66, 3) := by decide +kernel
theorem dX6_setGain_56 : decode cX6_setGain 56 = .ok (.iload_n 1, 1) := by decide +kernel
theorem dX6_setGain_57 : decode cX6_setGain 57 = .ok (.iload_n 2, 1) := by decide +kernel
theorem dX6_setGain_58 : decode cX6_setGain 58 = .ok (.iastore, 1) := by decide +kernel
theorem dX6_setGain_59 : decode cX6_setGain 59 = .ok (.iload_n 3, 1) := by decide +kernel
theorem dX6_setGain_60 : decode cX6_setGain 60 = .ok (.ireturn, 1) := by decide +kernel
theorem dX6_setOutput_0 : decode cX6_setOutput 0 = .ok (.aload_n 0, 1) := by decide +kernel
theorem dX6_setOutput_1 : decode cX6_setOutput 1 = .ok (.iload_n 1, 1) := by decide +kernel
theorem dX6_setOutput_2 : decode cX6_setOutput 2 = .ok (.invokevirtual 87, 3) := by decide +kernel
theorem dX6_setOutput_5 : decode cX6_setOutput 5 = .ok (.aload_n 0, 1) := by decide +kernel
theorem dX6_setOutput_6 : decode cX6_setOutput 6 = .ok (.getfield 10, 3) := by decide +kernel
theorem dX6_setOutput_9 : decode cX6_setOutput 9 = .ok (.getfield 137, 3) := by decide +kernel
theorem dX6_setOutput_12 : decode cX6_setOutput 12 = .ok (.istore_n 2, 1) := by decide +kernel
theorem dX6_setOutput_13 : decode cX6_setOutput 13 = .ok (.aload_n 0, 1) := by decide +kernel
theorem dX6_setOutput_14 : decode cX6_setOutput 14 = .ok (.getfield 10, 3) := by decide +kernel
theorem dX6_setOutput_17 : decode cX6_setOutput 17 = .ok (.iload_n 1, 1) := by decide +kernel
theorem dX6_setOutput_18 : decode cX6_setOutput 18 = .ok (.putfield 137, 3) := by decide +kernel
theorem dX6_setOutput_21 : decode cX6_setOutput 21 = .ok (.iload_n 2, 1) := by decide +kernel
theorem dX6_setOutput_22 : decode cX6_setOutput 22 = .ok (.ireturn, 1) := by decide +kernel
theorem dX6_nodes_0 : decode cX6_nodes 0 = .ok (.aload_n 0, 1) := by decide +kernel
theorem dX6_nodes_1 : decode cX6_nodes 1 = .ok (.getfield 10, 3) := by decide +kernel
theorem dX6_nodes_4 : decode cX6_nodes 4 = .ok (.getfield 141, 3) := by decide +kernel
theorem dX6_nodes_7 : decode cX6_nodes 7 = .ok (.ireturn, 1) := by decide +kernel
theorem dX6_kindOf_0 : decode cX6_kindOf 0 = .ok (.aload_n 0, 1) := by decide +kernel
theorem dX6_kindOf_1 : decode cX6_kindOf 1 = .ok (.iload_n 1, 1) := by decide +kernel
theorem dX6_kindOf_2 : decode cX6_kindOf 2 = .ok (.invokevirtual 87, 3) := by decide +kernel
theorem dX6_kindOf_5 : decode cX6_kindOf 5 = .ok (.aload_n 0, 1) := by decide +kernel
theorem dX6_kindOf_6 : decode cX6_kindOf 6 = .ok (.getfield 10, 3) := by decide +kernel
theorem dX6_kindOf_9 : decode cX6_kindOf 9 = .ok (.getfield 110, 3) := by decide +kernel
theorem dX6_kindOf_12 : decode cX6_kindOf 12 = .ok (.iload_n 1, 1) := by decide +kernel
theorem dX6_kindOf_13 : decode cX6_kindOf 13 = .ok (.caload, 1) := by decide +kernel
theorem dX6_kindOf_14 : decode cX6_kindOf 14 = .ok (.ireturn, 1) := by decide +kernel
theorem dX6_wires_0 : decode cX6_wires 0 = .ok (.aload_n 0, 1) := by decide +kernel
theorem dX6_wires_1 : decode cX6_wires 1 = .ok (.iload_n 1, 1) := by decide +kernel
theorem dX6_wires_2 : decode cX6_wires 2 = .ok (.invokevirtual 87, 3) := by decide +kernel
theorem dX6_wires_5 : decode cX6_wires 5 = .ok (.aload_n 0, 1) := by decide +kernel
theorem dX6_wires_6 : decode cX6_wires 6 = .ok (.getfield 10, 3) := by decide +kernel
theorem dX6_wires_9 : decode cX6_wires 9 = .ok (.getfield 102, 3) := by decide +kernel
theorem dX6_wires_12 : decode cX6_wires 12 = .ok (.iload_n 1, 1) := by decide +kernel
theorem dX6_wires_13 : decode cX6_wires 13 = .ok (.iaload, 1) := by decide +kernel
theorem dX6_wires_14 : decode cX6_wires 14 = .ok (.ireturn, 1) := by decide +kernel
theorem dX6_wireFrom_0 : decode cX6_wireFrom 0 = .ok (.aload_n 0, 1) := by decide +kernel
theorem dX6_wireFrom_1 : decode cX6_wireFrom 1 = .ok (.iload_n 1, 1) := by decide +kernel
theorem dX6_wireFrom_2 : decode cX6_wireFrom 2 = .ok (.invokevirtual 87, 3) := by decide +kernel
theorem dX6_wireFrom_5 : decode cX6_wireFrom 5 = .ok (.aload_n 0, 1) := by decide +kernel
theorem dX6_wireFrom_6 : decode cX6_wireFrom 6 = .ok (.iload_n 1, 1) := by decide +kernel
theorem dX6_wireFrom_7 : decode cX6_wireFrom 7 = .ok (.iload_n 2, 1) := by decide +kernel
theorem dX6_wireFrom_8 : decode cX6_wireFrom 8 = .ok (.invokevirtual 144, 3) := by decide +kernel
theorem dX6_wireFrom_11 : decode cX6_wireFrom 11 = .ok (.aload_n 0, 1) := by decide +kernel
theorem dX6_wireFrom_12 : decode cX6_wireFrom 12 = .ok (.getfield 10, 3) := by decide +kernel
theorem dX6_wireFrom_15 : decode cX6_wireFrom 15 = .ok (.getfield 148, 3) := by decide +kernel
theorem dX6_wireFrom_18 : decode cX6_wireFrom 18 = .ok (.iload_n 1, 1) := by decide +kernel
theorem dX6_wireFrom_19 : decode cX6_wireFrom 19 = .ok (.aaload, 1) := by decide +kernel
theorem dX6_wireFrom_20 : decode cX6_wireFrom 20 = .ok (.iload_n 2, 1) := by decide +kernel
theorem dX6_wireFrom_21 : decode cX6_wireFrom 21 = .ok (.iaload, 1) := by decide +kernel
theorem dX6_wireFrom_22 : decode cX6_wireFrom 22 = .ok (.ireturn, 1) := by decide +kernel
theorem dX6_wirePercent_0 : decode cX6_wirePercent 0 = .ok (.aload_n 0, 1) := by decide +kernel
theorem dX6_wirePercent_1 : decode cX6_wirePercent 1 = .ok (.iload_n 1, 1) := by decide +kernel
theorem dX6_wirePercent_2 : decode cX6_wirePercent 2 = .ok (.invokevirtual 87, 3) := by decide +kernel
theorem dX6_wirePercent_5 : decode cX6_wirePercent 5 = .ok (.aload_n 0, 1) := by decide +kernel
theorem dX6_wirePercent_6 : decode cX6_wirePercent 6 = .ok (.iload_n 1, 1) := by decide +kernel
theorem dX6_wirePercent_7 : decode cX6_wirePercent 7 = .ok (.iload_n 2, 1) := by decide +kernel
theorem dX6_wirePercent_8 : decode cX6_wirePercent 8 = .ok (.invokevirtual 144, 3) := by decide +kernel
theorem dX6_wirePercent_11 : decode cX6_wirePercent 11 = .ok (.aload_n 0, 1) := by decide +kernel
theorem dX6_wirePercent_12 : decode cX6_wirePercent 12 = .ok (.getfield 10, 3) := by decide +kernel
theorem dX6_wirePercent_15 : decode cX6_wirePercent 15 = .ok (.getfield 152, 3) := by decide +kernel
theorem dX6_wirePercent_18 : decode cX6_wirePercent 18 = .ok (.iload_n 1, 1) := by decide +kernel
theorem dX6_wirePercent_19 : decode cX6_wirePercent 19 = .ok (.aaload, 1) := by decide +kernel
theorem dX6_wirePercent_20 : decode cX6_wirePercent 20 = .ok (.iload_n 2, 1) := by decide +kernel
theorem dX6_wirePercent_21 : decode cX6_wirePercent 21 = .ok (.iaload, 1) := by decide +kernel
theorem dX6_wirePercent_22 : decode cX6_wirePercent 22 = .ok (.ireturn, 1) := by decide +kernel
theorem dX6_nodeAt_0 : decode cX6_nodeAt 0 = .ok (.aload_n 0, 1) := by decide +kernel
theorem dX6_nodeAt_1 : decode cX6_nodeAt 1 = .ok (.iload_n 1, 1) := by decide +kernel
theorem dX6_nodeAt_2 : decode cX6_nodeAt 2 = .ok (.invokevirtual 87, 3) := by decide +kernel
theorem dX6_nodeAt_5 : decode cX6_nodeAt 5 = .ok (.aload_n 0, 1) := by decide +kernel
theorem dX6_nodeAt_6 : decode cX6_nodeAt 6 = .ok (.getfield 10, 3) := by decide +kernel
theorem dX6_nodeAt_9 : decode cX6_nodeAt 9 = .ok (.getfield 155, 3) := by decide +kernel
theorem dX6_nodeAt_12 : decode cX6_nodeAt 12 = .ok (.iload_n 1, 1) := by decide +kernel
theorem dX6_nodeAt_13 : decode cX6_nodeAt 13 = .ok (.iaload, 1) := by decide +kernel
theorem dX6_nodeAt_14 : decode cX6_nodeAt 14 = .ok (.ireturn, 1) := by decide +kernel
theorem dX6_longestBlock_0 : decode cX6_longestBlock 0 = .ok (.aload_n 0, 1) := by decide +kernel
theorem dX6_longestBlock_1 : decode cX6_longestBlock 1 = .ok (.getfield 10, 3) := by decide +kernel
theorem dX6_longestBlock_4 : decode cX6_longestBlock 4 = .ok (.invokevirtual 158, 3) := by decide +kernel
theorem dX6_longestBlock_7 : decode cX6_longestBlock 7 = .ok (.ireturn, 1) := by decide +kernel
theorem dX6_setWave_0 : decode cX6_setWave 0 = .ok (.iload_n 1, 1) := by decide +kernel
theorem dX6_setWave_1 : decode cX6_setWave 1 = .ok (.bipush 115, 2) := by decide +kernel
theorem dX6_setWave_3 : decode cX6_setWave 3 = .ok (.if_icmp .eq 25, 3) := by decide +kernel
theorem dX6_setWave_6 : decode cX6_setWave 6 = .ok (.iload_n 1, 1) := by decide +kernel
theorem dX6_setWave_7 : decode cX6_setWave 7 = .ok (.bipush 113, 2) := by decide +kernel
theorem dX6_setWave_9 : decode cX6_setWave 9 = .ok (.if_icmp .eq 19, 3) := by decide +kernel
theorem dX6_setWave_12 : decode cX6_setWave 12 = .ok (.iload_n 1, 1) := by decide +kernel
theorem dX6_setWave_13 : decode cX6_setWave 13 = .ok (.bipush 116, 2) := by decide +kernel
theorem dX6_setWave_15 : decode cX6_setWave 15 = .ok (.if_icmp .eq 13, 3) := by decide +kernel
theorem dX6_setWave_18 : decode cX6_setWave 18 = .ok (.new 91, 3) := by decide +kernel
theorem dX6_setWave_21 : decode cX6_setWave 21 = .ok (.dup, 1) := by decide +kernel
theorem dX6_setWave_22 : decode cX6_setWave 22 = .ok (.ldc 162, 2) := by decide +kernel
theorem dX6_setWave_24 : decode cX6_setWave 24 = .ok (.invokespecial 95, 3) := by decide +kernel
theorem dX6_setWave_27 : decode cX6_setWave 27 = .ok (.athrow, 1) := by decide +kernel
theorem dX6_setWave_28 : decode cX6_setWave 28 = .ok (.aload_n 0, 1) := by decide +kernel
theorem dX6_setWave_29 : decode cX6_setWave 29 = .ok (.getfield 42, 3) := by decide +kernel
theorem dX6_setWave_32 : decode cX6_setWave 32 = .ok (.istore_n 2, 1) := by decide +kernel
theorem dX6_setWave_33 : decode cX6_setWave 33 = .ok (.aload_n 0, 1) := by decide +kernel
theorem dX6_setWave_34 : decode cX6_setWave 34 = .ok (.iload_n 1, 1) := by decide +kernel
theorem dX6_setWave_35 : decode cX6_setWave 35 = .ok (.putfield 42, 3) := by decide +kernel
theorem dX6_setWave_38 : decode cX6_setWave 38 = .ok (.iload_n 2, 1) := by decide +kernel
theorem dX6_setWave_39 : decode cX6_setWave 39 = .ok (.ireturn, 1) := by decide +kernel
theorem dX6_setEnvelope_0 : decode cX6_setEnvelope 0 = .ok (.iload_n 1, 1) := by decide +kernel
theorem dX6_setEnvelope_1 : decode cX6_setEnvelope 1 = .ok (.iconst 0, 1) := by decide +kernel
theorem dX6_setEnvelope_2 : decode cX6_setEnvelope 2 = .ok (.sipush 200, 3) := by decide +kernel
theorem dX6_setEnvelope_5 : decode cX6_setEnvelope 5 = .ok (.invokestatic 55, 3) := by decide +kernel
theorem dX6_setEnvelope_8 : decode cX6_setEnvelope 8 = .ok (.iload_n 2, 1) := by decide +kernel
theorem dX6_setEnvelope_9 : decode cX6_setEnvelope 9 = .ok (.iconst 0, 1) := by decide +kernel
theorem dX6_setEnvelope_10 : decode cX6_setEnvelope 10 = .ok (.sipush 200, 3) := by decide +kernel
theorem dX6_setEnvelope_13 : decode cX6_setEnvelope 13 = .ok (.invokestatic 55, 3) := by decide +kernel
theorem dX6_setEnvelope_16 : decode cX6_setEnvelope 16 = .ok (.iload_n 3, 1) := by decide +kernel
theorem dX6_setEnvelope_17 : decode cX6_setEnvelope 17 = .ok (.iconst 0, 1) := by decide +kernel
theorem dX6_setEnvelope_18 : decode cX6_setEnvelope 18 = .ok (.sipush 1000, 3) := by decide +kernel
theorem dX6_setEnvelope_21 : decode cX6_setEnvelope 21 = .ok (.invokestatic 55, 3) := by decide +kernel
theorem dX6_setEnvelope_24 : decode cX6_setEnvelope 24 = .ok (.iload 4, 2) := by decide +kernel
theorem dX6_setEnvelope_26 : decode cX6_setEnvelope 26 = .ok (.iconst 0, 1) := by decide +kernel
theorem dX6_setEnvelope_27 : decode cX6_setEnvelope 27 = .ok (.sipush 200, 3) := by decide +kernel
theorem dX6_setEnvelope_30 : decode cX6_setEnvelope 30 = .ok (.invokestatic 55, 3) := by decide +kernel
theorem dX6_setEnvelope_33 : decode cX6_setEnvelope 33 = .ok (.aload_n 0, 1) := by decide +kernel
theorem dX6_setEnvelope_34 : decode cX6_setEnvelope 34 = .ok (.getfield 51, 3) := by decide +kernel
theorem dX6_setEnvelope_37 : decode cX6_setEnvelope 37 = .ok (.getfield 164, 3) := by decide +kernel
theorem dX6_setEnvelope_40 : decode cX6_setEnvelope 40 = .ok (.istore 5, 2) := by decide +kernel
theorem dX6_setEnvelope_42 : decode cX6_setEnvelope 42 = .ok (.aload_n 0, 1) := by decide +kernel
theorem dX6_setEnvelope_43 : decode cX6_setEnvelope 43 = .ok (.new 46, 3) := by decide +kernel
theorem dX6_setEnvelope_46 : decode cX6_setEnvelope 46 = .ok (.dup, 1) := by decide +kernel
theorem dX6_setEnvelope_47 : decode cX6_setEnvelope 47 = .ok (.iload_n 1, 1) := by decide +kernel
theorem dX6_setEnvelope_48 : decode cX6_setEnvelope 48 = .ok (.iload_n 2, 1) := by decide +kernel
theorem dX6_setEnvelope_49 : decode cX6_setEnvelope 49 = .ok (.iload_n 3, 1) := by decide +kernel
theorem dX6_setEnvelope_50 : decode cX6_setEnvelope 50 = .ok (.iload 4, 2) := by decide +kernel
theorem dX6_setEnvelope_52 : decode cX6_setEnvelope 52 = .ok (.invokespecial 48, 3) := by decide +kernel
theorem dX6_setEnvelope_55 : decode cX6_setEnvelope 55 = .ok (.putfield 51, 3) := by decide +kernel
theorem dX6_setEnvelope_58 : decode cX6_setEnvelope 58 = .ok (.iload 5, 2) := by decide +kernel
theorem dX6_setEnvelope_60 : decode cX6_setEnvelope 60 = .ok (.ireturn, 1) := by decide +kernel
theorem dX6_begin_0 : decode cX6_begin 0 = .ok (.iload_n 1, 1) := by decide +kernel
theorem dX6_begin_1 : decode cX6_begin 1 = .ok (.invokestatic 167, 3) := by decide +kernel
theorem dX6_begin_4 : decode cX6_begin 4 = .ok (.iload_n 2, 1) := by decide +kernel
theorem dX6_begin_5 : decode cX6_begin 5 = .ok (.iconst 1, 1) := by decide +kernel
theorem dX6_begin_6 : decode cX6_begin 6 = .ok (.bipush 100, 2) := by decide +kernel
theorem dX6_begin_8 : decode cX6_begin 8 = .ok (.invokestatic 55, 3) := by decide +kernel
theorem dX6_begin_11 : decode cX6_begin 11 = .ok (.aload_n 0, 1) := by decide +kernel
theorem dX6_begin_12 : decode cX6_begin 12 = .ok (.getfield 21, 3) := by decide +kernel
theorem dX6_begin_15 : decode cX6_begin 15 = .ok (.getfield 170, 3) := by decide +kernel
theorem dX6_begin_18 : decode cX6_begin 18 = .ok (.iload_n 1, 1) := by decide +kernel
theorem dX6_begin_19 : decode cX6_begin 19 = .ok (.iload_n 2, 1) := by decide +kernel
theorem dX6_begin_20 : decode cX6_begin 20 = .ok (.aload_n 0, 1) := by decide +kernel
theorem dX6_begin_21 : decode cX6_begin 21 = .ok (.getfield 42, 3) := by decide +kernel
theorem dX6_begin_24 : decode cX6_begin 24 = .ok (.aload_n 0, 1) := by decide +kernel
theorem dX6_begin_25 : decode cX6_begin 25 = .ok (.getfield 51, 3) := by decide +kernel
theorem dX6_begin_28 : decode cX6_begin 28 = .ok (.invokevirtual 174, 3) := by decide +kernel
theorem dX6_begin_31 : decode cX6_begin 31 = .ok (.ireturn, 1) := by decide +kernel
theorem dX6_end_0 : decode cX6_end 0 = .ok (.iload_n 1, 1) := by decide +kernel
theorem dX6_end_1 : decode cX6_end 1 = .ok (.invokestatic 167, 3) := by decide +kernel
theorem dX6_end_4 : decode cX6_end 4 = .ok (.aload_n 0, 1) := by decide +kernel
theorem dX6_end_5 : decode cX6_end 5 = .ok (.getfield 21, 3) := by decide +kernel
theorem dX6_end_8 : decode cX6_end 8 = .ok (.getfield 170, 3) := by decide +kernel
theorem dX6_end_11 : decode cX6_end 11 = .ok (.iload_n 1, 1) := by decide +kernel
theorem dX6_end_12 : decode cX6_end 12 = .ok (.invokevirtual 180, 3) := by decide +kernel
theorem dX6_end_15 : decode cX6_end 15 = .ok (.istore_n 2, 1) := by decide +kernel
theorem dX6_end_16 : decode cX6_end 16 = .ok (.iload_n 2, 1) := by decide +kernel
theorem dX6_end_17 : decode cX6_end 17 = .ok (.iconst (-1), 1) := by decide +kernel
theorem dX6_end_18 : decode cX6_end 18 = .ok (.if_icmp .ne 13, 3) := by decide +kernel
theorem dX6_end_21 : decode cX6_end 21 = .ok (.new 127, 3) := by decide +kernel
theorem dX6_end_24 : decode cX6_end 24 = .ok (.dup, 1) := by decide +kernel
theorem dX6_end_25 : decode cX6_end 25 = .ok (.ldc 184, 2) := by decide +kernel
theorem dX6_end_27 : decode cX6_end 27 = .ok (.invokespecial 131, 3) := by decide +kernel
theorem dX6_end_30 : decode cX6_end 30 = .ok (.athrow, 1) := by decide +kernel
theorem dX6_end_31 : decode cX6_end 31 = .ok (.aload_n 0, 1) := by decide +kernel
theorem dX6_end_32 : decode cX6_end 32 = .ok (.getfield 21, 3) := by decide +kernel
theorem dX6_end_35 : decode cX6_end 35 = .ok (.getfield 170, 3) := by decide +kernel
theorem dX6_end_38 : decode cX6_end 38 = .ok (.iload_n 2, 1) := by decide +kernel
theorem dX6_end_39 : decode cX6_end 39 = .ok (.invokevirtual 186, 3) := by decide +kernel
theorem dX6_end_42 : decode cX6_end 42 = .ok (.iload_n 2, 1) := by decide +kernel
theorem dX6_end_43 : decode cX6_end 43 = .ok (.ireturn, 1) := by decide +kernel
theorem dX6_endAll_0 : decode cX6_endAll 0 = .ok (.aload_n 0, 1) := by decide +kernel
theorem dX6_endAll_1 : decode cX6_endAll 1 = .ok (.getfield 21, 3) := by decide +kernel
theorem dX6_endAll_4 : decode cX6_endAll 4 = .ok (.getfield 170, 3) := by decide +kernel
theorem dX6_endAll_7 : decode cX6_endAll 7 = .ok (.invokevirtual 189, 3) := by decide +kernel
theorem dX6_endAll_10 : decode cX6_endAll 10 = .ok (.ireturn, 1) := by decide +kernel
theorem dX6_sounding_0 : decode cX6_sounding 0 = .ok (.aload_n 0, 1) := by decide +kernel
theorem dX6_sounding_1 : decode cX6_sounding 1 = .ok (.getfield 21, 3) := by decide +kernel
theorem dX6_sounding_4 : decode cX6_sounding 4 = .ok (.getfield 170, 3) := by decide +kernel
theorem dX6_sounding_7 : decode cX6_sounding 7 = .ok (.invokevirtual 192, 3) := by decide +kernel
theorem dX6_sounding_10 : decode cX6_sounding 10 = .ok (.ireturn, 1) := by decide +kernel
theorem dX6_stateOf_0 : decode cX6_stateOf 0 = .ok (.iload_n 1, 1) := by decide +kernel
theorem dX6_stateOf_1 : decode cX6_stateOf 1 = .ok (.invokestatic 195, 3) := by decide +kernel
theorem dX6_stateOf_4 : decode cX6_stateOf 4 = .ok (.aload_n 0, 1) := by decide +kernel
theorem dX6_stateOf_5 : decode cX6_stateOf 5 = .ok (.getfield 21, 3) := by decide +kernel
theorem dX6_stateOf_8 : decode cX6_stateOf 8 = .ok (.getfield 170, 3) := by decide +kernel
theorem dX6_stateOf_11 : decode cX6_stateOf 11 = .ok (.getfield 198, 3) := by decide +kernel
theorem dX6_stateOf_14 : decode cX6_stateOf 14 = .ok (.iload_n 1, 1) := by decide +kernel
theorem dX6_stateOf_15 : decode cX6_stateOf 15 = .ok (.aaload, 1) := by decide +kernel
theorem dX6_stateOf_16 : decode cX6_stateOf 16 = .ok (.invokevirtual 202, 3) := by decide +kernel
theorem dX6_stateOf_19 : decode cX6_stateOf 19 = .ok (.ireturn, 1) := by decide +kernel
theorem dX6_keyOf_0 : decode cX6_keyOf 0 = .ok (.iload_n 1, 1) := by decide +kernel
theorem dX6_keyOf_1 : decode cX6_keyOf 1 = .ok (.invokestatic 195, 3) := by decide +kernel
theorem dX6_keyOf_4 : decode cX6_keyOf 4 = .ok (.aload_n 0, 1) := by decide +kernel
theorem dX6_keyOf_5 : decode cX6_keyOf 5 = .ok (.iload_n 1, 1) := by decide +kernel
theorem dX6_keyOf_6 : decode cX6_keyOf 6 = .ok (.invokevirtual 208, 3) := by decide +kernel
theorem dX6_keyOf_9 : decode cX6_keyOf 9 = .ok (.aload_n 0, 1) := by decide +kernel
theorem dX6_keyOf_10 : decode cX6_keyOf 10 = .ok (.getfield 21, 3) := by decide +kernel
theorem dX6_keyOf_13 : decode cX6_keyOf 13 = .ok (.getfield 170, 3) := by decide +kernel
theorem dX6_keyOf_16 : decode cX6_keyOf 16 = .ok (.getfield 198, 3) := by decide +kernel
theorem dX6_keyOf_19 : decode cX6_keyOf 19 = .ok (.iload_n 1, 1) := by decide +kernel
theorem dX6_keyOf_20 : decode cX6_keyOf 20 = .ok (.aaload, 1) := by decide +kernel
theorem dX6_keyOf_21 : decode cX6_keyOf 21 = .ok (.getfield 211, 3) := by decide +kernel
theorem dX6_keyOf_24 : decode cX6_keyOf 24 = .ok (.ireturn, 1) := by decide +kernel
theorem dX6_levelOf_0 : decode cX6_levelOf 0 = .ok (.iload_n 1, 1) := by decide +kernel
theorem dX6_levelOf_1 : decode cX6_levelOf 1 = .ok (.invokestatic 195, 3) := by decide +kernel
theorem dX6_levelOf_4 : decode cX6_levelOf 4 = .ok (.aload_n 0, 1) := by decide +kernel
theorem dX6_levelOf_5 : decode cX6_levelOf 5 = .ok (.getfield 21, 3) := by decide +kernel
theorem dX6_levelOf_8 : decode cX6_levelOf 8 = .ok (.getfield 170, 3) := by decide +kernel
theorem dX6_levelOf_11 : decode cX6_levelOf 11 = .ok (.getfield 198, 3) := by decide +kernel
theorem dX6_levelOf_14 : decode cX6_levelOf 14 = .ok (.iload_n 1, 1) := by decide +kernel
theorem dX6_levelOf_15 : decode cX6_levelOf 15 = .ok (.aaload, 1) := by decide +kernel
theorem dX6_levelOf_16 : decode cX6_levelOf 16 = .ok (.invokevirtual 214, 3) := by decide +kernel
theorem dX6_levelOf_19 : decode cX6_levelOf 19 = .ok (.ireturn, 1) := by decide +kernel
theorem dX6_phaseOf_0 : decode cX6_phaseOf 0 = .ok (.iload_n 1, 1) := by decide +kernel
theorem dX6_phaseOf_1 : decode cX6_phaseOf 1 = .ok (.invokestatic 195, 3) := by decide +kernel
theorem dX6_phaseOf_4 : decode cX6_phaseOf 4 = .ok (.aload_n 0, 1) := by decide +kernel
theorem dX6_phaseOf_5 : decode cX6_phaseOf 5 = .ok (.iload_n 1, 1) := by decide +kernel
theorem dX6_phaseOf_6 : decode cX6_phaseOf 6 = .ok (.invokevirtual 208, 3) := by decide +kernel
theorem dX6_phaseOf_9 : decode cX6_phaseOf 9 = .ok (.aload_n 0, 1) := by decide +kernel
theorem dX6_phaseOf_10 : decode cX6_phaseOf 10 = .ok (.getfield 21, 3) := by decide +kernel
theorem dX6_phaseOf_13 : decode cX6_phaseOf 13 = .ok (.getfield 170, 3) := by decide +kernel
theorem dX6_phaseOf_16 : decode cX6_phaseOf 16 = .ok (.getfield 198, 3) := by decide +kernel
theorem dX6_phaseOf_19 : decode cX6_phaseOf 19 = .ok (.iload_n 1, 1) := by decide +kernel
theorem dX6_phaseOf_20 : decode cX6_phaseOf 20 = .ok (.aaload, 1) := by decide +kernel
theorem dX6_phaseOf_21 : decode cX6_phaseOf 21 = .ok (.getfield 217, 3) := by decide +kernel
theorem dX6_phaseOf_24 : decode cX6_phaseOf 24 = .ok (.ireturn, 1) := by decide +kernel
theorem dX6_stolen_0 : decode cX6_stolen 0 = .ok (.aload_n 0, 1) := by decide +kernel
theorem dX6_stolen_1 : decode cX6_stolen 1 = .ok (.getfield 21, 3) := by decide +kernel
theorem dX6_stolen_4 : decode cX6_stolen 4 = .ok (.getfield 170, 3) := by decide +kernel
theorem dX6_stolen_7 : decode cX6_stolen 7 = .ok (.getfield 220, 3) := by decide +kernel
theorem dX6_stolen_10 : decode cX6_stolen 10 = .ok (.ireturn, 1) := by decide +kernel
theorem dX6_play_0 : decode cX6_play 0 = .ok (.iload_n 1, 1) := by decide +kernel
theorem dX6_play_1 : decode cX6_play 1 = .ok (.iconst 1, 1) := by decide +kernel
theorem dX6_play_2 : decode cX6_play 2 = .ok (.bipush 64, 2) := by decide +kernel
theorem dX6_play_4 : decode cX6_play 4 = .ok (.invokestatic 55, 3) := by decide +kernel
theorem dX6_play_7 : decode cX6_play 7 = .ok (.aload_n 0, 1) := by decide +kernel
theorem dX6_play_8 : decode cX6_play 8 = .ok (.iload_n 1, 1) := by decide +kernel
theorem dX6_play_9 : decode cX6_play 9 = .ok (.bipush 64, 2) := by decide +kernel
theorem dX6_play_11 : decode cX6_play 11 = .ok (.invokevirtual 223, 3) := by decide +kernel
theorem dX6_play_14 : decode cX6_play 14 = .ok (.ireturn, 1) := by decide +kernel
theorem dX6_step_0 : decode cX6_step 0 = .ok (.aload_n 0, 1) := by decide +kernel
theorem dX6_step_1 : decode cX6_step 1 = .ok (.iconst 1, 1) := by decide +kernel
theorem dX6_step_2 : decode cX6_step 2 = .ok (.iconst 1, 1) := by decide +kernel
theorem dX6_step_3 : decode cX6_step 3 = .ok (.invokevirtual 223, 3) := by decide +kernel
theorem dX6_step_6 : decode cX6_step 6 = .ok (.ireturn, 1) := by decide +kernel
theorem dX6_ahead_0 : decode cX6_ahead 0 = .ok (.iload_n 1, 1) := by decide +kernel
theorem dX6_ahead_1 : decode cX6_ahead 1 = .ok (.iconst 1, 1) := by decide +kernel
theorem dX6_ahead_2 : decode cX6_ahead 2 = .ok (.bipush 40, 2) := by decide +kernel
theorem dX6_ahead_4 : decode cX6_ahead 4 = .ok (.invokestatic 55, 3) := by decide +kernel
theorem dX6_ahead_7 : decode cX6_ahead 7 = .ok (.aload_n 0, 1) := by decide +kernel
theorem dX6_ahead_8 : decode cX6_ahead 8 = .ok (.iload_n 1, 1) := by decide +kernel
theorem dX6_ahead_9 : decode cX6_ahead 9 = .ok (.iconst 1, 1) := by decide +kernel
theorem dX6_ahead_10 : decode cX6_ahead 10 = .ok (.aload_n 0, 1) := by decide +kernel
theorem dX6_ahead_11 : decode cX6_ahead 11 = .ok (.getfield 35, 3) := by decide +kernel
theorem dX6_ahead_14 : decode cX6_ahead 14 = .ok (.invokevirtual 226, 3) := by decide +kernel
theorem dX6_ahead_17 : decode cX6_ahead 17 = .ok (.aload_n 0, 1) := by decide +kernel
theorem dX6_ahead_18 : decode cX6_ahead 18 = .ok (.getfield 35, 3) := by decide +kernel
theorem dX6_ahead_21 : decode cX6_ahead 21 = .ok (.iload_n 1, 1) := by decide +kernel
theorem dX6_ahead_22 : decode cX6_ahead 22 = .ok (.iconst 1, 1) := by decide +kernel
theorem dX6_ahead_23 : decode cX6_ahead 23 = .ok (.isub, 1) := by decide +kernel
theorem dX6_ahead_24 : decode cX6_ahead 24 = .ok (.iaload, 1) := by decide +kernel
theorem dX6_ahead_25 : decode cX6_ahead 25 = .ok (.ireturn, 1) := by decide +kernel
theorem dX6_aheadByBlocks_0 : decode cX6_aheadByBlocks 0 = .ok (.iload_n 1, 1) := by decide +kernel
theorem dX6_aheadByBlocks_1 : decode cX6_aheadByBlocks 1 = .ok (.iconst 1, 1) := by decide +kernel
theorem dX6_aheadByBlocks_2 : decode cX6_aheadByBlocks 2 = .ok (.bipush 40, 2) := by decide +kernel
theorem dX6_aheadByBlocks_4 : decode cX6_aheadByBlocks 4 = .ok (.invokestatic 55, 3) := by decide +kernel
theorem dX6_aheadByBlocks_7 : decode cX6_aheadByBlocks 7 = .ok (.iload_n 2, 1) := by decide +kernel
theorem dX6_aheadByBlocks_8 : decode cX6_aheadByBlocks 8 = .ok (.iconst 1, 1) := by decide +kernel
theorem dX6_aheadByBlocks_9 : decode cX6_aheadByBlocks 9 = .ok (.bipush 64, 2) := by decide +kernel
theorem dX6_aheadByBlocks_11 : decode cX6_aheadByBlocks 11 = .ok (.invokestatic 55, 3) := by decide +kernel
theorem dX6_aheadByBlocks_14 : decode cX6_aheadByBlocks 14 = .ok (.aload_n 0, 1) := by decide +kernel
theorem dX6_aheadByBlocks_15 : decode cX6_aheadByBlocks 15 = .ok (.iload_n 1, 1) := by decide +kernel
theorem dX6_aheadByBlocks_16 : decode cX6_aheadByBlocks 16 = .ok (.iload_n 2, 1) := by decide +kernel
theorem dX6_aheadByBlocks_17 : decode cX6_aheadByBlocks 17 = .ok (.aload_n 0, 1) := by decide +kernel
theorem dX6_aheadByBlocks_18 : decode cX6_aheadByBlocks 18 = .ok (.getfield 39, 3) := by decide +kernel
theorem dX6_aheadByBlocks_21 : decode cX6_aheadByBlocks 21 = .ok (.invokevirtual 226, 3) := by decide +kernel
theorem dX6_aheadByBlocks_24 : decode cX6_aheadByBlocks 24 = .ok (.aload_n 0, 1) := by decide +kernel
theorem dX6_aheadByBlocks_25 : decode cX6_aheadByBlocks 25 = .ok (.getfield 39, 3) := by decide +kernel
theorem dX6_aheadByBlocks_28 : decode cX6_aheadByBlocks 28 = .ok (.iload_n 1, 1) := by decide +kernel
theorem dX6_aheadByBlocks_29 : decode cX6_aheadByBlocks 29 = .ok (.iconst 1, 1) := by decide +kernel
theorem dX6_aheadByBlocks_30 : decode cX6_aheadByBlocks 30 = .ok (.isub, 1) := by decide +kernel
theorem dX6_aheadByBlocks_31 : decode cX6_aheadByBlocks 31 = .ok (.iaload, 1) := by decide +kernel
theorem dX6_aheadByBlocks_32 : decode cX6_aheadByBlocks 32 = .ok (.ireturn, 1) := by decide +kernel
theorem dX6_heard_0 : decode cX6_heard 0 = .ok (.iload_n 1, 1) := by decide +kernel
theorem dX6_heard_1 : decode cX6_heard 1 = .ok (.iconst 0, 1) := by decide +kernel
theorem dX6_heard_2 : decode cX6_heard 2 = .ok (.bipush 63, 2) := by decide +kernel
theorem dX6_heard_4 : decode cX6_heard 4 = .ok (.invokestatic 55, 3) := by decide +kernel
theorem dX6_heard_7 : decode cX6_heard 7 = .ok (.iload_n 1, 1) := by decide +kernel
theorem dX6_heard_8 : decode cX6_heard 8 = .ok (.aload_n 0, 1) := by decide +kernel
theorem dX6_heard_9 : decode cX6_heard 9 = .ok (.getfield 31, 3) := by decide +kernel
theorem dX6_heard_12 : decode cX6_heard 12 = .ok (.getfield 230, 3) := by decide +kernel
theorem dX6_heard_15 : decode cX6_heard 15 = .ok (.if_icmp .lt 13, 3) := by decide +kernel
theorem dX6_heard_18 : decode cX6_heard 18 = .ok (.new 127, 3) := by decide +kernel
theorem dX6_heard_21 : decode cX6_heard 21 = .ok (.dup, 1) := by decide +kernel
theorem dX6_heard_22 : decode cX6_heard 22 = .ok (.ldc 231, 2) := by decide +kernel
theorem dX6_heard_24 : decode cX6_heard 24 = .ok (.invokespecial 131, 3) := by decide +kernel
theorem dX6_heard_27 : decode cX6_heard 27 = .ok (.athrow, 1) := by decide +kernel
theorem dX6_heard_28 : decode cX6_heard 28 = .ok (.aload_n 0, 1) := by decide +kernel
theorem dX6_heard_29 : decode cX6_heard 29 = .ok (.getfield 31, 3) := by decide +kernel
theorem dX6_heard_32 : decode cX6_heard 32 = .ok (.iload_n 1, 1) := by decide +kernel
theorem dX6_heard_33 : decode cX6_heard 33 = .ok (.invokevirtual 233, 3) := by decide +kernel
theorem dX6_heard_36 : decode cX6_heard 36 = .ok (.ireturn, 1) := by decide +kernel
theorem dX6_outputOf_0 : decode cX6_outputOf 0 = .ok (.aload_n 0, 1) := by decide +kernel
theorem dX6_outputOf_1 : decode cX6_outputOf 1 = .ok (.iload_n 1, 1) := by decide +kernel
theorem dX6_outputOf_2 : decode cX6_outputOf 2 = .ok (.invokevirtual 87, 3) := by decide +kernel
theorem dX6_outputOf_5 : decode cX6_outputOf 5 = .ok (.aload_n 0, 1) := by decide +kernel
theorem dX6_outputOf_6 : decode cX6_outputOf 6 = .ok (.getfield 21, 3) := by decide +kernel
theorem dX6_outputOf_9 : decode cX6_outputOf 9 = .ok (.getfield 236, 3) := by decide +kernel
theorem dX6_outputOf_12 : decode cX6_outputOf 12 = .ok (.iload_n 1, 1) := by decide +kernel
theorem dX6_outputOf_13 : decode cX6_outputOf 13 = .ok (.iaload, 1) := by decide +kernel
theorem dX6_outputOf_14 : decode cX6_outputOf 14 = .ok (.ireturn, 1) := by decide +kernel
theorem dX6_time_0 : decode cX6_time 0 = .ok (.aload_n 0, 1) := by decide +kernel
theorem dX6_time_1 : decode cX6_time 1 = .ok (.getfield 31, 3) := by decide +kernel
theorem dX6_time_4 : decode cX6_time 4 = .ok (.getfield 230, 3) := by decide +kernel
theorem dX6_time_7 : decode cX6_time 7 = .ok (.ireturn, 1) := by decide +kernel
theorem dX6_greatest_0 : decode cX6_greatest 0 = .ok (.aload_n 0, 1) := by decide +kernel
theorem dX6_greatest_1 : decode cX6_greatest 1 = .ok (.getfield 31, 3) := by decide +kernel
theorem dX6_greatest_4 : decode cX6_greatest 4 = .ok (.getfield 239, 3) := by decide +kernel
theorem dX6_greatest_7 : decode cX6_greatest 7 = .ok (.ireturn, 1) := by decide +kernel
theorem dX6_energy_0 : decode cX6_energy 0 = .ok (.aload_n 0, 1) := by decide +kernel
theorem dX6_energy_1 : decode cX6_energy 1 = .ok (.getfield 31, 3) := by decide +kernel
theorem dX6_energy_4 : decode cX6_energy 4 = .ok (.getfield 242, 3) := by decide +kernel
theorem dX6_energy_7 : decode cX6_energy 7 = .ok (.lreturn, 1) := by decide +kernel
theorem dX6_meanEnergy_0 : decode cX6_meanEnergy 0 = .ok (.aload_n 0, 1) := by decide +kernel
theorem dX6_meanEnergy_1 : decode cX6_meanEnergy 1 = .ok (.invokevirtual 246, 3) := by decide +kernel
theorem dX6_meanEnergy_4 : decode cX6_meanEnergy 4 = .ok (.aload_n 0, 1) := by decide +kernel
theorem dX6_meanEnergy_5 : decode cX6_meanEnergy 5 = .ok (.getfield 31, 3) := by decide +kernel
theorem dX6_meanEnergy_8 : decode cX6_meanEnergy 8 = .ok (.getfield 242, 3) := by decide +kernel
theorem dX6_meanEnergy_11 : decode cX6_meanEnergy 11 = .ok (.l2d, 1) := by decide +kernel
theorem dX6_meanEnergy_12 : decode cX6_meanEnergy 12 = .ok (.aload_n 0, 1) := by decide +kernel
theorem dX6_meanEnergy_13 : decode cX6_meanEnergy 13 = .ok (.getfield 31, 3) := by decide +kernel
theorem dX6_meanEnergy_16 : decode cX6_meanEnergy 16 = .ok (.getfield 230, 3) := by decide +kernel
theorem dX6_meanEnergy_19 : decode cX6_meanEnergy 19 = .ok (.i2d, 1) := by decide +kernel
theorem dX6_meanEnergy_20 : decode cX6_meanEnergy 20 = .ok (.ddiv, 1) := by decide +kernel
theorem dX6_meanEnergy_21 : decode cX6_meanEnergy 21 = .ok (.dreturn, 1) := by decide +kernel
theorem dX6_quietShare_0 : decode cX6_quietShare 0 = .ok (.aload_n 0, 1) := by decide +kernel
theorem dX6_quietShare_1 : decode cX6_quietShare 1 = .ok (.invokevirtual 246, 3) := by decide +kernel
theorem dX6_quietShare_4 : decode cX6_quietShare 4 = .ok (.aload_n 0, 1) := by decide +kernel
theorem dX6_quietShare_5 : decode cX6_quietShare 5 = .ok (.getfield 31, 3) := by decide +kernel
theorem dX6_quietShare_8 : decode cX6_quietShare 8 = .ok (.getfield 249, 3) := by decide +kernel
theorem dX6_quietShare_11 : decode cX6_quietShare 11 = .ok (.i2f, 1) := by decide +kernel
theorem dX6_quietShare_12 : decode cX6_quietShare 12 = .ok (.aload_n 0, 1) := by decide +kernel
theorem dX6_quietShare_13 : decode cX6_quietShare 13 = .ok (.getfield 31, 3) := by decide +kernel
theorem dX6_quietShare_16 : decode cX6_quietShare 16 = .ok (.getfield 230, 3) := by decide +kernel
theorem dX6_quietShare_19 : decode cX6_quietShare 19 = .ok (.i2f, 1) := by decide +kernel
theorem dX6_quietShare_20 : decode cX6_quietShare 20 = .ok (.fdiv, 1) := by decide +kernel
theorem dX6_quietShare_21 : decode cX6_quietShare 21 = .ok (.freturn, 1) := by decide +kernel
theorem dX6_isConsistent_0 : decode cX6_isConsistent 0 = .ok (.aload_n 0, 1) := by decide +kernel
theorem dX6_isConsistent_1 : decode cX6_isConsistent 1 = .ok (.getfield 10, 3) := by decide +kernel
theorem dX6_isConsistent_4 : decode cX6_isConsistent 4 = .ok (.invokevirtual 252, 3) := by decide +kernel
theorem dX6_isConsistent_7 : decode cX6_isConsistent 7 = .ok (.ifCond .eq 16, 3) := by decide +kernel
theorem dX6_isConsistent_10 : decode cX6_isConsistent 10 = .ok (.aload_n 0, 1) := by decide +kernel
theorem dX6_isConsistent_11 : decode cX6_isConsistent 11 = .ok (.getfield 21, 3) := by decide +kernel
theorem dX6_isConsistent_14 : decode cX6_isConsistent 14 = .ok (.getfield 170, 3) := by decide +kernel
theorem dX6_isConsistent_17 : decode cX6_isConsistent 17 = .ok (.invokevirtual 256, 3) := by decide +kernel
theorem dX6_isConsistent_20 : decode cX6_isConsistent 20 = .ok (.ifCond .ne 5, 3) := by decide +kernel
theorem dX6_isConsistent_23 : decode cX6_isConsistent 23 = .ok (.iconst 0, 1) := by decide +kernel
theorem dX6_isConsistent_24 : decode cX6_isConsistent 24 = .ok (.ireturn, 1) := by decide +kernel
theorem dX6_isConsistent_25 : decode cX6_isConsistent 25 = .ok (.aload_n 0, 1) := by decide +kernel
theorem dX6_isConsistent_26 : decode cX6_isConsistent 26 = .ok (.bipush 20, 2) := by decide +kernel
theorem dX6_isConsistent_28 : decode cX6_isConsistent 28 = .ok (.iconst 1, 1) := by decide +kernel
theorem dX6_isConsistent_29 : decode cX6_isConsistent 29 = .ok (.aload_n 0, 1) := by decide +kernel
theorem dX6_isConsistent_30 : decode cX6_isConsistent 30 = .ok (.getfield 35, 3) := by decide +kernel
theorem dX6_isConsistent_33 : decode cX6_isConsistent 33 = .ok (.invokevirtual 226, 3) := by decide +kernel
theorem dX6_isConsistent_36 : decode cX6_isConsistent 36 = .ok (.aload_n 0, 1) := by decide +kernel
theorem dX6_isConsistent_37 : decode cX6_isConsistent 37 = .ok (.bipush 20, 2) := by decide +kernel
theorem dX6_isConsistent_39 : decode cX6_isConsistent 39 = .ok (.bipush 7, 2) := by decide +kernel
theorem dX6_isConsistent_41 : decode cX6_isConsistent 41 = .ok (.aload_n 0, 1) := by decide +kernel
theorem dX6_isConsistent_42 : decode cX6_isConsistent 42 = .ok (.getfield 39, 3) := by decide +kernel
theorem dX6_isConsistent_45 : decode cX6_isConsistent 45 = .ok (.invokevirtual 226, 3) := by decide +kernel
theorem dX6_isConsistent_48 : decode cX6_isConsistent 48 = .ok (.iconst 0, 1) := by decide +kernel
theorem dX6_isConsistent_49 : decode cX6_isConsistent 49 = .ok (.istore_n 1, 1) := by decide +kernel
theorem dX6_isConsistent_50 : decode cX6_isConsistent 50 = .ok (.iload_n 1, 1) := by decide +kernel
theorem dX6_isConsistent_51 : decode cX6_isConsistent 51 = .ok (.bipush 20, 2) := by decide +kernel
theorem dX6_isConsistent_53 : decode cX6_isConsistent 53 = .ok (.if_icmp .ge 26, 3) := by decide +kernel
theorem dX6_isConsistent_56 : decode cX6_isConsistent 56 = .ok (.aload_n 0, 1) := by decide +kernel
theorem dX6_isConsistent_57 : decode cX6_isConsistent 57 = .ok (.getfield 35, 3) := by decide +kernel
theorem dX6_isConsistent_60 : decode cX6_isConsistent 60 = .ok (.iload_n 1, 1) := by decide +kernel
theorem dX6_isConsistent_61 : decode cX6_isConsistent 61 = .ok (.iaload, 1) := by decide +kernel
theorem dX6_isConsistent_62 : decode cX6_isConsistent 62 = .ok (.aload_n 0, 1) := by decide +kernel
theorem dX6_isConsistent_63 : decode cX6_isConsistent 63 = .ok (.getfield 39, 3) := by decide +kernel
theorem dX6_isConsistent_66 : decode cX6_isConsistent 66 = .ok (.iload_n 1, 1) := by decide +kernel
theorem dX6_isConsistent_67 : decode cX6_isConsistent 67 = .ok (.iaload, 1) := by decide +kernel
theorem dX6_isConsistent_68 : decode cX6_isConsistent 68 = .ok (.if_icmp .eq 5, 3) := by decide +kernel
theorem dX6_isConsistent_71 : decode cX6_isConsistent 71 = .ok (.iconst 0, 1) := by decide +kernel
theorem dX6_isConsistent_72 : decode cX6_isConsistent 72 = .ok (.ireturn, 1) := by decide +kernel
theorem dX6_isConsistent_73 : decode cX6_isConsistent 73 = .ok (.iinc 1 1, 3) := by decide +kernel
theorem dX6_isConsistent_76 : decode cX6_isConsistent 76 = .ok (.goto (-26), 3) := by decide +kernel
theorem dX6_isConsistent_79 : decode cX6_isConsistent 79 = .ok (.iconst 1, 1) := by decide +kernel
theorem dX6_isConsistent_80 : decode cX6_isConsistent 80 = .ok (.ireturn, 1) := by decide +kernel
theorem dX6_perform_0 : decode cX6_perform 0 = .ok (.aload_n 0, 1) := by decide +kernel
theorem dX6_perform_1 : decode cX6_perform 1 = .ok (.getfield 21, 3) := by decide +kernel
theorem dX6_perform_4 : decode cX6_perform 4 = .ok (.iload_n 1, 1) := by decide +kernel
theorem dX6_perform_5 : decode cX6_perform 5 = .ok (.iload_n 2, 1) := by decide +kernel
theorem dX6_perform_6 : decode cX6_perform 6 = .ok (.aload_n 0, 1) := by decide +kernel
theorem dX6_perform_7 : decode cX6_perform 7 = .ok (.getfield 35, 3) := by decide +kernel
theorem dX6_perform_10 : decode cX6_perform 10 = .ok (.invokevirtual 259, 3) := by decide +kernel
theorem dX6_perform_13 : decode cX6_perform 13 = .ok (.iconst 0, 1) := by decide +kernel
theorem dX6_perform_14 : decode cX6_perform 14 = .ok (.istore_n 3, 1) := by decide +kernel
theorem dX6_perform_15 : decode cX6_perform 15 = .ok (.iload_n 3, 1) := by decide +kernel
theorem dX6_perform_16 : decode cX6_perform 16 = .ok (.iload_n 1, 1) := by decide +kernel
theorem dX6_perform_17 : decode cX6_perform 17 = .ok (.if_icmp .ge 22, 3) := by decide +kernel
theorem dX6_perform_20 : decode cX6_perform 20 = .ok (.aload_n 0, 1) := by decide +kernel
theorem dX6_perform_21 : decode cX6_perform 21 = .ok (.getfield 31, 3) := by decide +kernel
theorem dX6_perform_24 : decode cX6_perform 24 = .ok (.aload_n 0, 1) := by decide +kernel
theorem dX6_perform_25 : decode cX6_perform 25 = .ok (.getfield 35, 3) := by decide +kernel
theorem dX6_perform_28 : decode cX6_perform 28 = .ok (.iload_n 3, 1) := by decide +kernel
theorem dX6_perform_29 : decode cX6_perform 29 = .ok (.iaload, 1) := by decide +kernel
theorem dX6_perform_30 : decode cX6_perform 30 = .ok (.invokevirtual 262, 3) := by decide +kernel
theorem dX6_perform_33 : decode cX6_perform 33 = .ok (.iinc 3 1, 3) := by decide +kernel
theorem dX6_perform_36 : decode cX6_perform 36 = .ok (.goto (-21), 3) := by decide +kernel
theorem dX6_perform_39 : decode cX6_perform 39 = .ok (.aload_n 0, 1) := by decide +kernel
theorem dX6_perform_40 : decode cX6_perform 40 = .ok (.getfield 35, 3) := by decide +kernel
theorem dX6_perform_43 : decode cX6_perform 43 = .ok (.iload_n 1, 1) := by decide +kernel
theorem dX6_perform_44 : decode cX6_perform 44 = .ok (.iconst 1, 1) := by decide +kernel
theorem dX6_perform_45 : decode cX6_perform 45 = .ok (.isub, 1) := by decide +kernel
theorem dX6_perform_46 : decode cX6_perform 46 = .ok (.iaload, 1) := by decide +kernel
theorem dX6_perform_47 : decode cX6_perform 47 = .ok (.ireturn, 1) := by decide +kernel
theorem dX6_lookAhead_0 : decode cX6_lookAhead 0 = .ok (.aload_n 0, 1) := by decide +kernel
theorem dX6_lookAhead_1 : decode cX6_lookAhead 1 = .ok (.getfield 25, 3) := by decide +kernel
theorem dX6_lookAhead_4 : decode cX6_lookAhead 4 = .ok (.aload_n 0, 1) := by decide +kernel
theorem dX6_lookAhead_5 : decode cX6_lookAhead 5 = .ok (.getfield 21, 3) := by decide +kernel
theorem dX6_lookAhead_8 : decode cX6_lookAhead 8 = .ok (.invokevirtual 265, 3) := by decide +kernel
theorem dX6_lookAhead_11 : decode cX6_lookAhead 11 = .ok (.aload_n 0, 1) := by decide +kernel
theorem dX6_lookAhead_12 : decode cX6_lookAhead 12 = .ok (.getfield 25, 3) := by decide +kernel
theorem dX6_lookAhead_15 : decode cX6_lookAhead 15 = .ok (.iload_n 1, 1) := by decide +kernel
theorem dX6_lookAhead_16 : decode cX6_lookAhead 16 = .ok (.iload_n 2, 1) := by decide +kernel
theorem dX6_lookAhead_17 : decode cX6_lookAhead 17 = .ok (.aload_n 3, 1) := by decide +kernel
theorem dX6_lookAhead_18 : decode cX6_lookAhead 18 = .ok (.invokevirtual 259, 3) := by decide +kernel
theorem dX6_lookAhead_21 : decode cX6_lookAhead 21 = .ok (.return_, 1) := by decide +kernel
theorem dX6_refuseOutside_0 : decode cX6_refuseOutside 0 = .ok (.iload_n 0, 1) := by decide +kernel
theorem dX6_refuseOutside_1 : decode cX6_refuseOutside 1 = .ok (.iload_n 1, 1) := by decide +kernel
theorem dX6_refuseOutside_2 : decode cX6_refuseOutside 2 = .ok (.if_icmp .lt 8, 3) := by decide +kernel
theorem dX6_refuseOutside_5 : decode cX6_refuseOutside 5 = .ok (.iload_n 0, 1) := by decide +kernel
theorem dX6_refuseOutside_6 : decode cX6_refuseOutside 6 = .ok (.iload_n 2, 1) := by decide +kernel
theorem dX6_refuseOutside_7 : decode cX6_refuseOutside 7 = .ok (.if_icmp .le 14, 3) := by decide +kernel
theorem dX6_refuseOutside_10 : decode cX6_refuseOutside 10 = .ok (.new 91, 3) := by decide +kernel
theorem dX6_refuseOutside_13 : decode cX6_refuseOutside 13 = .ok (.dup, 1) := by decide +kernel
theorem dX6_refuseOutside_14 : decode cX6_refuseOutside 14 = .ok (.ldc_w 269, 3) := by decide +kernel
theorem dX6_refuseOutside_17 : decode cX6_refuseOutside 17 = .ok (.invokespecial 95, 3) := by decide +kernel
theorem dX6_refuseOutside_20 : decode cX6_refuseOutside 20 = .ok (.athrow, 1) := by decide +kernel
theorem dX6_refuseOutside_21 : decode cX6_refuseOutside 21 = .ok (.return_, 1) := by decide +kernel
theorem dX6_refuseNoKey_0 : decode cX6_refuseNoKey 0 = .ok (.iload_n 0, 1) := by decide +kernel
theorem dX6_refuseNoKey_1 : decode cX6_refuseNoKey 1 = .ok (.iconst 0, 1) := by decide +kernel
theorem dX6_refuseNoKey_2 : decode cX6_refuseNoKey 2 = .ok (.bipush 59, 2) := by decide +kernel
theorem dX6_refuseNoKey_4 : decode cX6_refuseNoKey 4 = .ok (.invokestatic 55, 3) := by decide +kernel
theorem dX6_refuseNoKey_7 : decode cX6_refuseNoKey 7 = .ok (.return_, 1) := by decide +kernel
theorem dX6_refuseNoVoice_0 : decode cX6_refuseNoVoice 0 = .ok (.iload_n 0, 1) := by decide +kernel
theorem dX6_refuseNoVoice_1 : decode cX6_refuseNoVoice 1 = .ok (.ifCond .lt 8, 3) := by decide +kernel
theorem dX6_refuseNoVoice_4 : decode cX6_refuseNoVoice 4 = .ok (.iload_n 0, 1) := by decide +kernel
theorem dX6_refuseNoVoice_5 : decode cX6_refuseNoVoice 5 = .ok (.iconst 4, 1) := by decide +kernel
theorem dX6_refuseNoVoice_6 : decode cX6_refuseNoVoice 6 = .ok (.if_icmp .lt 14, 3) := by decide +kernel
theorem dX6_refuseNoVoice_9 : decode cX6_refuseNoVoice 9 = .ok (.new 271, 3) := by decide +kernel
theorem dX6_refuseNoVoice_12 : decode cX6_refuseNoVoice 12 = .ok (.dup, 1) := by decide +kernel
theorem dX6_refuseNoVoice_13 : decode cX6_refuseNoVoice 13 = .ok (.ldc_w 273, 3) := by decide +kernel
theorem dX6_refuseNoVoice_16 : decode cX6_refuseNoVoice 16 = .ok (.invokespecial 275, 3) := by decide +kernel
theorem dX6_refuseNoVoice_19 : decode cX6_refuseNoVoice 19 = .ok (.athrow, 1) := by decide +kernel
theorem dX6_refuseNoVoice_20 : decode cX6_refuseNoVoice 20 = .ok (.return_, 1) := by decide +kernel
theorem dX6_refuseFullBoard_0 : decode cX6_refuseFullBoard 0 = .ok (.aload_n 0, 1) := by decide +kernel
theorem dX6_refuseFullBoard_1 : decode cX6_refuseFullBoard 1 = .ok (.getfield 10, 3) := by decide +kernel
theorem dX6_refuseFullBoard_4 : decode cX6_refuseFullBoard 4 = .ok (.getfield 141, 3) := by decide +kernel
theorem dX6_refuseFullBoard_7 : decode cX6_refuseFullBoard 7 = .ok (.bipush 10, 2) := by decide +kernel
theorem dX6_refuseFullBoard_9 : decode cX6_refuseFullBoard 9 = .ok (.if_icmp .lt 14, 3) := by decide +kernel
theorem dX6_refuseFullBoard_12 : decode cX6_refuseFullBoard 12 = .ok (.new 105, 3) := by decide +kernel
theorem dX6_refuseFullBoard_15 : decode cX6_refuseFullBoard 15 = .ok (.dup, 1) := by decide +kernel
theorem dX6_refuseFullBoard_16 : decode cX6_refuseFullBoard 16 = .ok (.ldc_w 276, 3) := by decide +kernel
theorem dX6_refuseFullBoard_19 : decode cX6_refuseFullBoard 19 = .ok (.invokespecial 109, 3) := by decide +kernel
theorem dX6_refuseFullBoard_22 : decode cX6_refuseFullBoard 22 = .ok (.athrow, 1) := by decide +kernel
theorem dX6_refuseFullBoard_23 : decode cX6_refuseFullBoard 23 = .ok (.return_, 1) := by decide +kernel
theorem dX6_refuseNoNode_0 : decode cX6_refuseNoNode 0 = .ok (.iload_n 1, 1) := by decide +kernel
theorem dX6_refuseNoNode_1 : decode cX6_refuseNoNode 1 = .ok (.ifCond .lt 14, 3) := by decide +kernel
theorem dX6_refuseNoNode_4 : decode cX6_refuseNoNode 4 = .ok (.iload_n 1, 1) := by decide +kernel
theorem dX6_refuseNoNode_5 : decode cX6_refuseNoNode 5 = .ok (.aload_n 0, 1) := by decide +kernel
theorem dX6_refuseNoNode_6 : decode cX6_refuseNoNode 6 = .ok (.getfield 10, 3) := by decide +kernel
theorem dX6_refuseNoNode_9 : decode cX6_refuseNoNode 9 = .ok (.getfield 141, 3) := by decide +kernel
theorem dX6_refuseNoNode_12 : decode cX6_refuseNoNode 12 = .ok (.if_icmp .lt 14, 3) := by decide +kernel
theorem dX6_refuseNoNode_15 : decode cX6_refuseNoNode 15 = .ok (.new 271, 3) := by decide +kernel
theorem dX6_refuseNoNode_18 : decode cX6_refuseNoNode 18 = .ok (.dup, 1) := by decide +kernel
theorem dX6_refuseNoNode_19 : decode cX6_refuseNoNode 19 = .ok (.ldc_w 278, 3) := by decide +kernel
theorem dX6_refuseNoNode_22 : decode cX6_refuseNoNode 22 = .ok (.invokespecial 275, 3) := by decide +kernel
theorem dX6_refuseNoNode_25 : decode cX6_refuseNoNode 25 = .ok (.athrow, 1) := by decide +kernel
theorem dX6_refuseNoNode_26 : decode cX6_refuseNoNode 26 = .ok (.return_, 1) := by decide +kernel
theorem dX6_refuseNoWire_0 : decode cX6_refuseNoWire 0 = .ok (.iload_n 2, 1) := by decide +kernel
theorem dX6_refuseNoWire_1 : decode cX6_refuseNoWire 1 = .ok (.ifCond .lt 16, 3) := by decide +kernel
theorem dX6_refuseNoWire_4 : decode cX6_refuseNoWire 4 = .ok (.iload_n 2, 1) := by decide +kernel
theorem dX6_refuseNoWire_5 : decode cX6_refuseNoWire 5 = .ok (.aload_n 0, 1) := by decide +kernel
theorem dX6_refuseNoWire_6 : decode cX6_refuseNoWire 6 = .ok (.getfield 10, 3) := by decide +kernel
theorem dX6_refuseNoWire_9 : decode cX6_refuseNoWire 9 = .ok (.getfield 102, 3) := by decide +kernel
theorem dX6_refuseNoWire_12 : decode cX6_refuseNoWire 12 = .ok (.iload_n 1, 1) := by decide +kernel
theorem dX6_refuseNoWire_13 : decode cX6_refuseNoWire 13 = .ok (.iaload, 1) := by decide +kernel
theorem dX6_refuseNoWire_14 : decode cX6_refuseNoWire 14 = .ok (.if_icmp .lt 13, 3) := by decide +kernel
theorem dX6_refuseNoWire_17 : decode cX6_refuseNoWire 17 = .ok (.new 127, 3) := by decide +kernel
theorem dX6_refuseNoWire_20 : decode cX6_refuseNoWire 20 = .ok (.dup, 1) := by decide +kernel
theorem dX6_refuseNoWire_21 : decode cX6_refuseNoWire 21 = .ok (.ldc 129, 2) := by decide +kernel
theorem dX6_refuseNoWire_23 : decode cX6_refuseNoWire 23 = .ok (.invokespecial 131, 3) := by decide +kernel
theorem dX6_refuseNoWire_26 : decode cX6_refuseNoWire 26 = .ok (.athrow, 1) := by decide +kernel
theorem dX6_refuseNoWire_27 : decode cX6_refuseNoWire 27 = .ok (.return_, 1) := by decide +kernel
theorem dX6_refuseFree_0 : decode cX6_refuseFree 0 = .ok (.aload_n 0, 1) := by decide +kernel
theorem dX6_refuseFree_1 : decode cX6_refuseFree 1 = .ok (.getfield 21, 3) := by decide +kernel
theorem dX6_refuseFree_4 : decode cX6_refuseFree 4 = .ok (.getfield 170, 3) := by decide +kernel
theorem dX6_refuseFree_7 : decode cX6_refuseFree 7 = .ok (.getfield 198, 3) := by decide +kernel
theorem dX6_refuseFree_10 : decode cX6_refuseFree 10 = .ok (.iload_n 1, 1) := by decide +kernel
theorem dX6_refuseFree_11 : decode cX6_refuseFree 11 = .ok (.aaload, 1) := by decide +kernel
theorem dX6_refuseFree_12 : decode cX6_refuseFree 12 = .ok (.getfield 280, 3) := by decide +kernel
theorem dX6_refuseFree_15 : decode cX6_refuseFree 15 = .ok (.ifCond .ne 14, 3) := by decide +kernel
theorem dX6_refuseFree_18 : decode cX6_refuseFree 18 = .ok (.new 105, 3) := by decide +kernel
theorem dX6_refuseFree_21 : decode cX6_refuseFree 21 = .ok (.dup, 1) := by decide +kernel
theorem dX6_refuseFree_22 : decode cX6_refuseFree 22 = .ok (.ldc_w 284, 3) := by decide +kernel
theorem dX6_refuseFree_25 : decode cX6_refuseFree 25 = .ok (.invokespecial 109, 3) := by decide +kernel
theorem dX6_refuseFree_28 : decode cX6_refuseFree 28 = .ok (.athrow, 1) := by decide +kernel
theorem dX6_refuseFree_29 : decode cX6_refuseFree 29 = .ok (.return_, 1) := by decide +kernel
theorem dX6_refuseSilence_0 : decode cX6_refuseSilence 0 = .ok (.aload_n 0, 1) := by decide +kernel
theorem dX6_refuseSilence_1 : decode cX6_refuseSilence 1 = .ok (.getfield 31, 3) := by decide +kernel
theorem dX6_refuseSilence_4 : decode cX6_refuseSilence 4 = .ok (.getfield 230, 3) := by decide +kernel
theorem dX6_refuseSilence_7 : decode cX6_refuseSilence 7 = .ok (.ifCond .ne 14, 3) := by decide +kernel
theorem dX6_refuseSilence_10 : decode cX6_refuseSilence 10 = .ok (.new 286, 3) := by decide +kernel
theorem dX6_refuseSilence_13 : decode cX6_refuseSilence 13 = .ok (.dup, 1) := by decide +kernel
theorem dX6_refuseSilence_14 : decode cX6_refuseSilence 14 = .ok (.ldc_w 288, 3) := by decide +kernel
theorem dX6_refuseSilence_17 : decode cX6_refuseSilence 17 = .ok (.invokespecial 290, 3) := by decide +kernel
theorem dX6_refuseSilence_20 : decode cX6_refuseSilence 20 = .ok (.athrow, 1) := by decide +kernel
theorem dX6_refuseSilence_21 : decode cX6_refuseSilence 21 = .ok (.return_, 1) := by decide +kernel
theorem dX6_cut_0 : decode cX6_cut 0 = .ok (.sipush (-32767), 3) := by decide +kernel
theorem dX6_cut_3 : decode cX6_cut 3 = .ok (.sipush 32767, 3) := by decide +kernel
theorem dX6_cut_6 : decode cX6_cut 6 = .ok (.iload_n 0, 1) := by decide +kernel
theorem dX6_cut_7 : decode cX6_cut 7 = .ok (.invokestatic 291, 3) := by decide +kernel
theorem dX6_cut_10 : decode cX6_cut 10 = .ok (.invokestatic 296, 3) := by decide +kernel
theorem dX6_cut_13 : decode cX6_cut 13 = .ok (.ireturn, 1) := by decide +kernel
theorem dX6_partOf_0 : decode cX6_partOf 0 = .ok (.iload_n 0, 1) := by decide +kernel
theorem dX6_partOf_1 : decode cX6_partOf 1 = .ok (.iload_n 1, 1) := by decide +kernel
theorem dX6_partOf_2 : decode cX6_partOf 2 = .ok (.imul, 1) := by decide +kernel
theorem dX6_partOf_3 : decode cX6_partOf 3 = .ok (.bipush 100, 2) := by decide +kernel
theorem dX6_partOf_5 : decode cX6_partOf 5 = .ok (.idiv, 1) := by decide +kernel
theorem dX6_partOf_6 : decode cX6_partOf 6 = .ok (.ireturn, 1) := by decide +kernel
theorem dX6_stepOfKey_0 : decode cX6_stepOfKey 0 = .ok (.iload_n 0, 1) := by decide +kernel
theorem dX6_stepOfKey_1 : decode cX6_stepOfKey 1 = .ok (.ifCond .lt 9, 3) := by decide +kernel
theorem dX6_stepOfKey_4 : decode cX6_stepOfKey 4 = .ok (.iload_n 0, 1) := by decide +kernel
theorem dX6_stepOfKey_5 : decode cX6_stepOfKey 5 = .ok (.bipush 60, 2) := by decide +kernel
theorem dX6_stepOfKey_7 : decode cX6_stepOfKey 7 = .ok (.if_icmp .lt 5, 3) := by decide +kernel
theorem dX6_stepOfKey_10 : decode cX6_stepOfKey 10 = .ok (.iconst 0, 1) := by decide +kernel
theorem dX6_stepOfKey_11 : decode cX6_stepOfKey 11 = .ok (.ireturn, 1) := by decide +kernel
theorem dX6_stepOfKey_12 : decode cX6_stepOfKey 12 = .ok (.getstatic 299, 3) := by decide +kernel
theorem dX6_stepOfKey_15 : decode cX6_stepOfKey 15 = .ok (.iload_n 0, 1) := by decide +kernel
theorem dX6_stepOfKey_16 : decode cX6_stepOfKey 16 = .ok (.bipush 12, 2) := by decide +kernel
theorem dX6_stepOfKey_18 : decode cX6_stepOfKey 18 = .ok (.irem, 1) := by decide +kernel
theorem dX6_stepOfKey_19 : decode cX6_stepOfKey 19 = .ok (.iaload, 1) := by decide +kernel
theorem dX6_stepOfKey_20 : decode cX6_stepOfKey 20 = .ok (.iload_n 0, 1) := by decide +kernel
theorem dX6_stepOfKey_21 : decode cX6_stepOfKey 21 = .ok (.bipush 12, 2) := by decide +kernel
theorem dX6_stepOfKey_23 : decode cX6_stepOfKey 23 = .ok (.idiv, 1) := by decide +kernel
theorem dX6_stepOfKey_24 : decode cX6_stepOfKey 24 = .ok (.ishl, 1) := by decide +kernel
theorem dX6_stepOfKey_25 : decode cX6_stepOfKey 25 = .ok (.ireturn, 1) := by decide +kernel
theorem dX7_init_0 : decode cX7_init 0 = .ok (.aload_n 0, 1) := by decide +kernel
theorem dX7_init_1 : decode cX7_init 1 = .ok (.invokespecial 1, 3) := by decide +kernel
theorem dX7_init_4 : decode cX7_init 4 = .ok (.aload_n 0, 1) := by decide +kernel
theorem dX7_init_5 : decode cX7_init 5 = .ok (.sipush 704, 3) := by decide +kernel
theorem dX7_init_8 : decode cX7_init 8 = .ok (.newarray .int, 2) := by decide +kernel
theorem dX7_init_10 : decode cX7_init 10 = .ok (.putfield 7, 3) := by decide +kernel
theorem dX7_init_13 : decode cX7_init 13 = .ok (.aload_n 0, 1) := by decide +kernel
theorem dX7_init_14 : decode cX7_init 14 = .ok (.sipush 704, 3) := by decide +kernel
theorem dX7_init_17 : decode cX7_init 17 = .ok (.newarray .int, 2) := by decide +kernel
theorem dX7_init_19 : decode cX7_init 19 = .ok (.putfield 13, 3) := by decide +kernel
theorem dX7_init_22 : decode cX7_init 22 = .ok (.aload_n 0, 1) := by decide +kernel
theorem dX7_init_23 : decode cX7_init 23 = .ok (.bipush 10, 2) := by decide +kernel
theorem dX7_init_25 : decode cX7_init 25 = .ok (.newarray .int, 2) := by decide +kernel
theorem dX7_init_27 : decode cX7_init 27 = .ok (.putfield 16, 3) := by decide +kernel
theorem dX7_init_30 : decode cX7_init 30 = .ok (.aload_n 0, 1) := by decide +kernel
theorem dX7_init_31 : decode cX7_init 31 = .ok (.bipush 10, 2) := by decide +kernel
theorem dX7_init_33 : decode cX7_init 33 = .ok (.newarray .int, 2) := by decide +kernel
theorem dX7_init_35 : decode cX7_init 35 = .ok (.putfield 19, 3) := by decide +kernel
theorem dX7_init_38 : decode cX7_init 38 = .ok (.aload_n 0, 1) := by decide +kernel
theorem dX7_init_39 : decode cX7_init 39 = .ok (.bipush 10, 2) := by decide +kernel
theorem dX7_init_41 : decode cX7_init 41 = .ok (.newarray .int, 2) := by decide +kernel
theorem dX7_init_43 : decode cX7_init 43 = .ok (.putfield 22, 3) := by decide +kernel
theorem dX7_init_46 : decode cX7_init 46 = .ok (.aload_n 0, 1) := by decide +kernel
theorem dX7_init_47 : decode cX7_init 47 = .ok (.bipush 10, 2) := by decide +kernel
theorem dX7_init_49 : decode cX7_init 49 = .ok (.newarray .int, 2) := by decide +kernel
theorem dX7_init_51 : decode cX7_init 51 = .ok (.putfield 25, 3) := by decide +kernel
theorem dX7_init_54 : decode cX7_init 54 = .ok (.aload_n 0, 1) := by decide +kernel
theorem dX7_init_55 : decode cX7_init 55 = .ok (.bipush 40, 2) := by decide +kernel
theorem dX7_init_57 : decode cX7_init 57 = .ok (.newarray .int, 2) := by decide +kernel
theorem dX7_init_59 : decode cX7_init 59 = .ok (.putfield 28, 3) := by decide +kernel
theorem dX7_init_62 : decode cX7_init 62 = .ok (.aload_n 0, 1) := by decide +kernel
theorem dX7_init_63 : decode cX7_init 63 = .ok (.bipush 40, 2) := by decide +kernel
theorem dX7_init_65 : decode cX7_init 65 = .ok (.newarray .int, 2) := by decide +kernel
theorem dX7_init_67 : decode cX7_init 67 = .ok (.putfield 31, 3) := by decide +kernel
theorem dX7_init_70 : decode cX7_init 70 = .ok (.aload_n 0, 1) := by decide +kernel
theorem dX7_init_71 : decode cX7_init 71 = .ok (.bipush 10, 2) := by decide +kernel
theorem dX7_init_73 : decode cX7_init 73 = .ok (.newarray .int, 2) := by decide +kernel
theorem dX7_init_75 : decode cX7_init 75 = .ok (.putfield 34, 3) := by decide +kernel
theorem dX7_init_78 : decode cX7_init 78 = .ok (.aload_n 0, 1) := by decide +kernel
theorem dX7_init_79 : decode cX7_init 79 = .ok (.bipush 10, 2) := by decide +kernel
theorem dX7_init_81 : decode cX7_init 81 = .ok (.newarray .int, 2) := by decide +kernel
theorem dX7_init_83 : decode cX7_init 83 = .ok (.putfield 37, 3) := by decide +kernel
theorem dX7_init_86 : decode cX7_init 86 = .ok (.aload_n 0, 1) := by decide +kernel
theorem dX7_init_87 : decode cX7_init 87 = .ok (.bipush 64, 2) := by decide +kernel
theorem dX7_init_89 : decode cX7_init 89 = .ok (.newarray .int, 2) := by decide +kernel
theorem dX7_init_91 : decode cX7_init 91 = .ok (.putfield 40, 3) := by decide +kernel
theorem dX7_init_94 : decode cX7_init 94 = .ok (.aload_n 0, 1) := by decide +kernel
theorem dX7_init_95 : decode cX7_init 95 = .ok (.bipush 10, 2) := by decide +kernel
theorem dX7_init_97 : decode cX7_init 97 = .ok (.newarray .boolean, 2) := by decide +kernel
theorem dX7_init_99 : decode cX7_init 99 = .ok (.putfield 43, 3) := by decide +kernel
theorem dX7_init_102 : decode cX7_init 102 = .ok (.aload_n 0, 1) := by decide +kernel
theorem dX7_init_103 : decode cX7_init 103 = .ok (.iconst 0, 1) := by decide +kernel
theorem dX7_init_104 : decode cX7_init 104 = .ok (.putfield 47, 3) := by decide +kernel
theorem dX7_init_107 : decode cX7_init 107 = .ok (.aload_n 0, 1) := by decide +kernel
theorem dX7_init_108 : decode cX7_init 108 = .ok (.iconst 1, 1) := by decide +kernel
theorem dX7_init_109 : decode cX7_init 109 = .ok (.putfield 51, 3) := by decide +kernel
theorem dX7_init_112 : decode cX7_init 112 = .ok (.aload_n 0, 1) := by decide +kernel
theorem dX7_init_113 : decode cX7_init 113 = .ok (.iconst 0, 1) := by decide +kernel
theorem dX7_init_114 : decode cX7_init 114 = .ok (.putfield 54, 3) := by decide +kernel
theorem dX7_init_117 : decode cX7_init 117 = .ok (.aload_n 0, 1) := by decide +kernel
theorem dX7_init_118 : decode cX7_init 118 = .ok (.bipush 115, 2) := by decide +kernel
theorem dX7_init_120 : decode cX7_init 120 = .ok (.putfield 57, 3) := by decide +kernel
theorem dX7_init_123 : decode cX7_init 123 = .ok (.aload_n 0, 1) := by decide +kernel
theorem dX7_init_124 : decode cX7_init 124 = .ok (.iconst 0, 1) := by decide +kernel
theorem dX7_init_125 : decode cX7_init 125 = .ok (.putfield 60, 3) := by decide +kernel
theorem dX7_init_128 : decode cX7_init 128 = .ok (.aload_n 0, 1) := by decide +kernel
theorem dX7_init_129 : decode cX7_init 129 = .ok (.iconst 0, 1) := by decide +kernel
theorem dX7_init_130 : decode cX7_init 130 = .ok (.putfield 63, 3) := by decide +kernel
theorem dX7_init_133 : decode cX7_init 133 = .ok (.aload_n 0, 1) := by decide +kernel
theorem dX7_init_134 : decode cX7_init 134 = .ok (.sipush 1000, 3) := by decide +kernel
theorem dX7_init_137 : decode cX7_init 137 = .ok (.putfield 66, 3) := by decide +kernel
theorem dX7_init_140 : decode cX7_init 140 = .ok (.aload_n 0, 1) := by decide +kernel
theorem dX7_init_141 : decode cX7_init 141 = .ok (.iconst 0, 1) := by decide +kernel
theorem dX7_init_142 : decode cX7_init 142 = .ok (.putfield 69, 3) := by decide +kernel
theorem dX7_init_145 : decode cX7_init 145 = .ok (.aload_n 0, 1) := by decide +kernel
theorem dX7_init_146 : decode cX7_init 146 = .ok (.iconst 0, 1) := by decide +kernel
theorem dX7_init_147 : decode cX7_init 147 = .ok (.putfield 72, 3) := by decide +kernel
theorem dX7_init_150 : decode cX7_init 150 = .ok (.aload_n 0, 1) := by decide +kernel
theorem dX7_init_151 : decode cX7_init 151 = .ok (.iconst 0, 1) := by decide +kernel
theorem dX7_init_152 : decode cX7_init 152 = .ok (.putfield 75, 3) := by decide +kernel
theorem dX7_init_155 : decode cX7_init 155 = .ok (.aload_n 0, 1) := by decide +kernel
theorem dX7_init_156 : decode cX7_init 156 = .ok (.iconst 0, 1) := by decide +kernel
theorem dX7_init_157 : decode cX7_init 157 = .ok (.putfield 78, 3) := by decide +kernel
theorem dX7_init_160 : decode cX7_init 160 = .ok (.aload_n 0, 1) := by decide +kernel
theorem dX7_init_161 : decode cX7_init 161 = .ok (.iconst 0, 1) := by decide +kernel
theorem dX7_init_162 : decode cX7_init 162 = .ok (.putfield 81, 3) := by decide +kernel
theorem dX7_init_165 : decode cX7_init 165 = .ok (.aload_n 0, 1) := by decide +kernel
theorem dX7_init_166 : decode cX7_init 166 = .ok (.iconst 0, 1) := by decide +kernel
theorem dX7_init_167 : decode cX7_init 167 = .ok (.putfield 84, 3) := by decide +kernel
theorem dX7_init_170 : decode cX7_init 170 = .ok (.aload_n 0, 1) := by decide +kernel
theorem dX7_init_171 : decode cX7_init 171 = .ok (.lconst 0, 1) := by decide +kernel
theorem dX7_init_172 : decode cX7_init 172 = .ok (.putfield 87, 3) := by decide +kernel
theorem dX7_init_175 : decode cX7_init 175 = .ok (.aload_n 0, 1) := by decide +kernel
theorem dX7_init_176 : decode cX7_init 176 = .ok (.invokevirtual 91, 3) := by decide +kernel
theorem dX7_init_179 : decode cX7_init 179 = .ok (.return_, 1) := by decide +kernel
theorem dX7_thrown_0 : decode cX7_thrown 0 = .ok (.aload_n 0, 1) := by decide +kernel
theorem dX7_thrown_1 : decode cX7_thrown 1 = .ok (.getfield 47, 3) := by decide +kernel
theorem dX7_thrown_4 : decode cX7_thrown 4 = .ok (.ireturn, 1) := by decide +kernel
theorem dX7_in_0 : decode cX7_in 0 = .ok (.iload_n 0, 1) := by decide +kernel
theorem dX7_in_1 : decode cX7_in 1 = .ok (.iload_n 1, 1) := by decide +kernel
theorem dX7_in_2 : decode cX7_in 2 = .ok (.if_icmp .lt 12, 3) := by decide +kernel
theorem dX7_in_5 : decode cX7_in 5 = .ok (.iload_n 0, 1) := by decide +kernel
theorem dX7_in_6 : decode cX7_in 6 = .ok (.iload_n 2, 1) := by decide +kernel
theorem dX7_in_7 : decode cX7_in 7 = .ok (.if_icmp .gt 7, 3) := by decide +kernel
theorem dX7_in_10 : decode cX7_in 10 = .ok (.iconst 1, 1) := by decide +kernel
theorem dX7_in_11 : decode cX7_in 11 = .ok (.goto 4, 3) := by decide +kernel
theorem dX7_in_14 : decode cX7_in 14 = .ok (.iconst 0, 1) := by decide +kernel
theorem dX7_in_15 : decode cX7_in 15 = .ok (.ireturn, 1) := by decide +kernel
theorem dX7_plain_0 : decode cX7_plain 0 = .ok (.aload_n 0, 1) := by decide +kernel
theorem dX7_plain_1 : decode cX7_plain 1 = .ok (.iconst 0, 1) := by decide +kernel
theorem dX7_plain_2 : decode cX7_plain 2 = .ok (.putfield 47, 3) := by decide +kernel
theorem dX7_plain_5 : decode cX7_plain 5 = .ok (.iload_n 1, 1) := by decide +kernel
theorem dX7_plain_6 : decode cX7_plain 6 = .ok (.ireturn, 1) := by decide +kernel
theorem dX7_checked_0 : decode cX7_checked 0 = .ok (.aload_n 0, 1) := by decide +kernel
theorem dX7_checked_1 : decode cX7_checked 1 = .ok (.iload_n 1, 1) := by decide +kernel
theorem dX7_checked_2 : decode cX7_checked 2 = .ok (.ifCond .eq 7, 3) := by decide +kernel
theorem dX7_checked_5 : decode cX7_checked 5 = .ok (.iconst 0, 1) := by decide +kernel
theorem dX7_checked_6 : decode cX7_checked 6 = .ok (.goto 4, 3) := by decide +kernel
theorem dX7_checked_9 : decode cX7_checked 9 = .ok (.iconst 1, 1) := by decide +kernel
theorem dX7_checked_10 : decode cX7_checked 10 = .ok (.putfield 47, 3) := by decide +kernel
theorem dX7_checked_13 : decode cX7_checked 13 = .ok (.aload_n 0, 1) := by decide +kernel
theorem dX7_checked_14 : decode cX7_checked 14 = .ok (.getfield 47, 3) := by decide +kernel
theorem dX7_checked_17 : decode cX7_checked 17 = .ok (.ireturn, 1) := by decide +kernel
theorem dX7_isNode_0 : decode cX7_isNode 0 = .ok (.iload_n 1, 1) := by decide +kernel
theorem dX7_isNode_1 : decode cX7_isNode 1 = .ok (.iconst 0, 1) := by decide +kernel
theorem dX7_isNode_2 : decode cX7_isNode 2 = .ok (.aload_n 0, 1) := by decide +kernel
theorem dX7_isNode_3 : decode cX7_isNode 3 = .ok (.getfield 51, 3) := by decide +kernel
theorem dX7_isNode_6 : decode cX7_isNode 6 = .ok (.iconst 1, 1) := by decide +kernel
theorem dX7_isNode_7 : decode cX7_isNode 7 = .ok (.isub, 1) := by decide +kernel
theorem dX7_isNode_8 : decode cX7_isNode 8 = .ok (.invokestatic 94, 3) := by decide +kernel
theorem dX7_isNode_11 : decode cX7_isNode 11 = .ok (.ireturn, 1) := by decide +kernel
theorem dX7_cut_0 : decode cX7_cut 0 = .ok (.iload_n 0, 1) := by decide +kernel
theorem dX7_cut_1 : decode cX7_cut 1 = .ok (.sipush 32767, 3) := by decide +kernel
theorem dX7_cut_4 : decode cX7_cut 4 = .ok (.if_icmp .le 9, 3) := by decide +kernel
theorem dX7_cut_7 : decode cX7_cut 7 = .ok (.sipush 32767, 3) := by decide +kernel
theorem dX7_cut_10 : decode cX7_cut 10 = .ok (.goto 17, 3) := by decide +kernel
theorem dX7_cut_13 : decode cX7_cut 13 = .ok (.iload_n 0, 1) := by decide +kernel
theorem dX7_cut_14 : decode cX7_cut 14 = .ok (.sipush (-32767), 3) := by decide +kernel
theorem dX7_cut_17 : decode cX7_cut 17 = .ok (.if_icmp .ge 9, 3) := by decide +kernel
theorem dX7_cut_20 : decode cX7_cut 20 = .ok (.sipush (-32767), 3) := by decide +kernel
theorem dX7_cut_23 : decode cX7_cut 23 = .ok (.goto 4, 3) := by decide +kernel
theorem dX7_cut_26 : decode cX7_cut 26 = .ok (.iload_n 0, 1) := by decide +kernel
theorem dX7_cut_27 : decode cX7_cut 27 = .ok (.ireturn, 1) := by decide +kernel
theorem dX7_size_0 : decode cX7_size 0 = .ok (.iload_n 0, 1) := by decide +kernel
theorem dX7_size_1 : decode cX7_size 1 = .ok (.ifCond .ge 8, 3) := by decide +kernel
theorem dX7_size_4 : decode cX7_size 4 = .ok (.iload_n 0, 1) := by decide +kernel
theorem dX7_size_5 : decode cX7_size 5 = .ok (.ineg, 1) := by decide +kernel
theorem dX7_size_6 : decode cX7_size 6 = .ok (.goto 4, 3) := by decide +kernel
theorem dX7_size_9 : decode cX7_size 9 = .ok (.iload_n 0, 1) := by decide +kernel
theorem dX7_size_10 : decode cX7_size 10 = .ok (.ireturn, 1) := by decide +kernel
theorem dX7_adds_0 : decode cX7_adds 0 = .ok (.aload_n 0, 1) := by decide +kernel
theorem dX7_adds_1 : decode cX7_adds 1 = .ok (.getfield 16, 3) := by decide +kernel
theorem dX7_adds_4 : decode cX7_adds 4 = .ok (.aload_n 0, 1) := by decide +kernel
theorem dX7_adds_5 : decode cX7_adds 5 = .ok (.getfield 51, 3) := by decide +kernel
theorem dX7_adds_8 : decode cX7_adds 8 = .ok (.iload_n 1, 1) := by decide +kernel
theorem dX7_adds_9 : decode cX7_adds 9 = .ok (.iastore, 1) := by decide +kernel
theorem dX7_adds_10 : decode cX7_adds 10 = .ok (.aload_n 0, 1) := by decide +kernel
theorem dX7_adds_11 : decode cX7_adds 11 = .ok (.getfield 19, 3) := by decide +kernel
