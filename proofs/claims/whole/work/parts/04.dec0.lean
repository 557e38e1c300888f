theorem dX0_init_0 : decode cX0_init 0 = .ok (.aload_n 0, 1) := by decide +kernel
theorem dX0_init_1 : decode cX0_init 1 = .ok (.invokespecial 3, 3) := by decide +kernel
theorem dX0_init_4 : decode cX0_init 4 = .ok (.aload_n 0, 1) := by decide +kernel
theorem dX0_init_5 : decode cX0_init 5 = .ok (.bipush 10, 2) := by decide +kernel
theorem dX0_init_7 : decode cX0_init 7 = .ok (.newarray .char, 2) := by decide +kernel
theorem dX0_init_9 : decode cX0_init 9 = .ok (.putfield 9, 3) := by decide +kernel
theorem dX0_init_12 : decode cX0_init 12 = .ok (.aload_n 0, 1) := by decide +kernel
theorem dX0_init_13 : decode cX0_init 13 = .ok (.bipush 10, 2) := by decide +kernel
theorem dX0_init_15 : decode cX0_init 15 = .ok (.newarray .int, 2) := by decide +kernel
theorem dX0_init_17 : decode cX0_init 17 = .ok (.putfield 15, 3) := by decide +kernel
theorem dX0_init_20 : decode cX0_init 20 = .ok (.aload_n 0, 1) := by decide +kernel
theorem dX0_init_21 : decode cX0_init 21 = .ok (.bipush 10, 2) := by decide +kernel
theorem dX0_init_23 : decode cX0_init 23 = .ok (.newarray .int, 2) := by decide +kernel
theorem dX0_init_25 : decode cX0_init 25 = .ok (.putfield 19, 3) := by decide +kernel
theorem dX0_init_28 : decode cX0_init 28 = .ok (.aload_n 0, 1) := by decide +kernel
theorem dX0_init_29 : decode cX0_init 29 = .ok (.bipush 10, 2) := by decide +kernel
theorem dX0_init_31 : decode cX0_init 31 = .ok (.newarray .int, 2) := by decide +kernel
theorem dX0_init_33 : decode cX0_init 33 = .ok (.putfield 22, 3) := by decide +kernel
theorem dX0_init_36 : decode cX0_init 36 = .ok (.aload_n 0, 1) := by decide +kernel
theorem dX0_init_37 : decode cX0_init 37 = .ok (.bipush 10, 2) := by decide +kernel
theorem dX0_init_39 : decode cX0_init 39 = .ok (.newarray .int, 2) := by decide +kernel
theorem dX0_init_41 : decode cX0_init 41 = .ok (.putfield 25, 3) := by decide +kernel
theorem dX0_init_44 : decode cX0_init 44 = .ok (.aload_n 0, 1) := by decide +kernel
theorem dX0_init_45 : decode cX0_init 45 = .ok (.bipush 10, 2) := by decide +kernel
theorem dX0_init_47 : decode cX0_init 47 = .ok (.newarray .int, 2) := by decide +kernel
theorem dX0_init_49 : decode cX0_init 49 = .ok (.putfield 28, 3) := by decide +kernel
theorem dX0_init_52 : decode cX0_init 52 = .ok (.aload_n 0, 1) := by decide +kernel
theorem dX0_init_53 : decode cX0_init 53 = .ok (.bipush 10, 2) := by decide +kernel
theorem dX0_init_55 : decode cX0_init 55 = .ok (.newarray .int, 2) := by decide +kernel
theorem dX0_init_57 : decode cX0_init 57 = .ok (.putfield 31, 3) := by decide +kernel
theorem dX0_init_60 : decode cX0_init 60 = .ok (.aload_n 0, 1) := by decide +kernel
theorem dX0_init_61 : decode cX0_init 61 = .ok (.bipush 10, 2) := by decide +kernel
theorem dX0_init_63 : decode cX0_init 63 = .ok (.newarray .int, 2) := by decide +kernel
theorem dX0_init_65 : decode cX0_init 65 = .ok (.putfield 34, 3) := by decide +kernel
theorem dX0_init_68 : decode cX0_init 68 = .ok (.aload_n 0, 1) := by decide +kernel
theorem dX0_init_69 : decode cX0_init 69 = .ok (.bipush 10, 2) := by decide +kernel
theorem dX0_init_71 : decode cX0_init 71 = .ok (.newarray .int, 2) := by decide +kernel
theorem dX0_init_73 : decode cX0_init 73 = .ok (.putfield 37, 3) := by decide +kernel
theorem dX0_init_76 : decode cX0_init 76 = .ok (.aload_n 0, 1) := by decide +kernel
theorem dX0_init_77 : decode cX0_init 77 = .ok (.bipush 10, 2) := by decide +kernel
theorem dX0_init_79 : decode cX0_init 79 = .ok (.iconst 4, 1) := by decide +kernel
theorem dX0_init_80 : decode cX0_init 80 = .ok (.multianewarray 40 2, 4) := by decide +kernel
theorem dX0_init_84 : decode cX0_init 84 = .ok (.putfield 42, 3) := by decide +kernel
theorem dX0_init_87 : decode cX0_init 87 = .ok (.aload_n 0, 1) := by decide +kernel
theorem dX0_init_88 : decode cX0_init 88 = .ok (.bipush 10, 2) := by decide +kernel
theorem dX0_init_90 : decode cX0_init 90 = .ok (.iconst 4, 1) := by decide +kernel
theorem dX0_init_91 : decode cX0_init 91 = .ok (.multianewarray 40 2, 4) := by decide +kernel
theorem dX0_init_95 : decode cX0_init 95 = .ok (.putfield 45, 3) := by decide +kernel
theorem dX0_init_98 : decode cX0_init 98 = .ok (.aload_n 0, 1) := by decide +kernel
theorem dX0_init_99 : decode cX0_init 99 = .ok (.bipush 10, 2) := by decide +kernel
theorem dX0_init_101 : decode cX0_init 101 = .ok (.newarray .int, 2) := by decide +kernel
theorem dX0_init_103 : decode cX0_init 103 = .ok (.putfield 48, 3) := by decide +kernel
theorem dX0_init_106 : decode cX0_init 106 = .ok (.aload_n 0, 1) := by decide +kernel
theorem dX0_init_107 : decode cX0_init 107 = .ok (.iconst 1, 1) := by decide +kernel
theorem dX0_init_108 : decode cX0_init 108 = .ok (.putfield 51, 3) := by decide +kernel
theorem dX0_init_111 : decode cX0_init 111 = .ok (.aload_n 0, 1) := by decide +kernel
theorem dX0_init_112 : decode cX0_init 112 = .ok (.getfield 9, 3) := by decide +kernel
theorem dX0_init_115 : decode cX0_init 115 = .ok (.iconst 0, 1) := by decide +kernel
theorem dX0_init_116 : decode cX0_init 116 = .ok (.bipush 118, 2) := by decide +kernel
theorem dX0_init_118 : decode cX0_init 118 = .ok (.castore, 1) := by decide +kernel
theorem dX0_init_119 : decode cX0_init 119 = .ok (.return_, 1) := by decide +kernel
theorem dX0_add_0 : decode cX0_add 0 = .ok (.aload_n 0, 1) := by decide +kernel
theorem dX0_add_1 : decode cX0_add 1 = .ok (.getfield 51, 3) := by decide +kernel
theorem dX0_add_4 : decode cX0_add 4 = .ok (.istore_n 2, 1) := by decide +kernel
theorem dX0_add_5 : decode cX0_add 5 = .ok (.aload_n 0, 1) := by decide +kernel
theorem dX0_add_6 : decode cX0_add 6 = .ok (.getfield 9, 3) := by decide +kernel
theorem dX0_add_9 : decode cX0_add 9 = .ok (.iload_n 2, 1) := by decide +kernel
theorem dX0_add_10 : decode cX0_add 10 = .ok (.iload_n 1, 1) := by decide +kernel
theorem dX0_add_11 : decode cX0_add 11 = .ok (.castore, 1) := by decide +kernel
theorem dX0_add_12 : decode cX0_add 12 = .ok (.aload_n 0, 1) := by decide +kernel
theorem dX0_add_13 : decode cX0_add 13 = .ok (.iload_n 2, 1) := by decide +kernel
theorem dX0_add_14 : decode cX0_add 14 = .ok (.iconst 1, 1) := by decide +kernel
theorem dX0_add_15 : decode cX0_add 15 = .ok (.iadd, 1) := by decide +kernel
theorem dX0_add_16 : decode cX0_add 16 = .ok (.putfield 51, 3) := by decide +kernel
theorem dX0_add_19 : decode cX0_add 19 = .ok (.aload_n 0, 1) := by decide +kernel
theorem dX0_add_20 : decode cX0_add 20 = .ok (.invokevirtual 55, 3) := by decide +kernel
theorem dX0_add_23 : decode cX0_add 23 = .ok (.iload_n 2, 1) := by decide +kernel
theorem dX0_add_24 : decode cX0_add 24 = .ok (.ireturn, 1) := by decide +kernel
theorem dX0_findWire_0 : decode cX0_findWire 0 = .ok (.iconst 0, 1) := by decide +kernel
theorem dX0_findWire_1 : decode cX0_findWire 1 = .ok (.istore_n 3, 1) := by decide +kernel
theorem dX0_findWire_2 : decode cX0_findWire 2 = .ok (.iload_n 3, 1) := by decide +kernel
theorem dX0_findWire_3 : decode cX0_findWire 3 = .ok (.aload_n 0, 1) := by decide +kernel
theorem dX0_findWire_4 : decode cX0_findWire 4 = .ok (.getfield 37, 3) := by decide +kernel
theorem dX0_findWire_7 : decode cX0_findWire 7 = .ok (.iload_n 2, 1) := by decide +kernel
theorem dX0_findWire_8 : decode cX0_findWire 8 = .ok (.iaload, 1) := by decide +kernel
theorem dX0_findWire_9 : decode cX0_findWire 9 = .ok (.if_icmp .ge 23, 3) := by decide +kernel
theorem dX0_findWire_12 : decode cX0_findWire 12 = .ok (.aload_n 0, 1) := by decide +kernel
theorem dX0_findWire_13 : decode cX0_findWire 13 = .ok (.getfield 42, 3) := by decide +kernel
theorem dX0_findWire_16 : decode cX0_findWire 16 = .ok (.iload_n 2, 1) := by decide +kernel
theorem dX0_findWire_17 : decode cX0_findWire 17 = .ok (.aaload, 1) := by decide +kernel
theorem dX0_findWire_18 : decode cX0_findWire 18 = .ok (.iload_n 3, 1) := by decide +kernel
theorem dX0_findWire_19 : decode cX0_findWire 19 = .ok (.iaload, 1) := by decide +kernel
theorem dX0_findWire_20 : decode cX0_findWire 20 = .ok (.iload_n 1, 1) := by decide +kernel
theorem dX0_findWire_21 : decode cX0_findWire 21 = .ok (.if_icmp .ne 5, 3) := by decide +kernel
theorem dX0_findWire_24 : decode cX0_findWire 24 = .ok (.iload_n 3, 1) := by decide +kernel
theorem dX0_findWire_25 : decode cX0_findWire 25 = .ok (.ireturn, 1) := by decide +kernel
theorem dX0_findWire_26 : decode cX0_findWire 26 = .ok (.iinc 3 1, 3) := by decide +kernel
theorem dX0_findWire_29 : decode cX0_findWire 29 = .ok (.goto (-27), 3) := by decide +kernel
theorem dX0_findWire_32 : decode cX0_findWire 32 = .ok (.iconst (-1), 1) := by decide +kernel
theorem dX0_findWire_33 : decode cX0_findWire 33 = .ok (.ireturn, 1) := by decide +kernel
theorem dX0_addWire_0 : decode cX0_addWire 0 = .ok (.aload_n 0, 1) := by decide +kernel
theorem dX0_addWire_1 : decode cX0_addWire 1 = .ok (.getfield 37, 3) := by decide +kernel
theorem dX0_addWire_4 : decode cX0_addWire 4 = .ok (.iload_n 2, 1) := by decide +kernel
theorem dX0_addWire_5 : decode cX0_addWire 5 = .ok (.iaload, 1) := by decide +kernel
theorem dX0_addWire_6 : decode cX0_addWire 6 = .ok (.istore 4, 2) := by decide +kernel
theorem dX0_addWire_8 : decode cX0_addWire 8 = .ok (.aload_n 0, 1) := by decide +kernel
theorem dX0_addWire_9 : decode cX0_addWire 9 = .ok (.getfield 42, 3) := by decide +kernel
theorem dX0_addWire_12 : decode cX0_addWire 12 = .ok (.iload_n 2, 1) := by decide +kernel
theorem dX0_addWire_13 : decode cX0_addWire 13 = .ok (.aaload, 1) := by decide +kernel
theorem dX0_addWire_14 : decode cX0_addWire 14 = .ok (.iload 4, 2) := by decide +kernel
theorem dX0_addWire_16 : decode cX0_addWire 16 = .ok (.iload_n 1, 1) := by decide +kernel
theorem dX0_addWire_17 : decode cX0_addWire 17 = .ok (.iastore, 1) := by decide +kernel
theorem dX0_addWire_18 : decode cX0_addWire 18 = .ok (.aload_n 0, 1) := by decide +kernel
theorem dX0_addWire_19 : decode cX0_addWire 19 = .ok (.getfield 45, 3) := by decide +kernel
theorem dX0_addWire_22 : decode cX0_addWire 22 = .ok (.iload_n 2, 1) := by decide +kernel
theorem dX0_addWire_23 : decode cX0_addWire 23 = .ok (.aaload, 1) := by decide +kernel
theorem dX0_addWire_24 : decode cX0_addWire 24 = .ok (.iload 4, 2) := by decide +kernel
theorem dX0_addWire_26 : decode cX0_addWire 26 = .ok (.iload_n 3, 1) := by decide +kernel
theorem dX0_addWire_27 : decode cX0_addWire 27 = .ok (.iastore, 1) := by decide +kernel
theorem dX0_addWire_28 : decode cX0_addWire 28 = .ok (.aload_n 0, 1) := by decide +kernel
theorem dX0_addWire_29 : decode cX0_addWire 29 = .ok (.getfield 37, 3) := by decide +kernel
theorem dX0_addWire_32 : decode cX0_addWire 32 = .ok (.iload_n 2, 1) := by decide +kernel
theorem dX0_addWire_33 : decode cX0_addWire 33 = .ok (.iload 4, 2) := by decide +kernel
theorem dX0_addWire_35 : decode cX0_addWire 35 = .ok (.iconst 1, 1) := by decide +kernel
theorem dX0_addWire_36 : decode cX0_addWire 36 = .ok (.iadd, 1) := by decide +kernel
theorem dX0_addWire_37 : decode cX0_addWire 37 = .ok (.iastore, 1) := by decide +kernel
theorem dX0_addWire_38 : decode cX0_addWire 38 = .ok (.aload_n 0, 1) := by decide +kernel
theorem dX0_addWire_39 : decode cX0_addWire 39 = .ok (.invokevirtual 55, 3) := by decide +kernel
theorem dX0_addWire_42 : decode cX0_addWire 42 = .ok (.aload_n 0, 1) := by decide +kernel
theorem dX0_addWire_43 : decode cX0_addWire 43 = .ok (.getfield 37, 3) := by decide +kernel
theorem dX0_addWire_46 : decode cX0_addWire 46 = .ok (.iload_n 2, 1) := by decide +kernel
theorem dX0_addWire_47 : decode cX0_addWire 47 = .ok (.iaload, 1) := by decide +kernel
theorem dX0_addWire_48 : decode cX0_addWire 48 = .ok (.ireturn, 1) := by decide +kernel
theorem dX0_removeWire_0 : decode cX0_removeWire 0 = .ok (.aload_n 0, 1) := by decide +kernel
theorem dX0_removeWire_1 : decode cX0_removeWire 1 = .ok (.getfield 45, 3) := by decide +kernel
theorem dX0_removeWire_4 : decode cX0_removeWire 4 = .ok (.iload_n 1, 1) := by decide +kernel
theorem dX0_removeWire_5 : decode cX0_removeWire 5 = .ok (.aaload, 1) := by decide +kernel
theorem dX0_removeWire_6 : decode cX0_removeWire 6 = .ok (.iload_n 2, 1) := by decide +kernel
theorem dX0_removeWire_7 : decode cX0_removeWire 7 = .ok (.iaload, 1) := by decide +kernel
theorem dX0_removeWire_8 : decode cX0_removeWire 8 = .ok (.istore_n 3, 1) := by decide +kernel
theorem dX0_removeWire_9 : decode cX0_removeWire 9 = .ok (.iload_n 2, 1) := by decide +kernel
theorem dX0_removeWire_10 : decode cX0_removeWire 10 = .ok (.iconst 1, 1) := by decide +kernel
theorem dX0_removeWire_11 : decode cX0_removeWire 11 = .ok (.iadd, 1) := by decide +kernel
theorem dX0_removeWire_12 : decode cX0_removeWire 12 = .ok (.istore 4, 2) := by decide +kernel
theorem dX0_removeWire_14 : decode cX0_removeWire 14 = .ok (.iload 4, 2) := by decide +kernel
theorem dX0_removeWire_16 : decode cX0_removeWire 16 = .ok (.aload_n 0, 1) := by decide +kernel
theorem dX0_removeWire_17 : decode cX0_removeWire 17 = .ok (.getfield 37, 3) := by decide +kernel
theorem dX0_removeWire_20 : decode cX0_removeWire 20 = .ok (.iload_n 1, 1) := by decide +kernel
theorem dX0_removeWire_21 : decode cX0_removeWire 21 = .ok (.iaload, 1) := by decide +kernel
theorem dX0_removeWire_22 : decode cX0_removeWire 22 = .ok (.if_icmp .ge 49, 3) := by decide +kernel
theorem dX0_removeWire_25 : decode cX0_removeWire 25 = .ok (.aload_n 0, 1) := by decide +kernel
theorem dX0_removeWire_26 : decode cX0_removeWire 26 = .ok (.getfield 42, 3) := by decide +kernel
theorem dX0_removeWire_29 : decode cX0_removeWire 29 = .ok (.iload_n 1, 1) := by decide +kernel
theorem dX0_removeWire_30 : decode cX0_removeWire 30 = .ok (.aaload, 1) := by decide +kernel
theorem dX0_removeWire_31 : decode cX0_removeWire 31 = .ok (.iload 4, 2) := by decide +kernel
theorem dX0_removeWire_33 : decode cX0_removeWire 33 = .ok (.iconst 1, 1) := by decide +kernel
theorem dX0_removeWire_34 : decode cX0_removeWire 34 = .ok (.isub, 1) := by decide +kernel
theorem dX0_removeWire_35 : decode cX0_removeWire 35 = .ok (.aload_n 0, 1) := by decide +kernel
theorem dX0_removeWire_36 : decode cX0_removeWire 36 = .ok (.getfield 42, 3) := by decide +kernel
theorem dX0_removeWire_39 : decode cX0_removeWire 39 = .ok (.iload_n 1, 1) := by decide +kernel
theorem dX0_removeWire_40 : decode cX0_removeWire 40 = .ok (.aaload, 1) := by decide +kernel
theorem dX0_removeWire_41 : decode cX0_removeWire 41 = .ok (.iload 4, 2) := by decide +kernel
theorem dX0_removeWire_43 : decode cX0_removeWire 43 = .ok (.iaload, 1) := by decide +kernel
theorem dX0_removeWire_44 : decode cX0_removeWire 44 = .ok (.iastore, 1) := by decide +kernel
theorem dX0_removeWire_45 : decode cX0_removeWire 45 = .ok (.aload_n 0, 1) := by decide +kernel
theorem dX0_removeWire_46 : decode cX0_removeWire 46 = .ok (.getfield 45, 3) := by decide +kernel
theorem dX0_removeWire_49 : decode cX0_removeWire 49 = .ok (.iload_n 1, 1) := by decide +kernel
theorem dX0_removeWire_50 : decode cX0_removeWire 50 = .ok (.aaload, 1) := by decide +kernel
theorem dX0_removeWire_51 : decode cX0_removeWire 51 = .ok (.iload 4, 2) := by decide +kernel
theorem dX0_removeWire_53 : decode cX0_removeWire 53 = .ok (.iconst 1, 1) := by decide +kernel
theorem dX0_removeWire_54 : decode cX0_removeWire 54 = .ok (.isub, 1) := by decide +kernel
theorem dX0_removeWire_55 : decode cX0_removeWire 55 = .ok (.aload_n 0, 1) := by decide +kernel
theorem dX0_removeWire_56 : decode cX0_removeWire 56 = .ok (.getfield 45, 3) := by decide +kernel
theorem dX0_removeWire_59 : decode cX0_removeWire 59 = .ok (.iload_n 1, 1) := by decide +kernel
theorem dX0_removeWire_60 : decode cX0_removeWire 60 = .ok (.aaload, 1) := by decide +kernel
theorem dX0_removeWire_61 : decode cX0_removeWire 61 = .ok (.iload 4, 2) := by decide +kernel
theorem dX0_removeWire_63 : decode cX0_removeWire 63 = .ok (.iaload, 1) := by decide +kernel
theorem dX0_removeWire_64 : decode cX0_removeWire 64 = .ok (.iastore, 1) := by decide +kernel
theorem dX0_removeWire_65 : decode cX0_removeWire 65 = .ok (.iinc 4 1, 3) := by decide +kernel
theorem dX0_removeWire_68 : decode cX0_removeWire 68 = .ok (.goto (-54), 3) := by decide +kernel
theorem dX0_removeWire_71 : decode cX0_removeWire 71 = .ok (.aload_n 0, 1) := by decide +kernel
theorem dX0_removeWire_72 : decode cX0_removeWire 72 = .ok (.getfield 37, 3) := by decide +kernel
theorem dX0_removeWire_75 : decode cX0_removeWire 75 = .ok (.iload_n 1, 1) := by decide +kernel
theorem dX0_removeWire_76 : decode cX0_removeWire 76 = .ok (.dup2, 1) := by decide +kernel
theorem dX0_removeWire_77 : decode cX0_removeWire 77 = .ok (.iaload, 1) := by decide +kernel
theorem dX0_removeWire_78 : decode cX0_removeWire 78 = .ok (.iconst 1, 1) := by decide +kernel
theorem dX0_removeWire_79 : decode cX0_removeWire 79 = .ok (.isub, 1) := by decide +kernel
theorem dX0_removeWire_80 : decode cX0_removeWire 80 = .ok (.iastore, 1) := by decide +kernel
theorem dX0_removeWire_81 : decode cX0_removeWire 81 = .ok (.aload_n 0, 1) := by decide +kernel
theorem dX0_removeWire_82 : decode cX0_removeWire 82 = .ok (.invokevirtual 55, 3) := by decide +kernel
theorem dX0_removeWire_85 : decode cX0_removeWire 85 = .ok (.iload_n 3, 1) := by decide +kernel
theorem dX0_removeWire_86 : decode cX0_removeWire 86 = .ok (.ireturn, 1) := by decide +kernel
theorem dX0_closesBareCircle_0 : decode cX0_closesBareCircle 0 = .ok (.aload_n 0, 1) := by decide +kernel
theorem dX0_closesBareCircle_1 : decode cX0_closesBareCircle 1 = .ok (.getfield 9, 3) := by decide +kernel
theorem dX0_closesBareCircle_4 : decode cX0_closesBareCircle 4 = .ok (.iload_n 1, 1) := by decide +kernel
theorem dX0_closesBareCircle_5 : decode cX0_closesBareCircle 5 = .ok (.caload, 1) := by decide +kernel
theorem dX0_closesBareCircle_6 : decode cX0_closesBareCircle 6 = .ok (.bipush 100, 2) := by decide +kernel
theorem dX0_closesBareCircle_8 : decode cX0_closesBareCircle 8 = .ok (.if_icmp .eq 14, 3) := by decide +kernel
theorem dX0_closesBareCircle_11 : decode cX0_closesBareCircle 11 = .ok (.aload_n 0, 1) := by decide +kernel
theorem dX0_closesBareCircle_12 : decode cX0_closesBareCircle 12 = .ok (.getfield 9, 3) := by decide +kernel
theorem dX0_closesBareCircle_15 : decode cX0_closesBareCircle 15 = .ok (.iload_n 2, 1) := by decide +kernel
theorem dX0_closesBareCircle_16 : decode cX0_closesBareCircle 16 = .ok (.caload, 1) := by decide +kernel
theorem dX0_closesBareCircle_17 : decode cX0_closesBareCircle 17 = .ok (.bipush 100, 2) := by decide +kernel
theorem dX0_closesBareCircle_19 : decode cX0_closesBareCircle 19 = .ok (.if_icmp .ne 5, 3) := by decide +kernel
theorem dX0_closesBareCircle_22 : decode cX0_closesBareCircle 22 = .ok (.iconst 0, 1) := by decide +kernel
theorem dX0_closesBareCircle_23 : decode cX0_closesBareCircle 23 = .ok (.ireturn, 1) := by decide +kernel
theorem dX0_closesBareCircle_24 : decode cX0_closesBareCircle 24 = .ok (.iconst 1, 1) := by decide +kernel
theorem dX0_closesBareCircle_25 : decode cX0_closesBareCircle 25 = .ok (.iload_n 2, 1) := by decide +kernel
theorem dX0_closesBareCircle_26 : decode cX0_closesBareCircle 26 = .ok (.ishl, 1) := by decide +kernel
theorem dX0_closesBareCircle_27 : decode cX0_closesBareCircle 27 = .ok (.istore_n 3, 1) := by decide +kernel
theorem dX0_closesBareCircle_28 : decode cX0_closesBareCircle 28 = .ok (.iconst 0, 1) := by decide +kernel
theorem dX0_closesBareCircle_29 : decode cX0_closesBareCircle 29 = .ok (.istore 4, 2) := by decide +kernel
theorem dX0_closesBareCircle_31 : decode cX0_closesBareCircle 31 = .ok (.iload 4, 2) := by decide +kernel
theorem dX0_closesBareCircle_33 : decode cX0_closesBareCircle 33 = .ok (.aload_n 0, 1) := by decide +kernel
theorem dX0_closesBareCircle_34 : decode cX0_closesBareCircle 34 = .ok (.getfield 51, 3) := by decide +kernel
theorem dX0_closesBareCircle_37 : decode cX0_closesBareCircle 37 = .ok (.if_icmp .ge 56, 3) := by decide +kernel
theorem dX0_closesBareCircle_40 : decode cX0_closesBareCircle 40 = .ok (.iconst 0, 1) := by decide +kernel
theorem dX0_closesBareCircle_41 : decode cX0_closesBareCircle 41 = .ok (.istore 5, 2) := by decide +kernel
theorem dX0_closesBareCircle_43 : decode cX0_closesBareCircle 43 = .ok (.iload 5, 2) := by decide +kernel
theorem dX0_closesBareCircle_45 : decode cX0_closesBareCircle 45 = .ok (.aload_n 0, 1) := by decide +kernel
theorem dX0_closesBareCircle_46 : decode cX0_closesBareCircle 46 = .ok (.getfield 51, 3) := by decide +kernel
theorem dX0_closesBareCircle_49 : decode cX0_closesBareCircle 49 = .ok (.if_icmp .ge 38, 3) := by decide +kernel
theorem dX0_closesBareCircle_52 : decode cX0_closesBareCircle 52 = .ok (.aload_n 0, 1) := by decide +kernel
theorem dX0_closesBareCircle_53 : decode cX0_closesBareCircle 53 = .ok (.getfield 9, 3) := by decide +kernel
theorem dX0_closesBareCircle_56 : decode cX0_closesBareCircle 56 = .ok (.iload 5, 2) := by decide +kernel
theorem dX0_closesBareCircle_58 : decode cX0_closesBareCircle 58 = .ok (.caload, 1) := by decide +kernel
theorem dX0_closesBareCircle_59 : decode cX0_closesBareCircle 59 = .ok (.bipush 100, 2) := by decide +kernel
theorem dX0_closesBareCircle_61 : decode cX0_closesBareCircle 61 = .ok (.if_icmp .eq 20, 3) := by decide +kernel
theorem dX0_closesBareCircle_64 : decode cX0_closesBareCircle 64 = .ok (.aload_n 0, 1) := by decide +kernel
theorem dX0_closesBareCircle_65 : decode cX0_closesBareCircle 65 = .ok (.iload 5, 2) := by decide +kernel
theorem dX0_closesBareCircle_67 : decode cX0_closesBareCircle 67 = .ok (.iload_n 3, 1) := by decide +kernel
theorem dX0_closesBareCircle_68 : decode cX0_closesBareCircle 68 = .ok (.invokevirtual 58, 3) := by decide +kernel
theorem dX0_closesBareCircle_71 : decode cX0_closesBareCircle 71 = .ok (.ifCond .eq 10, 3) := by decide +kernel
theorem dX0_closesBareCircle_74 : decode cX0_closesBareCircle 74 = .ok (.iload_n 3, 1) := by decide +kernel
theorem dX0_closesBareCircle_75 : decode cX0_closesBareCircle 75 = .ok (.iconst 1, 1) := by decide +kernel
theorem dX0_closesBareCircle_76 : decode cX0_closesBareCircle 76 = .ok (.iload 5, 2) := by decide +kernel
theorem dX0_closesBareCircle_78 : decode cX0_closesBareCircle 78 = .ok (.ishl, 1) := by decide +kernel
theorem dX0_closesBareCircle_79 : decode cX0_closesBareCircle 79 = .ok (.ior, 1) := by decide +kernel
theorem dX0_closesBareCircle_80 : decode cX0_closesBareCircle 80 = .ok (.istore_n 3, 1) := by decide +kernel
theorem dX0_closesBareCircle_81 : decode cX0_closesBareCircle 81 = .ok (.iinc 5 1, 3) := by decide +kernel
theorem dX0_closesBareCircle_84 : decode cX0_closesBareCircle 84 = .ok (.goto (-41), 3) := by decide +kernel
theorem dX0_closesBareCircle_87 : decode cX0_closesBareCircle 87 = .ok (.iinc 4 1, 3) := by decide +kernel
theorem dX0_closesBareCircle_90 : decode cX0_closesBareCircle 90 = .ok (.goto (-59), 3) := by decide +kernel
theorem dX0_closesBareCircle_93 : decode cX0_closesBareCircle 93 = .ok (.iload_n 3, 1) := by decide +kernel
theorem dX0_closesBareCircle_94 : decode cX0_closesBareCircle 94 = .ok (.iload_n 1, 1) := by decide +kernel
theorem dX0_closesBareCircle_95 : decode cX0_closesBareCircle 95 = .ok (.invokestatic 62, 3) := by decide +kernel
theorem dX0_closesBareCircle_98 : decode cX0_closesBareCircle 98 = .ok (.ireturn, 1) := by decide +kernel
theorem dX0_hasWireFrom_0 : decode cX0_hasWireFrom 0 = .ok (.iconst 0, 1) := by decide +kernel
theorem dX0_hasWireFrom_1 : decode cX0_hasWireFrom 1 = .ok (.istore_n 3, 1) := by decide +kernel
theorem dX0_hasWireFrom_2 : decode cX0_hasWireFrom 2 = .ok (.iload_n 3, 1) := by decide +kernel
theorem dX0_hasWireFrom_3 : decode cX0_hasWireFrom 3 = .ok (.aload_n 0, 1) := by decide +kernel
theorem dX0_hasWireFrom_4 : decode cX0_hasWireFrom 4 = .ok (.getfield 37, 3) := by decide +kernel
theorem dX0_hasWireFrom_7 : decode cX0_hasWireFrom 7 = .ok (.iload_n 1, 1) := by decide +kernel
theorem dX0_hasWireFrom_8 : decode cX0_hasWireFrom 8 = .ok (.iaload, 1) := by decide +kernel
theorem dX0_hasWireFrom_9 : decode cX0_hasWireFrom 9 = .ok (.if_icmp .ge 26, 3) := by decide +kernel
theorem dX0_hasWireFrom_12 : decode cX0_hasWireFrom 12 = .ok (.iload_n 2, 1) := by decide +kernel
theorem dX0_hasWireFrom_13 : decode cX0_hasWireFrom 13 = .ok (.aload_n 0, 1) := by decide +kernel
theorem dX0_hasWireFrom_14 : decode cX0_hasWireFrom 14 = .ok (.getfield 42, 3) := by decide +kernel
theorem dX0_hasWireFrom_17 : decode cX0_hasWireFrom 17 = .ok (.iload_n 1, 1) := by decide +kernel
theorem dX0_hasWireFrom_18 : decode cX0_hasWireFrom 18 = .ok (.aaload, 1) := by decide +kernel
theorem dX0_hasWireFrom_19 : decode cX0_hasWireFrom 19 = .ok (.iload_n 3, 1) := by decide +kernel
theorem dX0_hasWireFrom_20 : decode cX0_hasWireFrom 20 = .ok (.iaload, 1) := by decide +kernel
theorem dX0_hasWireFrom_21 : decode cX0_hasWireFrom 21 = .ok (.invokestatic 62, 3) := by decide +kernel
theorem dX0_hasWireFrom_24 : decode cX0_hasWireFrom 24 = .ok (.ifCond .eq 5, 3) := by decide +kernel
theorem dX0_hasWireFrom_27 : decode cX0_hasWireFrom 27 = .ok (.iconst 1, 1) := by decide +kernel
theorem dX0_hasWireFrom_28 : decode cX0_hasWireFrom 28 = .ok (.ireturn, 1) := by decide +kernel
theorem dX0_hasWireFrom_29 : decode cX0_hasWireFrom 29 = .ok (.iinc 3 1, 3) := by decide +kernel
theorem dX0_hasWireFrom_32 : decode cX0_hasWireFrom 32 = .ok (.goto (-30), 3) := by decide +kernel
theorem dX0_hasWireFrom_35 : decode cX0_hasWireFrom 35 = .ok (.iconst 0, 1) := by decide +kernel
theorem dX0_hasWireFrom_36 : decode cX0_hasWireFrom 36 = .ok (.ireturn, 1) := by decide +kernel
theorem dX0_arrange_0 : decode cX0_arrange 0 = .ok (.iconst 0, 1) := by decide +kernel
theorem dX0_arrange_1 : decode cX0_arrange 1 = .ok (.istore_n 1, 1) := by decide +kernel
theorem dX0_arrange_2 : decode cX0_arrange 2 = .ok (.iconst 0, 1) := by decide +kernel
theorem dX0_arrange_3 : decode cX0_arrange 3 = .ok (.istore_n 2, 1) := by decide +kernel
theorem dX0_arrange_4 : decode cX0_arrange 4 = .ok (.iload_n 2, 1) := by decide +kernel
theorem dX0_arrange_5 : decode cX0_arrange 5 = .ok (.aload_n 0, 1) := by decide +kernel
theorem dX0_arrange_6 : decode cX0_arrange 6 = .ok (.getfield 51, 3) := by decide +kernel
theorem dX0_arrange_9 : decode cX0_arrange 9 = .ok (.if_icmp .ge 28, 3) := by decide +kernel
theorem dX0_arrange_12 : decode cX0_arrange 12 = .ok (.aload_n 0, 1) := by decide +kernel
theorem dX0_arrange_13 : decode cX0_arrange 13 = .ok (.iload_n 1, 1) := by decide +kernel
theorem dX0_arrange_14 : decode cX0_arrange 14 = .ok (.invokevirtual 65, 3) := by decide +kernel
theorem dX0_arrange_17 : decode cX0_arrange 17 = .ok (.istore_n 3, 1) := by decide +kernel
theorem dX0_arrange_18 : decode cX0_arrange 18 = .ok (.aload_n 0, 1) := by decide +kernel
theorem dX0_arrange_19 : decode cX0_arrange 19 = .ok (.getfield 48, 3) := by decide +kernel
theorem dX0_arrange_22 : decode cX0_arrange 22 = .ok (.iload_n 2, 1) := by decide +kernel
theorem dX0_arrange_23 : decode cX0_arrange 23 = .ok (.iload_n 3, 1) := by decide +kernel
theorem dX0_arrange_24 : decode cX0_arrange 24 = .ok (.iastore, 1) := by decide +kernel
theorem dX0_arrange_25 : decode cX0_arrange 25 = .ok (.iload_n 1, 1) := by decide +kernel
theorem dX0_arrange_26 : decode cX0_arrange 26 = .ok (.iconst 1, 1) := by decide +kernel
theorem dX0_arrange_27 : decode cX0_arrange 27 = .ok (.iload_n 3, 1) := by decide +kernel
theorem dX0_arrange_28 : decode cX0_arrange 28 = .ok (.ishl, 1) := by decide +kernel
theorem dX0_arrange_29 : decode cX0_arrange 29 = .ok (.ior, 1) := by decide +kernel
theorem dX0_arrange_30 : decode cX0_arrange 30 = .ok (.istore_n 1, 1) := by decide +kernel
theorem dX0_arrange_31 : decode cX0_arrange 31 = .ok (.iinc 2 1, 3) := by decide +kernel
theorem dX0_arrange_34 : decode cX0_arrange 34 = .ok (.goto (-30), 3) := by decide +kernel
theorem dX0_arrange_37 : decode cX0_arrange 37 = .ok (.return_, 1) := by decide +kernel
theorem dX0_lowestReady_0 : decode cX0_lowestReady 0 = .ok (.iconst 0, 1) := by decide +kernel
theorem dX0_lowestReady_1 : decode cX0_lowestReady 1 = .ok (.istore_n 2, 1) := by decide +kernel
theorem dX0_lowestReady_2 : decode cX0_lowestReady 2 = .ok (.iload_n 2, 1) := by decide +kernel
theorem dX0_lowestReady_3 : decode cX0_lowestReady 3 = .ok (.aload_n 0, 1) := by decide +kernel
theorem dX0_lowestReady_4 : decode cX0_lowestReady 4 = .ok (.getfield 51, 3) := by decide +kernel
theorem dX0_lowestReady_7 : decode cX0_lowestReady 7 = .ok (.if_icmp .ge 41, 3) := by decide +kernel
theorem dX0_lowestReady_10 : decode cX0_lowestReady 10 = .ok (.iload_n 1, 1) := by decide +kernel
theorem dX0_lowestReady_11 : decode cX0_lowestReady 11 = .ok (.iload_n 2, 1) := by decide +kernel
theorem dX0_lowestReady_12 : decode cX0_lowestReady 12 = .ok (.invokestatic 62, 3) := by decide +kernel
theorem dX0_lowestReady_15 : decode cX0_lowestReady 15 = .ok (.ifCond .ne 27, 3) := by decide +kernel
theorem dX0_lowestReady_18 : decode cX0_lowestReady 18 = .ok (.aload_n 0, 1) := by decide +kernel
theorem dX0_lowestReady_19 : decode cX0_lowestReady 19 = .ok (.getfield 9, 3) := by decide +kernel
theorem dX0_lowestReady_22 : decode cX0_lowestReady 22 = .ok (.iload_n 2, 1) := by decide +kernel
theorem dX0_lowestReady_23 : decode cX0_lowestReady 23 = .ok (.caload, 1) := by decide +kernel
theorem dX0_lowestReady_24 : decode cX0_lowestReady 24 = .ok (.bipush 100, 2) := by decide +kernel
theorem dX0_lowestReady_26 : decode cX0_lowestReady 26 = .ok (.if_icmp .eq 14, 3) := by decide +kernel
theorem dX0_lowestReady_29 : decode cX0_lowestReady 29 = .ok (.aload_n 0, 1) := by decide +kernel
theorem dX0_lowestReady_30 : decode cX0_lowestReady 30 = .ok (.iload_n 2, 1) := by decide +kernel
theorem dX0_lowestReady_31 : decode cX0_lowestReady 31 = .ok (.iload_n 1, 1) := by decide +kernel
theorem dX0_lowestReady_32 : decode cX0_lowestReady 32 = .ok (.iconst (-1), 1) := by decide +kernel
theorem dX0_lowestReady_33 : decode cX0_lowestReady 33 = .ok (.ixor, 1) := by decide +kernel
theorem dX0_lowestReady_34 : decode cX0_lowestReady 34 = .ok (.invokevirtual 58, 3) := by decide +kernel
theorem dX0_lowestReady_37 : decode cX0_lowestReady 37 = .ok (.ifCond .ne 5, 3) := by decide +kernel
theorem dX0_lowestReady_40 : decode cX0_lowestReady 40 = .ok (.iload_n 2, 1) := by decide +kernel
theorem dX0_lowestReady_41 : decode cX0_lowestReady 41 = .ok (.ireturn, 1) := by decide +kernel
theorem dX0_lowestReady_42 : decode cX0_lowestReady 42 = .ok (.iinc 2 1, 3) := by decide +kernel
theorem dX0_lowestReady_45 : decode cX0_lowestReady 45 = .ok (.goto (-43), 3) := by decide +kernel
theorem dX0_lowestReady_48 : decode cX0_lowestReady 48 = .ok (.iconst 0, 1) := by decide +kernel
theorem dX0_lowestReady_49 : decode cX0_lowestReady 49 = .ok (.ireturn, 1) := by decide +kernel
theorem dX0_isIn_0 : decode cX0_isIn 0 = .ok (.iload_n 0, 1) := by decide +kernel
theorem dX0_isIn_1 : decode cX0_isIn 1 = .ok (.iload_n 1, 1) := by decide +kernel
theorem dX0_isIn_2 : decode cX0_isIn 2 = .ok (.ishr, 1) := by decide +kernel
theorem dX0_isIn_3 : decode cX0_isIn 3 = .ok (.iconst 1, 1) := by decide +kernel
theorem dX0_isIn_4 : decode cX0_isIn 4 = .ok (.iand, 1) := by decide +kernel
theorem dX0_isIn_5 : decode cX0_isIn 5 = .ok (.iconst 1, 1) := by decide +kernel
theorem dX0_isIn_6 : decode cX0_isIn 6 = .ok (.if_icmp .ne 7, 3) := by decide +kernel
theorem dX0_isIn_9 : decode cX0_isIn 9 = .ok (.iconst 1, 1) := by decide +kernel
theorem dX0_isIn_10 : decode cX0_isIn 10 = .ok (.goto 4, 3) := by decide +kernel
theorem dX0_isIn_13 : decode cX0_isIn 13 = .ok (.iconst 0, 1) := by decide +kernel
theorem dX0_isIn_14 : decode cX0_isIn 14 = .ok (.ireturn, 1) := by decide +kernel
theorem dX0_shortestDelay_0 : decode cX0_shortestDelay 0 = .ok (.bipush 64, 2) := by decide +kernel
theorem dX0_shortestDelay_2 : decode cX0_shortestDelay 2 = .ok (.istore_n 1, 1) := by decide +kernel
theorem dX0_shortestDelay_3 : decode cX0_shortestDelay 3 = .ok (.iconst 0, 1) := by decide +kernel
theorem dX0_shortestDelay_4 : decode cX0_shortestDelay 4 = .ok (.istore_n 2, 1) := by decide +kernel
theorem dX0_shortestDelay_5 : decode cX0_shortestDelay 5 = .ok (.iload_n 2, 1) := by decide +kernel
theorem dX0_shortestDelay_6 : decode cX0_shortestDelay 6 = .ok (.aload_n 0, 1) := by decide +kernel
theorem dX0_shortestDelay_7 : decode cX0_shortestDelay 7 = .ok (.getfield 51, 3) := by decide +kernel
theorem dX0_shortestDelay_10 : decode cX0_shortestDelay 10 = .ok (.if_icmp .ge 31, 3) := by decide +kernel
theorem dX0_shortestDelay_13 : decode cX0_shortestDelay 13 = .ok (.aload_n 0, 1) := by decide +kernel
theorem dX0_shortestDelay_14 : decode cX0_shortestDelay 14 = .ok (.getfield 9, 3) := by decide +kernel
theorem dX0_shortestDelay_17 : decode cX0_shortestDelay 17 = .ok (.iload_n 2, 1) := by decide +kernel
theorem dX0_shortestDelay_18 : decode cX0_shortestDelay 18 = .ok (.caload, 1) := by decide +kernel
theorem dX0_shortestDelay_19 : decode cX0_shortestDelay 19 = .ok (.bipush 100, 2) := by decide +kernel
theorem dX0_shortestDelay_21 : decode cX0_shortestDelay 21 = .ok (.if_icmp .ne 14, 3) := by decide +kernel
theorem dX0_shortestDelay_24 : decode cX0_shortestDelay 24 = .ok (.iload_n 1, 1) := by decide +kernel
theorem dX0_shortestDelay_25 : decode cX0_shortestDelay 25 = .ok (.aload_n 0, 1) := by decide +kernel
theorem dX0_shortestDelay_26 : decode cX0_shortestDelay 26 = .ok (.getfield 19, 3) := by decide +kernel
theorem dX0_shortestDelay_29 : decode cX0_shortestDelay 29 = .ok (.iload_n 2, 1) := by decide +kernel
theorem dX0_shortestDelay_30 : decode cX0_shortestDelay 30 = .ok (.iaload, 1) := by decide +kernel
theorem dX0_shortestDelay_31 : decode cX0_shortestDelay 31 = .ok (.invokestatic 69, 3) := by decide +kernel
theorem dX0_shortestDelay_34 : decode cX0_shortestDelay 34 = .ok (.istore_n 1, 1) := by decide +kernel
theorem dX0_shortestDelay_35 : decode cX0_shortestDelay 35 = .ok (.iinc 2 1, 3) := by decide +kernel
theorem dX0_shortestDelay_38 : decode cX0_shortestDelay 38 = .ok (.goto (-33), 3) := by decide +kernel
theorem dX0_shortestDelay_41 : decode cX0_shortestDelay 41 = .ok (.iload_n 1, 1) := by decide +kernel
theorem dX0_shortestDelay_42 : decode cX0_shortestDelay 42 = .ok (.ireturn, 1) := by decide +kernel
theorem dX0_isInOrder_0 : decode cX0_isInOrder 0 = .ok (.iconst 0, 1) := by decide +kernel
theorem dX0_isInOrder_1 : decode cX0_isInOrder 1 = .ok (.istore_n 1, 1) := by decide +kernel
theorem dX0_isInOrder_2 : decode cX0_isInOrder 2 = .ok (.iconst 0, 1) := by decide +kernel
theorem dX0_isInOrder_3 : decode cX0_isInOrder 3 = .ok (.istore_n 2, 1) := by decide +kernel
theorem dX0_isInOrder_4 : decode cX0_isInOrder 4 = .ok (.iload_n 2, 1) := by decide +kernel
theorem dX0_isInOrder_5 : decode cX0_isInOrder 5 = .ok (.aload_n 0, 1) := by decide +kernel
theorem dX0_isInOrder_6 : decode cX0_isInOrder 6 = .ok (.getfield 51, 3) := by decide +kernel
theorem dX0_isInOrder_9 : decode cX0_isInOrder 9 = .ok (.if_icmp .ge 46, 3) := by decide +kernel
theorem dX0_isInOrder_12 : decode cX0_isInOrder 12 = .ok (.aload_n 0, 1) := by decide +kernel
theorem dX0_isInOrder_13 : decode cX0_isInOrder 13 = .ok (.getfield 48, 3) := by decide +kernel
theorem dX0_isInOrder_16 : decode cX0_isInOrder 16 = .ok (.iload_n 2, 1) := by decide +kernel
theorem dX0_isInOrder_17 : decode cX0_isInOrder 17 = .ok (.iaload, 1) := by decide +kernel
theorem dX0_isInOrder_18 : decode cX0_isInOrder 18 = .ok (.istore_n 3, 1) := by decide +kernel
theorem dX0_isInOrder_19 : decode cX0_isInOrder 19 = .ok (.aload_n 0, 1) := by decide +kernel
theorem dX0_isInOrder_20 : decode cX0_isInOrder 20 = .ok (.getfield 9, 3) := by decide +kernel
theorem dX0_isInOrder_23 : decode cX0_isInOrder 23 = .ok (.iload_n 3, 1) := by decide +kernel
theorem dX0_isInOrder_24 : decode cX0_isInOrder 24 = .ok (.caload, 1) := by decide +kernel
theorem dX0_isInOrder_25 : decode cX0_isInOrder 25 = .ok (.bipush 100, 2) := by decide +kernel
theorem dX0_isInOrder_27 : decode cX0_isInOrder 27 = .ok (.if_icmp .eq 16, 3) := by decide +kernel
theorem dX0_isInOrder_30 : decode cX0_isInOrder 30 = .ok (.aload_n 0, 1) := by decide +kernel
theorem dX0_isInOrder_31 : decode cX0_isInOrder 31 = .ok (.iload_n 3, 1) := by decide +kernel
theorem dX0_isInOrder_32 : decode cX0_isInOrder 32 = .ok (.iload_n 1, 1) := by decide +kernel
theorem dX0_isInOrder_33 : decode cX0_isInOrder 33 = .ok (.iconst (-1), 1) := by decide +kernel
theorem dX0_isInOrder_34 : decode cX0_isInOrder 34 = .ok (.ixor, 1) := by decide +kernel
theorem dX0_isInOrder_35 : decode cX0_isInOrder 35 = .ok (.invokevirtual 58, 3) := by decide +kernel
theorem dX0_isInOrder_38 : decode cX0_isInOrder 38 = .ok (.ifCond .eq 5, 3) := by decide +kernel
theorem dX0_isInOrder_41 : decode cX0_isInOrder 41 = .ok (.iconst 0, 1) := by decide +kernel
theorem dX0_isInOrder_42 : decode cX0_isInOrder 42 = .ok (.ireturn, 1) := by decide +kernel
theorem dX0_isInOrder_43 : decode cX0_isInOrder 43 = .ok (.iload_n 1, 1) := by decide +kernel
theorem dX0_isInOrder_44 : decode cX0_isInOrder 44 = .ok (.iconst 1, 1) := by decide +kernel
theorem dX0_isInOrder_45 : decode cX0_isInOrder 45 = .ok (.iload_n 3, 1) := by decide +kernel
theorem dX0_isInOrder_46 : decode cX0_isInOrder 46 = .ok (.ishl, 1) := by decide +kernel
theorem dX0_isInOrder_47 : decode cX0_isInOrder 47 = .ok (.ior, 1) := by decide +kernel
theorem dX0_isInOrder_48 : decode cX0_isInOrder 48 = .ok (.istore_n 1, 1) := by decide +kernel
theorem dX0_isInOrder_49 : decode cX0_isInOrder 49 = .ok (.iinc 2 1, 3) := by decide +kernel
theorem dX0_isInOrder_52 : decode cX0_isInOrder 52 = .ok (.goto (-48), 3) := by decide +kernel
theorem dX0_isInOrder_55 : decode cX0_isInOrder 55 = .ok (.iconst 1, 1) := by decide +kernel
theorem dX0_isInOrder_56 : decode cX0_isInOrder 56 = .ok (.ireturn, 1) := by decide +kernel
theorem dX1_init_0 : decode cX1_init 0 = .ok (.aload_n 0, 1) := by decide +kernel
theorem dX1_init_1 : decode cX1_init 1 = .ok (.invokespecial 3, 3) := by decide +kernel
theorem dX1_init_4 : decode cX1_init 4 = .ok (.aload_n 0, 1) := by decide +kernel
theorem dX1_init_5 : decode cX1_init 5 = .ok (.iconst 4, 1) := by decide +kernel
theorem dX1_init_6 : decode cX1_init 6 = .ok (.anewarray 9, 3) := by decide +kernel
theorem dX1_init_9 : decode cX1_init 9 = .ok (.putfield 11, 3) := by decide +kernel
theorem dX1_init_12 : decode cX1_init 12 = .ok (.iconst 0, 1) := by decide +kernel
theorem dX1_init_13 : decode cX1_init 13 = .ok (.istore_n 1, 1) := by decide +kernel
theorem dX1_init_14 : decode cX1_init 14 = .ok (.iload_n 1, 1) := by decide +kernel
theorem dX1_init_15 : decode cX1_init 15 = .ok (.iconst 4, 1) := by decide +kernel
theorem dX1_init_16 : decode cX1_init 16 = .ok (.if_icmp .ge 22, 3) := by decide +kernel
theorem dX1_init_19 : decode cX1_init 19 = .ok (.aload_n 0, 1) := by decide +kernel
theorem dX1_init_20 : decode cX1_init 20 = .ok (.getfield 11, 3) := by decide +kernel
theorem dX1_init_23 : decode cX1_init 23 = .ok (.iload_n 1, 1) := by decide +kernel
theorem dX1_init_24 : decode cX1_init 24 = .ok (.new 9, 3) := by decide +kernel
theorem dX1_init_27 : decode cX1_init 27 = .ok (.dup, 1) := by decide +kernel
theorem dX1_init_28 : decode cX1_init 28 = .ok (.invokespecial 17, 3) := by decide +kernel
theorem dX1_init_31 : decode cX1_init 31 = .ok (.aastore, 1) := by decide +kernel
theorem dX1_init_32 : decode cX1_init 32 = .ok (.iinc 1 1, 3) := by decide +kernel
theorem dX1_init_35 : decode cX1_init 35 = .ok (.goto (-21), 3) := by decide +kernel
theorem dX1_init_38 : decode cX1_init 38 = .ok (.return_, 1) := by decide +kernel
theorem dX1_copyFrom_0 : decode cX1_copyFrom 0 = .ok (.iconst 0, 1) := by decide +kernel
theorem dX1_copyFrom_1 : decode cX1_copyFrom 1 = .ok (.istore_n 2, 1) := by decide +kernel
theorem dX1_copyFrom_2 : decode cX1_copyFrom 2 = .ok (.iload_n 2, 1) := by decide +kernel
theorem dX1_copyFrom_3 : decode cX1_copyFrom 3 = .ok (.iconst 4, 1) := by decide +kernel
theorem dX1_copyFrom_4 : decode cX1_copyFrom 4 = .ok (.if_icmp .ge 24, 3) := by decide +kernel
theorem dX1_copyFrom_7 : decode cX1_copyFrom 7 = .ok (.aload_n 0, 1) := by decide +kernel
theorem dX1_copyFrom_8 : decode cX1_copyFrom 8 = .ok (.getfield 11, 3) := by decide +kernel
theorem dX1_copyFrom_11 : decode cX1_copyFrom 11 = .ok (.iload_n 2, 1) := by decide +kernel
theorem dX1_copyFrom_12 : decode cX1_copyFrom 12 = .ok (.aaload, 1) := by decide +kernel
theorem dX1_copyFrom_13 : decode cX1_copyFrom 13 = .ok (.aload_n 1, 1) := by decide +kernel
theorem dX1_copyFrom_14 : decode cX1_copyFrom 14 = .ok (.getfield 11, 3) := by decide +kernel
theorem dX1_copyFrom_17 : decode cX1_copyFrom 17 = .ok (.iload_n 2, 1) := by decide +kernel
theorem dX1_copyFrom_18 : decode cX1_copyFrom 18 = .ok (.aaload, 1) := by decide +kernel
theorem dX1_copyFrom_19 : decode cX1_copyFrom 19 = .ok (.invokevirtual 18, 3) := by decide +kernel
theorem dX1_copyFrom_22 : decode cX1_copyFrom 22 = .ok (.iinc 2 1, 3) := by decide +kernel
theorem dX1_copyFrom_25 : decode cX1_copyFrom 25 = .ok (.goto (-23), 3) := by decide +kernel
theorem dX1_copyFrom_28 : decode cX1_copyFrom 28 = .ok (.return_, 1) := by decide +kernel
theorem dX1_startNote_0 : decode cX1_startNote 0 = .ok (.aload_n 0, 1) := by decide +kernel
theorem dX1_startNote_1 : decode cX1_startNote 1 = .ok (.invokevirtual 22, 3) := by decide +kernel
theorem dX1_startNote_4 : decode cX1_startNote 4 = .ok (.istore 5, 2) := by decide +kernel
theorem dX1_startNote_6 : decode cX1_startNote 6 = .ok (.iload 5, 2) := by decide +kernel
theorem dX1_startNote_8 : decode cX1_startNote 8 = .ok (.iconst (-1), 1) := by decide +kernel
theorem dX1_startNote_9 : decode cX1_startNote 9 = .ok (.if_icmp .ne 19, 3) := by decide +kernel
theorem dX1_startNote_12 : decode cX1_startNote 12 = .ok (.aload_n 0, 1) := by decide +kernel
theorem dX1_startNote_13 : decode cX1_startNote 13 = .ok (.invokevirtual 26, 3) := by decide +kernel
theorem dX1_startNote_16 : decode cX1_startNote 16 = .ok (.istore 5, 2) := by decide +kernel
theorem dX1_startNote_18 : decode cX1_startNote 18 = .ok (.aload_n 0, 1) := by decide +kernel
theorem dX1_startNote_19 : decode cX1_startNote 19 = .ok (.dup, 1) := by decide +kernel
theorem dX1_startNote_20 : decode cX1_startNote 20 = .ok (.getfield 29, 3) := by decide +kernel
theorem dX1_startNote_23 : decode cX1_startNote 23 = .ok (.iconst 1, 1) := by decide +kernel
theorem dX1_startNote_24 : decode cX1_startNote 24 = .ok (.iadd, 1) := by decide +kernel
theorem dX1_startNote_25 : decode cX1_startNote 25 = .ok (.putfield 29, 3) := by decide +kernel
theorem dX1_startNote_28 : decode cX1_startNote 28 = .ok (.aload_n 0, 1) := by decide +kernel
theorem dX1_startNote_29 : decode cX1_startNote 29 = .ok (.dup, 1) := by decide +kernel
theorem dX1_startNote_30 : decode cX1_startNote 30 = .ok (.getfield 33, 3) := by decide +kernel
theorem dX1_startNote_33 : decode cX1_startNote 33 = .ok (.iconst 1, 1) := by decide +kernel
theorem dX1_startNote_34 : decode cX1_startNote 34 = .ok (.iadd, 1) := by decide +kernel
theorem dX1_startNote_35 : decode cX1_startNote 35 = .ok (.putfield 33, 3) := by decide +kernel
theorem dX1_startNote_38 : decode cX1_startNote 38 = .ok (.aload_n 0, 1) := by decide +kernel
theorem dX1_startNote_39 : decode cX1_startNote 39 = .ok (.getfield 11, 3) := by decide +kernel
theorem dX1_startNote_42 : decode cX1_startNote 42 = .ok (.iload 5, 2) := by decide +kernel
theorem dX1_startNote_44 : decode cX1_startNote 44 = .ok (.aaload, 1) := by decide +kernel
theorem dX1_startNote_45 : decode cX1_startNote 45 = .ok (.iload_n 1, 1) := by decide +kernel
theorem dX1_startNote_46 : decode cX1_startNote 46 = .ok (.iload_n 2, 1) := by decide +kernel
theorem dX1_startNote_47 : decode cX1_startNote 47 = .ok (.iload_n 3, 1) := by decide +kernel
theorem dX1_startNote_48 : decode cX1_startNote 48 = .ok (.aload 4, 2) := by decide +kernel
theorem dX1_startNote_50 : decode cX1_startNote 50 = .ok (.aload_n 0, 1) := by decide +kernel
theorem dX1_startNote_51 : decode cX1_startNote 51 = .ok (.getfield 33, 3) := by decide +kernel
theorem dX1_startNote_54 : decode cX1_startNote 54 = .ok (.invokevirtual 36, 3) := by decide +kernel
theorem dX1_startNote_57 : decode cX1_startNote 57 = .ok (.iload 5, 2) := by decide +kernel
theorem dX1_startNote_59 : decode cX1_startNote 59 = .ok (.ireturn, 1) := by decide +kernel
theorem dX1_lowestFree_0 : decode cX1_lowestFree 0 = .ok (.iconst 0, 1) := by decide +kernel
theorem dX1_lowestFree_1 : decode cX1_lowestFree 1 = .ok (.istore_n 1, 1) := by decide +kernel
theorem dX1_lowestFree_2 : decode cX1_lowestFree 2 = .ok (.iload_n 1, 1) := by decide +kernel
theorem dX1_lowestFree_3 : decode cX1_lowestFree 3 = .ok (.iconst 4, 1) := by decide +kernel
theorem dX1_lowestFree_4 : decode cX1_lowestFree 4 = .ok (.if_icmp .ge 23, 3) := by decide +kernel
theorem dX1_lowestFree_7 : decode cX1_lowestFree 7 = .ok (.aload_n 0, 1) := by decide +kernel
theorem dX1_lowestFree_8 : decode cX1_lowestFree 8 = .ok (.getfield 11, 3) := by decide +kernel
theorem dX1_lowestFree_11 : decode cX1_lowestFree 11 = .ok (.iload_n 1, 1) := by decide +kernel
theorem dX1_lowestFree_12 : decode cX1_lowestFree 12 = .ok (.aaload, 1) := by decide +kernel
theorem dX1_lowestFree_13 : decode cX1_lowestFree 13 = .ok (.getfield 40, 3) := by decide +kernel
theorem dX1_lowestFree_16 : decode cX1_lowestFree 16 = .ok (.ifCond .ne 5, 3) := by decide +kernel
theorem dX1_lowestFree_19 : decode cX1_lowestFree 19 = .ok (.iload_n 1, 1) := by decide +kernel
theorem dX1_lowestFree_20 : decode cX1_lowestFree 20 = .ok (.ireturn, 1) := by decide +kernel
theorem dX1_lowestFree_21 : decode cX1_lowestFree 21 = .ok (.iinc 1 1, 3) := by decide +kernel
theorem dX1_lowestFree_24 : decode cX1_lowestFree 24 = .ok (.goto (-22), 3) := by decide +kernel
theorem dX1_lowestFree_27 : decode cX1_lowestFree 27 = .ok (.iconst (-1), 1) := by decide +kernel
theorem dX1_lowestFree_28 : decode cX1_lowestFree 28 = .ok (.ireturn, 1) := by decide +kernel
theorem dX1_mostStealable_0 : decode cX1_mostStealable 0 = .ok (.iconst 0, 1) := by decide +kernel
theorem dX1_mostStealable_1 : decode cX1_mostStealable 1 = .ok (.istore_n 1, 1) := by decide +kernel
theorem dX1_mostStealable_2 : decode cX1_mostStealable 2 = .ok (.iconst 1, 1) := by decide +kernel
theorem dX1_mostStealable_3 : decode cX1_mostStealable 3 = .ok (.istore_n 2, 1) := by decide +kernel
theorem dX1_mostStealable_4 : decode cX1_mostStealable 4 = .ok (.iload_n 2, 1) := by decide +kernel
theorem dX1_mostStealable_5 : decode cX1_mostStealable 5 = .ok (.iconst 4, 1) := by decide +kernel
theorem dX1_mostStealable_6 : decode cX1_mostStealable 6 = .ok (.if_icmp .ge 29, 3) := by decide +kernel
theorem dX1_mostStealable_9 : decode cX1_mostStealable 9 = .ok (.aload_n 0, 1) := by decide +kernel
theorem dX1_mostStealable_10 : decode cX1_mostStealable 10 = .ok (.getfield 11, 3) := by decide +kernel
theorem dX1_mostStealable_13 : decode cX1_mostStealable 13 = .ok (.iload_n 2, 1) := by decide +kernel
theorem dX1_mostStealable_14 : decode cX1_mostStealable 14 = .ok (.aaload, 1) := by decide +kernel
theorem dX1_mostStealable_15 : decode cX1_mostStealable 15 = .ok (.aload_n 0, 1) := by decide +kernel
theorem dX1_mostStealable_16 : decode cX1_mostStealable 16 = .ok (.getfield 11, 3) := by decide +kernel
theorem dX1_mostStealable_19 : decode cX1_mostStealable 19 = .ok (.iload_n 1, 1) := by decide +kernel
theorem dX1_mostStealable_20 : decode cX1_mostStealable 20 = .ok (.aaload, 1) := by decide +kernel
theorem dX1_mostStealable_21 : decode cX1_mostStealable 21 = .ok (.invokevirtual 44, 3) := by decide +kernel
theorem dX1_mostStealable_24 : decode cX1_mostStealable 24 = .ok (.ifCond .eq 5, 3) := by decide +kernel
theorem dX1_mostStealable_27 : decode cX1_mostStealable 27 = .ok (.iload_n 2, 1) := by decide +kernel
theorem dX1_mostStealable_28 : decode cX1_mostStealable 28 = .ok (.istore_n 1, 1) := by decide +kernel
theorem dX1_mostStealable_29 : decode cX1_mostStealable 29 = .ok (.iinc 2 1, 3) := by decide +kernel
theorem dX1_mostStealable_32 : decode cX1_mostStealable 32 = .ok (.goto (-28), 3) := by decide +kernel
theorem dX1_mostStealable_35 : decode cX1_mostStealable 35 = .ok (.iload_n 1, 1) := by decide +kernel
theorem dX1_mostStealable_36 : decode cX1_mostStealable 36 = .ok (.ireturn, 1) := by decide +kernel
theorem dX1_firstHeld_0 : decode cX1_firstHeld 0 = .ok (.iconst (-1), 1) := by decide +kernel
theorem dX1_firstHeld_1 : decode cX1_firstHeld 1 = .ok (.istore_n 2, 1) := by decide +kernel
theorem dX1_firstHeld_2 : decode cX1_firstHeld 2 = .ok (.iconst 0, 1) := by decide +kernel
theorem dX1_firstHeld_3 : decode cX1_firstHeld 3 = .ok (.istore_n 3, 1) := by decide +kernel
theorem dX1_firstHeld_4 : decode cX1_firstHeld 4 = .ok (.iload_n 3, 1) := by decide +kernel
theorem dX1_firstHeld_5 : decode cX1_firstHeld 5 = .ok (.iconst 4, 1) := by decide +kernel
theorem dX1_firstHeld_6 : decode cX1_firstHeld 6 = .ok (.if_icmp .ge 50, 3) := by decide +kernel
theorem dX1_firstHeld_9 : decode cX1_firstHeld 9 = .ok (.aload_n 0, 1) := by decide +kernel
theorem dX1_firstHeld_10 : decode cX1_firstHeld 10 = .ok (.getfield 11, 3) := by decide +kernel
theorem dX1_firstHeld_13 : decode cX1_firstHeld 13 = .ok (.iload_n 3, 1) := by decide +kernel
theorem dX1_firstHeld_14 : decode cX1_firstHeld 14 = .ok (.aaload, 1) := by decide +kernel
theorem dX1_firstHeld_15 : decode cX1_firstHeld 15 = .ok (.iload_n 1, 1) := by decide +kernel
theorem dX1_firstHeld_16 : decode cX1_firstHeld 16 = .ok (.invokevirtual 48, 3) := by decide +kernel
theorem dX1_firstHeld_19 : decode cX1_firstHeld 19 = .ok (.ifCond .eq 31, 3) := by decide +kernel
theorem dX1_firstHeld_22 : decode cX1_firstHeld 22 = .ok (.iload_n 2, 1) := by decide +kernel
theorem dX1_firstHeld_23 : decode cX1_firstHeld 23 = .ok (.iconst (-1), 1) := by decide +kernel
theorem dX1_firstHeld_24 : decode cX1_firstHeld 24 = .ok (.if_icmp .eq 24, 3) := by decide +kernel
theorem dX1_firstHeld_27 : decode cX1_firstHeld 27 = .ok (.aload_n 0, 1) := by decide +kernel
theorem dX1_firstHeld_28 : decode cX1_firstHeld 28 = .ok (.getfield 11, 3) := by decide +kernel
theorem dX1_firstHeld_31 : decode cX1_firstHeld 31 = .ok (.iload_n 3, 1) := by decide +kernel
theorem dX1_firstHeld_32 : decode cX1_firstHeld 32 = .ok (.aaload, 1) := by decide +kernel
theorem dX1_firstHeld_33 : decode cX1_firstHeld 33 = .ok (.getfield 52, 3) := by decide +kernel
theorem dX1_firstHeld_36 : decode cX1_firstHeld 36 = .ok (.aload_n 0, 1) := by decide +kernel
theorem dX1_firstHeld_37 : decode cX1_firstHeld 37 = .ok (.getfield 11, 3) := by decide +kernel
theorem dX1_firstHeld_40 : decode cX1_firstHeld 40 = .ok (.iload_n 2, 1) := by decide +kernel
theorem dX1_firstHeld_41 : decode cX1_firstHeld 41 = .ok (.aaload, 1) := by decide +kernel
theorem dX1_firstHeld_42 : decode cX1_firstHeld 42 = .ok (.getfield 52, 3) := by decide +kernel
theorem dX1_firstHeld_45 : decode cX1_firstHeld 45 = .ok (.if_icmp .ge 5, 3) := by decide +kernel
theorem dX1_firstHeld_48 : decode cX1_firstHeld 48 = .ok (.iload_n 3, 1) := by decide +kernel
theorem dX1_firstHeld_49 : decode cX1_firstHeld 49 = .ok (.istore_n 2, 1) := by decide +kernel
theorem dX1_firstHeld_50 : decode cX1_firstHeld 50 = .ok (.iinc 3 1, 3) := by decide +kernel
theorem dX1_firstHeld_53 : decode cX1_firstHeld 53 = .ok (.goto (-49), 3) := by decide +kernel
theorem dX1_firstHeld_56 : decode cX1_firstHeld 56 = .ok (.iload_n 2, 1) := by decide +kernel
theorem dX1_firstHeld_57 : decode cX1_firstHeld 57 = .ok (.ireturn, 1) := by decide +kernel
theorem dX1_releaseNote_0 : decode cX1_releaseNote 0 = .ok (.aload_n 0, 1) := by decide +kernel
theorem dX1_releaseNote_1 : decode cX1_releaseNote 1 = .ok (.dup, 1) := by decide +kernel
theorem dX1_releaseNote_2 : decode cX1_releaseNote 2 = .ok (.getfield 33, 3) := by decide +kernel
theorem dX1_releaseNote_5 : decode cX1_releaseNote 5 = .ok (.iconst 1, 1) := by decide +kernel
theorem dX1_releaseNote_6 : decode cX1_releaseNote 6 = .ok (.iadd, 1) := by decide +kernel
theorem dX1_releaseNote_7 : decode cX1_releaseNote 7 = .ok (.putfield 33, 3) := by decide +kernel
theorem dX1_releaseNote_10 : decode cX1_releaseNote 10 = .ok (.aload_n 0, 1) := by decide +kernel
theorem dX1_releaseNote_11 : decode cX1_releaseNote 11 = .ok (.getfield 11, 3) := by decide +kernel
theorem dX1_releaseNote_14 : decode cX1_releaseNote 14 = .ok (.iload_n 1, 1) := by decide +kernel
theorem dX1_releaseNote_15 : decode cX1_releaseNote 15 = .ok (.aaload, 1) := by decide +kernel
theorem dX1_releaseNote_16 : decode cX1_releaseNote 16 = .ok (.aload_n 0, 1) := by decide +kernel
theorem dX1_releaseNote_17 : decode cX1_releaseNote 17 = .ok (.getfield 33, 3) := by decide +kernel
theorem dX1_releaseNote_20 : decode cX1_releaseNote 20 = .ok (.invokevirtual 55, 3) := by decide +kernel
theorem dX1_releaseNote_23 : decode cX1_releaseNote 23 = .ok (.return_, 1) := by decide +kernel
theorem dX1_releaseEach_0 : decode cX1_releaseEach 0 = .ok (.iconst 0, 1) := by decide +kernel
theorem dX1_releaseEach_1 : decode cX1_releaseEach 1 = .ok (.istore_n 1, 1) := by decide +kernel
theorem dX1_releaseEach_2 : decode cX1_releaseEach 2 = .ok (.iconst 0, 1) := by decide +kernel
theorem dX1_releaseEach_3 : decode cX1_releaseEach 3 = .ok (.istore_n 2, 1) := by decide +kernel
theorem dX1_releaseEach_4 : decode cX1_releaseEach 4 = .ok (.iload_n 2, 1) := by decide +kernel
theorem dX1_releaseEach_5 : decode cX1_releaseEach 5 = .ok (.iconst 4, 1) := by decide +kernel
theorem dX1_releaseEach_6 : decode cX1_releaseEach 6 = .ok (.if_icmp .ge 30, 3) := by decide +kernel
theorem dX1_releaseEach_9 : decode cX1_releaseEach 9 = .ok (.aload_n 0, 1) := by decide +kernel
theorem dX1_releaseEach_10 : decode cX1_releaseEach 10 = .ok (.getfield 11, 3) := by decide +kernel
theorem dX1_releaseEach_13 : decode cX1_releaseEach 13 = .ok (.iload_n 2, 1) := by decide +kernel
theorem dX1_releaseEach_14 : decode cX1_releaseEach 14 = .ok (.aaload, 1) := by decide +kernel
theorem dX1_releaseEach_15 : decode cX1_releaseEach 15 = .ok (.iconst (-1), 1) := by decide +kernel
theorem dX1_releaseEach_16 : decode cX1_releaseEach 16 = .ok (.invokevirtual 48, 3) := by decide +kernel
theorem dX1_releaseEach_19 : decode cX1_releaseEach 19 = .ok (.ifCond .eq 11, 3) := by decide +kernel
theorem dX1_releaseEach_22 : decode cX1_releaseEach 22 = .ok (.aload_n 0, 1) := by decide +kernel
theorem dX1_releaseEach_23 : decode cX1_releaseEach 23 = .ok (.iload_n 2, 1) := by decide +kernel
theorem dX1_releaseEach_24 : decode cX1_releaseEach 24 = .ok (.invokevirtual 59, 3) := by decide +kernel
theorem dX1_releaseEach_27 : decode cX1_releaseEach 27 = .ok (.iinc 1 1, 3) := by decide +kernel
theorem dX1_releaseEach_30 : decode cX1_releaseEach 30 = .ok (.iinc 2 1, 3) := by decide +kernel
theorem dX1_releaseEach_33 : decode cX1_releaseEach 33 = .ok (.goto (-29), 3) := by decide +kernel
theorem dX1_releaseEach_36 : decode cX1_releaseEach 36 = .ok (.iload_n 1, 1) := by decide +kernel
theorem dX1_releaseEach_37 : decode cX1_releaseEach 37 = .ok (.ireturn, 1) := by decide +kernel
theorem dX1_countPlaying_0 : decode cX1_countPlaying 0 = .ok (.iconst 0, 1) := by decide +kernel
theorem dX1_countPlaying_1 : decode cX1_countPlaying 1 = .ok (.istore_n 1, 1) := by decide +kernel
theorem dX1_countPlaying_2 : decode cX1_countPlaying 2 = .ok (.iconst 0, 1) := by decide +kernel
theorem dX1_countPlaying_3 : decode cX1_countPlaying 3 = .ok (.istore_n 2, 1) := by decide +kernel
theorem dX1_countPlaying_4 : decode cX1_countPlaying 4 = .ok (.iload_n 2, 1) := by decide +kernel
theorem dX1_countPlaying_5 : decode cX1_countPlaying 5 = .ok (.iconst 4, 1) := by decide +kernel
theorem dX1_countPlaying_6 : decode cX1_countPlaying 6 = .ok (.if_icmp .ge 24, 3) := by decide +kernel
theorem dX1_countPlaying_9 : decode cX1_countPlaying 9 = .ok (.aload_n 0, 1) := by decide +kernel
theorem dX1_countPlaying_10 : decode cX1_countPlaying 10 = .ok (.getfield 11, 3) := by decide +kernel
theorem dX1_countPlaying_13 : decode cX1_countPlaying 13 = .ok (.iload_n 2, 1) := by decide +kernel
theorem dX1_countPlaying_14 : decode cX1_countPlaying 14 = .ok (.aaload, 1) := by decide +kernel
theorem dX1_countPlaying_15 : decode cX1_countPlaying 15 = .ok (.getfield 40, 3) := by decide +kernel
theorem dX1_countPlaying_18 : decode cX1_countPlaying 18 = .ok (.ifCond .eq 6, 3) := by decide +kernel
theorem dX1_countPlaying_21 : decode cX1_countPlaying 21 = .ok (.iinc 1 1, 3) := by decide +kernel
theorem dX1_countPlaying_24 : decode cX1_countPlaying 24 = .ok (.iinc 2 1, 3) := by decide +kernel
theorem dX1_countPlaying_27 : decode cX1_countPlaying 27 = .ok (.goto (-23), 3) := by decide +kernel
theorem dX1_countPlaying_30 : decode cX1_countPlaying 30 = .ok (.iload_n 1, 1) := by decide +kernel
theorem dX1_countPlaying_31 : decode cX1_countPlaying 31 = .ok (.ireturn, 1) := by decide +kernel
theorem dX1_hasLevelsInRange_0 : decode cX1_hasLevelsInRange 0 = .ok (.iconst 0, 1) := by decide +kernel
theorem dX1_hasLevelsInRange_1 : decode cX1_hasLevelsInRange 1 = .ok (.istore_n 1, 1) := by decide +kernel
theorem dX1_hasLevelsInRange_2 : decode cX1_hasLevelsInRange 2 = .ok (.iload_n 1, 1) := by decide +kernel
theorem dX1_hasLevelsInRange_3 : decode cX1_hasLevelsInRange 3 = .ok (.iconst 4, 1) := by decide +kernel
theorem dX1_hasLevelsInRange_4 : decode cX1_hasLevelsInRange 4 = .ok (.if_icmp .ge 32, 3) := by decide +kernel
theorem dX1_hasLevelsInRange_7 : decode cX1_hasLevelsInRange 7 = .ok (.aload_n 0, 1) := by decide +kernel
theorem dX1_hasLevelsInRange_8 : decode cX1_hasLevelsInRange 8 = .ok (.getfield 11, 3) := by decide +kernel
theorem dX1_hasLevelsInRange_11 : decode cX1_hasLevelsInRange 11 = .ok (.iload_n 1, 1) := by decide +kernel
theorem dX1_hasLevelsInRange_12 : decode cX1_hasLevelsInRange 12 = .ok (.aaload, 1) := by decide +kernel
theorem dX1_hasLevelsInRange_13 : decode cX1_hasLevelsInRange 13 = .ok (.invokevirtual 62, 3) := by decide +kernel
theorem dX1_hasLevelsInRange_16 : decode cX1_hasLevelsInRange 16 = .ok (.istore_n 2, 1) := by decide +kernel
theorem dX1_hasLevelsInRange_17 : decode cX1_hasLevelsInRange 17 = .ok (.iload_n 2, 1) := by decide +kernel
theorem dX1_hasLevelsInRange_18 : decode cX1_hasLevelsInRange 18 = .ok (.ifCond .lt 10, 3) := by decide +kernel
theorem dX1_hasLevelsInRange_21 : decode cX1_hasLevelsInRange 21 = .ok (.iload_n 2, 1) := by decide +kernel
theorem dX1_hasLevelsInRange_22 : decode cX1_hasLevelsInRange 22 = .ok (.sipush 1000, 3) := by decide +kernel
theorem dX1_hasLevelsInRange_25 : decode cX1_hasLevelsInRange 25 = .ok (.if_icmp .le 5, 3) := by decide +kernel
theorem dX1_hasLevelsInRange_28 : decode cX1_hasLevelsInRange 28 = .ok (.iconst 0, 1) := by decide +kernel
theorem dX1_hasLevelsInRange_29 : decode cX1_hasLevelsInRange 29 = .ok (.ireturn, 1) := by decide +kernel
theorem dX1_hasLevelsInRange_30 : decode cX1_hasLevelsInRange 30 = .ok (.iinc 1 1, 3) := by decide +kernel
theorem dX1_hasLevelsInRange_33 : decode cX1_hasLevelsInRange 33 = .ok (.goto (-31), 3) := by decide +kernel
theorem dX1_hasLevelsInRange_36 : decode cX1_hasLevelsInRange 36 = .ok (.iconst 1, 1) := by decide +kernel
theorem dX1_hasLevelsInRange_37 : decode cX1_hasLevelsInRange 37 = .ok (.ireturn, 1) := by decide +kernel
theorem dX2_init_0 : decode cX2_init 0 = .ok (.aload_n 0, 1) := by decide +kernel
theorem dX2_init_1 : decode cX2_init 1 = .ok (.invokespecial 1, 3) := by decide +kernel
theorem dX2_init_4 : decode cX2_init 4 = .ok (.aload_n 0, 1) := by decide +kernel
theorem dX2_init_5 : decode cX2_init 5 = .ok (.iload_n 1, 1) := by decide +kernel
theorem dX2_init_6 : decode cX2_init 6 = .ok (.putfield 7, 3) := by decide +kernel
theorem dX2_init_9 : decode cX2_init 9 = .ok (.aload_n 0, 1) := by decide +kernel
theorem dX2_init_10 : decode cX2_init 10 = .ok (.iload_n 2, 1) := by decide +kernel
theorem dX2_init_11 : decode cX2_init 11 = .ok (.putfield 13, 3) := by decide +kernel
theorem dX2_init_14 : decode cX2_init 14 = .ok (.aload_n 0, 1) := by decide +kernel
theorem dX2_init_15 : decode cX2_init 15 = .ok (.iload_n 3, 1) := by decide +kernel
theorem dX2_init_16 : decode cX2_init 16 = .ok (.putfield 16, 3) := by decide +kernel
theorem dX2_init_19 : decode cX2_init 19 = .ok (.aload_n 0, 1) := by decide +kernel
theorem dX2_init_20 : decode cX2_init 20 = .ok (.iload 4, 2) := by decide +kernel
theorem dX2_init_22 : decode cX2_init 22 = .ok (.putfield 19, 3) := by decide +kernel
theorem dX2_init_25 : decode cX2_init 25 = .ok (.return_, 1) := by decide +kernel
theorem dX3_init_0 : decode cX3_init 0 = .ok (.aload_n 0, 1) := by decide +kernel
theorem dX3_init_1 : decode cX3_init 1 = .ok (.invokespecial 3, 3) := by decide +kernel
theorem dX3_init_4 : decode cX3_init 4 = .ok (.aload_n 0, 1) := by decide +kernel
theorem dX3_init_5 : decode cX3_init 5 = .ok (.bipush 64, 2) := by decide +kernel
theorem dX3_init_7 : decode cX3_init 7 = .ok (.newarray .int, 2) := by decide +kernel
theorem dX3_init_9 : decode cX3_init 9 = .ok (.putfield 9, 3) := by decide +kernel
theorem dX3_init_12 : decode cX3_init 12 = .ok (.return_, 1) := by decide +kernel
theorem dX3_note_0 : decode cX3_note 0 = .ok (.aload_n 0, 1) := by decide +kernel
theorem dX3_note_1 : decode cX3_note 1 = .ok (.getfield 9, 3) := by decide +kernel
theorem dX3_note_4 : decode cX3_note 4 = .ok (.aload_n 0, 1) := by decide +kernel
theorem dX3_note_5 : decode cX3_note 5 = .ok (.getfield 15, 3) := by decide +kernel
theorem dX3_note_8 : decode cX3_note 8 = .ok (.bipush 63, 2) := by decide +kernel
theorem dX3_note_10 : decode cX3_note 10 = .ok (.iand, 1) := by decide +kernel
theorem dX3_note_11 : decode cX3_note 11 = .ok (.iload_n 1, 1) := by decide +kernel
theorem dX3_note_12 : decode cX3_note 12 = .ok (.iastore, 1) := by decide +kernel
theorem dX3_note_13 : decode cX3_note 13 = .ok (.aload_n 0, 1) := by decide +kernel
theorem dX3_note_14 : decode cX3_note 14 = .ok (.dup, 1) := by decide +kernel
theorem dX3_note_15 : decode cX3_note 15 = .ok (.getfield 15, 3) := by decide +kernel
theorem dX3_note_18 : decode cX3_note 18 = .ok (.iconst 1, 1) := by decide +kernel
theorem dX3_note_19 : decode cX3_note 19 = .ok (.iadd, 1) := by decide +kernel
theorem dX3_note_20 : decode cX3_note 20 = .ok (.putfield 15, 3) := by decide +kernel
theorem dX3_note_23 : decode cX3_note 23 = .ok (.aload_n 0, 1) := by decide +kernel
theorem dX3_note_24 : decode cX3_note 24 = .ok (.aload_n 0, 1) := by decide +kernel
theorem dX3_note_25 : decode cX3_note 25 = .ok (.getfield 19, 3) := by decide +kernel
theorem dX3_note_28 : decode cX3_note 28 = .ok (.iload_n 1, 1) := by decide +kernel
theorem dX3_note_29 : decode cX3_note 29 = .ok (.invokestatic 22, 3) := by decide +kernel
theorem dX3_note_32 : decode cX3_note 32 = .ok (.invokestatic 28, 3) := by decide +kernel
theorem dX3_note_35 : decode cX3_note 35 = .ok (.putfield 19, 3) := by decide +kernel
theorem dX3_note_38 : decode cX3_note 38 = .ok (.aload_n 0, 1) := by decide +kernel
theorem dX3_note_39 : decode cX3_note 39 = .ok (.dup, 1) := by decide +kernel
theorem dX3_note_40 : decode cX3_note 40 = .ok (.getfield 32, 3) := by decide +kernel
theorem dX3_note_43 : decode cX3_note 43 = .ok (.iload_n 1, 1) := by decide +kernel
theorem dX3_note_44 : decode cX3_note 44 = .ok (.i2l, 1) := by decide +kernel
theorem dX3_note_45 : decode cX3_note 45 = .ok (.iload_n 1, 1) := by decide +kernel
theorem dX3_note_46 : decode cX3_note 46 = .ok (.i2l, 1) := by decide +kernel
theorem dX3_note_47 : decode cX3_note 47 = .ok (.lmul, 1) := by decide +kernel
theorem dX3_note_48 : decode cX3_note 48 = .ok (.ladd, 1) := by decide +kernel
theorem dX3_note_49 : decode cX3_note 49 = .ok (.putfield 32, 3) := by decide +kernel
theorem dX3_note_52 : decode cX3_note 52 = .ok (.iload_n 1, 1) := by decide +kernel
theorem dX3_note_53 : decode cX3_note 53 = .ok (.ifCond .ne 13, 3) := by decide +kernel
theorem dX3_note_56 : decode cX3_note 56 = .ok (.aload_n 0, 1) := by decide +kernel
theorem dX3_note_57 : decode cX3_note 57 = .ok (.dup, 1) := by decide +kernel
theorem dX3_note_58 : decode cX3_note 58 = .ok (.getfield 36, 3) := by decide +kernel
theorem dX3_note_61 : decode cX3_note 61 = .ok (.iconst 1, 1) := by decide +kernel
theorem dX3_note_62 : decode cX3_note 62 = .ok (.iadd, 1) := by decide +kernel
theorem dX3_note_63 : decode cX3_note 63 = .ok (.putfield 36, 3) := by decide +kernel
theorem dX3_note_66 : decode cX3_note 66 = .ok (.return_, 1) := by decide +kernel
theorem dX3_recall_0 : decode cX3_recall 0 = .ok (.aload_n 0, 1) := by decide +kernel
theorem dX3_recall_1 : decode cX3_recall 1 = .ok (.getfield 9, 3) := by decide +kernel
theorem dX3_recall_4 : decode cX3_recall 4 = .ok (.aload_n 0, 1) := by decide +kernel
theorem dX3_recall_5 : decode cX3_recall 5 = .ok (.getfield 15, 3) := by decide +kernel
theorem dX3_recall_8 : decode cX3_recall 8 = .ok (.iconst 1, 1) := by decide +kernel
theorem dX3_recall_9 : decode cX3_recall 9 = .ok (.isub, 1) := by decide +kernel
theorem dX3_recall_10 : decode cX3_recall 10 = .ok (.iload_n 1, 1) := by decide +kernel
theorem dX3_recall_11 : decode cX3_recall 11 = .ok (.isub, 1) := by decide +kernel
theorem dX3_recall_12 : decode cX3_recall 12 = .ok (.bipush 63, 2) := by decide +kernel
theorem dX3_recall_14 : decode cX3_recall 14 = .ok (.iand, 1) := by decide +kernel
theorem dX3_recall_15 : decode cX3_recall 15 = .ok (.iaload, 1) := by decide +kernel
theorem dX3_recall_16 : decode cX3_recall 16 = .ok (.ireturn, 1) := by decide +kernel
theorem dX4_init_0 : decode cX4_init 0 = .ok (.aload_n 0, 1) := by decide +kernel
theorem dX4_init_1 : decode cX4_init 1 = .ok (.invokespecial 3, 3) := by decide +kernel
theorem dX4_init_4 : decode cX4_init 4 = .ok (.aload_n 0, 1) := by decide +kernel
theorem dX4_init_5 : decode cX4_init 5 = .ok (.new 9, 3) := by decide +kernel
theorem dX4_init_8 : decode cX4_init 8 = .ok (.dup, 1) := by decide +kernel
theorem dX4_init_9 : decode cX4_init 9 = .ok (.invokespecial 11, 3) := by decide +kernel
theorem dX4_init_12 : decode cX4_init 12 = .ok (.putfield 12, 3) := by decide +kernel
theorem dX4_init_15 : decode cX4_init 15 = .ok (.aload_n 0, 1) := by decide +kernel
theorem dX4_init_16 : decode cX4_init 16 = .ok (.bipush 10, 2) := by decide +kernel
theorem dX4_init_18 : decode cX4_init 18 = .ok (.bipush 64, 2) := by decide +kernel
theorem dX4_init_20 : decode cX4_init 20 = .ok (.multianewarray 18 2, 4) := by decide +kernel
theorem dX4_init_24 : decode cX4_init 24 = .ok (.putfield 20, 3) := by decide +kernel
theorem dX4_init_27 : decode cX4_init 27 = .ok (.aload_n 0, 1) := by decide +kernel
theorem dX4_init_28 : decode cX4_init 28 = .ok (.bipush 10, 2) := by decide +kernel
theorem dX4_init_30 : decode cX4_init 30 = .ok (.newarray .int, 2) := by decide +kernel
theorem dX4_init_32 : decode cX4_init 32 = .ok (.putfield 23, 3) := by decide +kernel
theorem dX4_init_35 : decode cX4_init 35 = .ok (.aload_n 0, 1) := by decide +kernel
theorem dX4_init_36 : decode cX4_init 36 = .ok (.bipush 10, 2) := by decide +kernel
theorem dX4_init_38 : decode cX4_init 38 = .ok (.newarray .int, 2) := by decide +kernel
theorem dX4_init_40 : decode cX4_init 40 = .ok (.putfield 27, 3) := by decide +kernel
theorem dX4_init_43 : decode cX4_init 43 = .ok (.aload_n 0, 1) := by decide +kernel
theorem dX4_init_44 : decode cX4_init 44 = .ok (.bipush 10, 2) := by decide +kernel
theorem dX4_init_46 : decode cX4_init 46 = .ok (.bipush 60, 2) := by decide +kernel
theorem dX4_init_48 : decode cX4_init 48 = .ok (.multianewarray 18 2, 4) := by decide +kernel
theorem dX4_init_52 : decode cX4_init 52 = .ok (.putfield 30, 3) := by decide +kernel
theorem dX4_init_55 : decode cX4_init 55 = .ok (.aload_n 0, 1) := by decide +kernel
theorem dX4_init_56 : decode cX4_init 56 = .ok (.bipush 10, 2) := by decide +kernel
theorem dX4_init_58 : decode cX4_init 58 = .ok (.newarray .int, 2) := by decide +kernel
theorem dX4_init_60 : decode cX4_init 60 = .ok (.putfield 33, 3) := by decide +kernel
theorem dX4_init_63 : decode cX4_init 63 = .ok (.aload_n 0, 1) := by decide +kernel
theorem dX4_init_64 : decode cX4_init 64 = .ok (.aload_n 1, 1) := by decide +kernel
theorem dX4_init_65 : decode cX4_init 65 = .ok (.putfield 36, 3) := by decide +kernel
theorem dX4_init_68 : decode cX4_init 68 = .ok (.return_, 1) := by decide +kernel
theorem dX4_copyFrom_0 : decode cX4_copyFrom 0 = .ok (.aload_n 0, 1) := by decide +kernel
theorem dX4_copyFrom_1 : decode cX4_copyFrom 1 = .ok (.getfield 12, 3) := by decide +kernel
theorem dX4_copyFrom_4 : decode cX4_copyFrom 4 = .ok (.aload_n 1, 1) := by decide +kernel
theorem dX4_copyFrom_5 : decode cX4_copyFrom 5 = .ok (.getfield 12, 3) := by decide +kernel
theorem dX4_copyFrom_8 : decode cX4_copyFrom 8 = .ok (.invokevirtual 40, 3) := by decide +kernel
theorem dX4_copyFrom_11 : decode cX4_copyFrom 11 = .ok (.iconst 0, 1) := by decide +kernel
theorem dX4_copyFrom_12 : decode cX4_copyFrom 12 = .ok (.istore_n 2, 1) := by decide +kernel
theorem dX4_copyFrom_13 : decode cX4_copyFrom 13 = .ok (.iload_n 2, 1) := by decide +kernel
theorem dX4_copyFrom_14 : decode cX4_copyFrom 14 = .ok (.aload_n 0, 1) := by decide +kernel
theorem dX4_copyFrom_15 : decode cX4_copyFrom 15 = .ok (.getfield 36, 3) := by decide +kernel
theorem dX4_copyFrom_18 : decode cX4_copyFrom 18 = .ok (.getfield 44, 3) := by decide +kernel
theorem dX4_copyFrom_21 : decode cX4_copyFrom 21 = .ok (.if_icmp .ge 78, 3) := by decide +kernel
theorem dX4_copyFrom_24 : decode cX4_copyFrom 24 = .ok (.aload_n 0, 1) := by decide +kernel
theorem dX4_copyFrom_25 : decode cX4_copyFrom 25 = .ok (.getfield 23, 3) := by decide +kernel
theorem dX4_copyFrom_28 : decode cX4_copyFrom 28 = .ok (.iload_n 2, 1) := by decide +kernel
theorem dX4_copyFrom_29 : decode cX4_copyFrom 29 = .ok (.aload_n 1, 1) := by decide +kernel
theorem dX4_copyFrom_30 : decode cX4_copyFrom 30 = .ok (.getfield 23, 3) := by decide +kernel
theorem dX4_copyFrom_33 : decode cX4_copyFrom 33 = .ok (.iload_n 2, 1) := by decide +kernel
theorem dX4_copyFrom_34 : decode cX4_copyFrom 34 = .ok (.iaload, 1) := by decide +kernel
theorem dX4_copyFrom_35 : decode cX4_copyFrom 35 = .ok (.iastore, 1) := by decide +kernel
theorem dX4_copyFrom_36 : decode cX4_copyFrom 36 = .ok (.aload_n 0, 1) := by decide +kernel
theorem dX4_copyFrom_37 : decode cX4_copyFrom 37 = .ok (.getfield 27, 3) := by decide +kernel
theorem dX4_copyFrom_40 : decode cX4_copyFrom 40 = .ok (.iload_n 2, 1) := by decide +kernel
theorem dX4_copyFrom_41 : decode cX4_copyFrom 41 = .ok (.aload_n 1, 1) := by decide +kernel
theorem dX4_copyFrom_42 : decode cX4_copyFrom 42 = .ok (.getfield 27, 3) := by decide +kernel
theorem dX4_copyFrom_45 : decode cX4_copyFrom 45 = .ok (.iload_n 2, 1) := by decide +kernel
theorem dX4_copyFrom_46 : decode cX4_copyFrom 46 = .ok (.iaload, 1) := by decide +kernel
theorem dX4_copyFrom_47 : decode cX4_copyFrom 47 = .ok (.iastore, 1) := by decide +kernel
theorem dX4_copyFrom_48 : decode cX4_copyFrom 48 = .ok (.aload_n 0, 1) := by decide +kernel
theorem dX4_copyFrom_49 : decode cX4_copyFrom 49 = .ok (.getfield 33, 3) := by decide +kernel
theorem dX4_copyFrom_52 : decode cX4_copyFrom 52 = .ok (.iload_n 2, 1) := by decide +kernel
theorem dX4_copyFrom_53 : decode cX4_copyFrom 53 = .ok (.aload_n 1, 1) := by decide +kernel
theorem dX4_copyFrom_54 : decode cX4_copyFrom 54 = .ok (.getfield 33, 3) := by decide +kernel
theorem dX4_copyFrom_57 : decode cX4_copyFrom 57 = .ok (.iload_n 2, 1) := by decide +kernel
theorem dX4_copyFrom_58 : decode cX4_copyFrom 58 = .ok (.iaload, 1) := by decide +kernel
theorem dX4_copyFrom_59 : decode cX4_copyFrom 59 = .ok (.iastore, 1) := by decide +kernel
theorem dX4_copyFrom_60 : decode cX4_copyFrom 60 = .ok (.aload_n 0, 1) := by decide +kernel
theorem dX4_copyFrom_61 : decode cX4_copyFrom 61 = .ok (.getfield 36, 3) := by decide +kernel
theorem dX4_copyFrom_64 : decode cX4_copyFrom 64 = .ok (.getfield 50, 3) := by decide +kernel
theorem dX4_copyFrom_67 : decode cX4_copyFrom 67 = .ok (.iload_n 2, 1) := by decide +kernel
theorem dX4_copyFrom_68 : decode cX4_copyFrom 68 = .ok (.caload, 1) := by decide +kernel
theorem dX4_copyFrom_69 : decode cX4_copyFrom 69 = .ok (.bipush 100, 2) := by decide +kernel
theorem dX4_copyFrom_71 : decode cX4_copyFrom 71 = .ok (.if_icmp .ne 22, 3) := by decide +kernel
theorem dX4_copyFrom_74 : decode cX4_copyFrom 74 = .ok (.aload_n 1, 1) := by decide +kernel
theorem dX4_copyFrom_75 : decode cX4_copyFrom 75 = .ok (.getfield 30, 3) := by decide +kernel
theorem dX4_copyFrom_78 : decode cX4_copyFrom 78 = .ok (.iload_n 2, 1) := by decide +kernel
theorem dX4_copyFrom_79 : decode cX4_copyFrom 79 = .ok (.aaload, 1) := by decide +kernel
theorem dX4_copyFrom_80 : decode cX4_copyFrom 80 = .ok (.iconst 0, 1) := by decide +kernel
theorem dX4_copyFrom_81 : decode cX4_copyFrom 81 = .ok (.aload_n 0, 1) := by decide +kernel
theorem dX4_copyFrom_82 : decode cX4_copyFrom 82 = .ok (.getfield 30, 3) := by decide +kernel
theorem dX4_copyFrom_85 : decode cX4_copyFrom 85 = .ok (.iload_n 2, 1) := by decide +kernel
theorem dX4_copyFrom_86 : decode cX4_copyFrom 86 = .ok (.aaload, 1) := by decide +kernel
theorem dX4_copyFrom_87 : decode cX4_copyFrom 87 = .ok (.iconst 0, 1) := by decide +kernel
theorem dX4_copyFrom_88 : decode cX4_copyFrom 88 = .ok (.bipush 60, 2) := by decide +kernel
theorem dX4_copyFrom_90 : decode cX4_copyFrom 90 = .ok (.invokestatic 54, 3) := by decide +kernel
theorem dX4_copyFrom_93 : decode cX4_copyFrom 93 = .ok (.iinc 2 1, 3) := by decide +kernel
theorem dX4_copyFrom_96 : decode cX4_copyFrom 96 = .ok (.goto (-83), 3) := by decide +kernel
theorem dX4_copyFrom_99 : decode cX4_copyFrom 99 = .ok (.return_, 1) := by decide +kernel
theorem dX4_find_0 : decode cX4_find 0 = .ok (.iconst 1, 1) := by decide +kernel
theorem dX4_find_1 : decode cX4_find 1 = .ok (.iload_n 2, 1) := by decide +kernel
theorem dX4_find_2 : decode cX4_find 2 = .ok (.aload_n 0, 1) := by decide +kernel
theorem dX4_find_3 : decode cX4_find 3 = .ok (.getfield 36, 3) := by decide +kernel
theorem dX4_find_6 : decode cX4_find 6 = .ok (.invokevirtual 60, 3) := by decide +kernel
theorem dX4_find_9 : decode cX4_find 9 = .ok (.invokestatic 64, 3) := by decide +kernel
theorem dX4_find_12 : decode cX4_find 12 = .ok (.invokestatic 70, 3) := by decide +kernel
theorem dX4_find_15 : decode cX4_find 15 = .ok (.istore 4, 2) := by decide +kernel
theorem dX4_find_17 : decode cX4_find 17 = .ok (.iconst 0, 1) := by decide +kernel
theorem dX4_find_18 : decode cX4_find 18 = .ok (.istore 5, 2) := by decide +kernel
theorem dX4_find_20 : decode cX4_find 20 = .ok (.iload 5, 2) := by decide +kernel
theorem dX4_find_22 : decode cX4_find 22 = .ok (.iload_n 1, 1) := by decide +kernel
theorem dX4_find_23 : decode cX4_find 23 = .ok (.if_icmp .ge 51, 3) := by decide +kernel
theorem dX4_find_26 : decode cX4_find 26 = .ok (.iload 4, 2) := by decide +kernel
theorem dX4_find_28 : decode cX4_find 28 = .ok (.iload_n 1, 1) := by decide +kernel
theorem dX4_find_29 : decode cX4_find 29 = .ok (.iload 5, 2) := by decide +kernel
theorem dX4_find_31 : decode cX4_find 31 = .ok (.isub, 1) := by decide +kernel
theorem dX4_find_32 : decode cX4_find 32 = .ok (.invokestatic 64, 3) := by decide +kernel
theorem dX4_find_35 : decode cX4_find 35 = .ok (.istore 6, 2) := by decide +kernel
theorem dX4_find_37 : decode cX4_find 37 = .ok (.aload_n 0, 1) := by decide +kernel
theorem dX4_find_38 : decode cX4_find 38 = .ok (.iload 6, 2) := by decide +kernel
theorem dX4_find_40 : decode cX4_find 40 = .ok (.invokevirtual 73, 3) := by decide +kernel
theorem dX4_find_43 : decode cX4_find 43 = .ok (.aload_n 0, 1) := by decide +kernel
theorem dX4_find_44 : decode cX4_find 44 = .ok (.getfield 20, 3) := by decide +kernel
theorem dX4_find_47 : decode cX4_find 47 = .ok (.aload_n 0, 1) := by decide +kernel
theorem dX4_find_48 : decode cX4_find 48 = .ok (.getfield 36, 3) := by decide +kernel
theorem dX4_find_51 : decode cX4_find 51 = .ok (.getfield 77, 3) := by decide +kernel
theorem dX4_find_54 : decode cX4_find 54 = .ok (.aaload, 1) := by decide +kernel
theorem dX4_find_55 : decode cX4_find 55 = .ok (.iconst 0, 1) := by decide +kernel
theorem dX4_find_56 : decode cX4_find 56 = .ok (.aload_n 3, 1) := by decide +kernel
theorem dX4_find_57 : decode cX4_find 57 = .ok (.iload 5, 2) := by decide +kernel
theorem dX4_find_59 : decode cX4_find 59 = .ok (.iload 6, 2) := by decide +kernel
theorem dX4_find_61 : decode cX4_find 61 = .ok (.invokestatic 54, 3) := by decide +kernel
theorem dX4_find_64 : decode cX4_find 64 = .ok (.iload 5, 2) := by decide +kernel
theorem dX4_find_66 : decode cX4_find 66 = .ok (.iload 4, 2) := by decide +kernel
theorem dX4_find_68 : decode cX4_find 68 = .ok (.iadd, 1) := by decide +kernel
theorem dX4_find_69 : decode cX4_find 69 = .ok (.istore 5, 2) := by decide +kernel
theorem dX4_find_71 : decode cX4_find 71 = .ok (.goto (-51), 3) := by decide +kernel
theorem dX4_find_74 : decode cX4_find 74 = .ok (.return_, 1) := by decide +kernel
theorem dX4_findBlock_0 : decode cX4_findBlock 0 = .ok (.iconst 0, 1) := by decide +kernel
theorem dX4_findBlock_1 : decode cX4_findBlock 1 = .ok (.istore_n 2, 1) := by decide +kernel
theorem dX4_findBlock_2 : decode cX4_findBlock 2 = .ok (.iload_n 2, 1) := by decide +kernel
theorem dX4_findBlock_3 : decode cX4_findBlock 3 = .ok (.aload_n 0, 1) := by decide +kernel
theorem dX4_findBlock_4 : decode cX4_findBlock 4 = .ok (.getfield 36, 3) := by decide +kernel
theorem dX4_findBlock_7 : decode cX4_findBlock 7 = .ok (.getfield 44, 3) := by decide +kernel
theorem dX4_findBlock_10 : decode cX4_findBlock 10 = .ok (.if_icmp .ge 100, 3) := by decide +kernel
theorem dX4_findBlock_13 : decode cX4_findBlock 13 = .ok (.aload_n 0, 1) := by decide +kernel
theorem dX4_findBlock_14 : decode cX4_findBlock 14 = .ok (.getfield 36, 3) := by decide +kernel
theorem dX4_findBlock_17 : decode cX4_findBlock 17 = .ok (.getfield 80, 3) := by decide +kernel
theorem dX4_findBlock_20 : decode cX4_findBlock 20 = .ok (.iload_n 2, 1) := by decide +kernel
theorem dX4_findBlock_21 : decode cX4_findBlock 21 = .ok (.iaload, 1) := by decide +kernel
theorem dX4_findBlock_22 : decode cX4_findBlock 22 = .ok (.istore_n 3, 1) := by decide +kernel
theorem dX4_findBlock_23 : decode cX4_findBlock 23 = .ok (.aload_n 0, 1) := by decide +kernel
theorem dX4_findBlock_24 : decode cX4_findBlock 24 = .ok (.getfield 36, 3) := by decide +kernel
theorem dX4_findBlock_27 : decode cX4_findBlock 27 = .ok (.getfield 50, 3) := by decide +kernel
theorem dX4_findBlock_30 : decode cX4_findBlock 30 = .ok (.iload_n 3, 1) := by decide +kernel
theorem dX4_findBlock_31 : decode cX4_findBlock 31 = .ok (.caload, 1) := by decide +kernel
theorem dX4_findBlock_32 : decode cX4_findBlock 32 = .ok (.istore 4, 2) := by decide +kernel
theorem dX4_findBlock_34 : decode cX4_findBlock 34 = .ok (.iload 4, 2) := by decide +kernel
theorem dX4_findBlock_36 : decode cX4_findBlock 36 = .ok (.bipush 118, 2) := by decide +kernel
theorem dX4_findBlock_38 : decode cX4_findBlock 38 = .ok (.if_icmp .ne 12, 3) := by decide +kernel
theorem dX4_findBlock_41 : decode cX4_findBlock 41 = .ok (.aload_n 0, 1) := by decide +kernel
theorem dX4_findBlock_42 : decode cX4_findBlock 42 = .ok (.iload_n 3, 1) := by decide +kernel
theorem dX4_findBlock_43 : decode cX4_findBlock 43 = .ok (.iload_n 1, 1) := by decide +kernel
theorem dX4_findBlock_44 : decode cX4_findBlock 44 = .ok (.invokevirtual 83, 3) := by decide +kernel
theorem dX4_findBlock_47 : decode cX4_findBlock 47 = .ok (.goto 57, 3) := by decide +kernel
theorem dX4_findBlock_50 : decode cX4_findBlock 50 = .ok (.iload 4, 2) := by decide +kernel
theorem dX4_findBlock_52 : decode cX4_findBlock 52 = .ok (.bipush 103, 2) := by decide +kernel
theorem dX4_findBlock_54 : decode cX4_findBlock 54 = .ok (.if_icmp .ne 12, 3) := by decide +kernel
theorem dX4_findBlock_57 : decode cX4_findBlock 57 = .ok (.aload_n 0, 1) := by decide +kernel
theorem dX4_findBlock_58 : decode cX4_findBlock 58 = .ok (.iload_n 3, 1) := by decide +kernel
theorem dX4_findBlock_59 : decode cX4_findBlock 59 = .ok (.iload_n 1, 1) := by decide +kernel
theorem dX4_findBlock_60 : decode cX4_findBlock 60 = .ok (.invokevirtual 87, 3) := by decide +kernel
theorem dX4_findBlock_63 : decode cX4_findBlock 63 = .ok (.goto 41, 3) := by decide +kernel
theorem dX4_findBlock_66 : decode cX4_findBlock 66 = .ok (.iload 4, 2) := by decide +kernel
theorem dX4_findBlock_68 : decode cX4_findBlock 68 = .ok (.bipush 100, 2) := by decide +kernel
theorem dX4_findBlock_70 : decode cX4_findBlock 70 = .ok (.if_icmp .ne 12, 3) := by decide +kernel
theorem dX4_findBlock_73 : decode cX4_findBlock 73 = .ok (.aload_n 0, 1) := by decide +kernel
theorem dX4_findBlock_74 : decode cX4_findBlock 74 = .ok (.iload_n 3, 1) := by decide +kernel
theorem dX4_findBlock_75 : decode cX4_findBlock 75 = .ok (.iload_n 1, 1) := by decide +kernel
theorem dX4_findBlock_76 : decode cX4_findBlock 76 = .ok (.invokevirtual 90, 3) := by decide +kernel
theorem dX4_findBlock_79 : decode cX4_findBlock 79 = .ok (.goto 25, 3) := by decide +kernel
theorem dX4_findBlock_82 : decode cX4_findBlock 82 = .ok (.iload 4, 2) := by decide +kernel
theorem dX4_findBlock_84 : decode cX4_findBlock 84 = .ok (.bipush 102, 2) := by decide +kernel
theorem dX4_findBlock_86 : decode cX4_findBlock 86 = .ok (.if_icmp .ne 12, 3) := by decide +kernel
theorem dX4_findBlock_89 : decode cX4_findBlock 89 = .ok (.aload_n 0, 1) := by decide +kernel
theorem dX4_findBlock_90 : decode cX4_findBlock 90 = .ok (.iload_n 3, 1) := by decide +kernel
theorem dX4_findBlock_91 : decode cX4_findBlock 91 = .ok (.iload_n 1, 1) := by decide +kernel
theorem dX4_findBlock_92 : decode cX4_findBlock 92 = .ok (.invokevirtual 93, 3) := by decide +kernel
theorem dX4_findBlock_95 : decode cX4_findBlock 95 = .ok (.goto 9, 3) := by decide +kernel
theorem dX4_findBlock_98 : decode cX4_findBlock 98 = .ok (.aload_n 0, 1) := by decide +kernel
theorem dX4_findBlock_99 : decode cX4_findBlock 99 = .ok (.iload_n 3, 1) := by decide +kernel
theorem dX4_findBlock_100 : decode cX4_findBlock 100 = .ok (.iload_n 1, 1) := by decide +kernel
theorem dX4_findBlock_101 : decode cX4_findBlock 101 = .ok (.invokevirtual 96, 3) := by decide +kernel
theorem dX4_findBlock_104 : decode cX4_findBlock 104 = .ok (.iinc 2 1, 3) := by decide +kernel
theorem dX4_findBlock_107 : decode cX4_findBlock 107 = .ok (.goto (-105), 3) := by decide +kernel
theorem dX4_findBlock_110 : decode cX4_findBlock 110 = .ok (.iconst 0, 1) := by decide +kernel
theorem dX4_findBlock_111 : decode cX4_findBlock 111 = .ok (.istore_n 2, 1) := by decide +kernel
theorem dX4_findBlock_112 : decode cX4_findBlock 112 = .ok (.iload_n 2, 1) := by decide +kernel
theorem dX4_findBlock_113 : decode cX4_findBlock 113 = .ok (.aload_n 0, 1) := by decide +kernel
theorem dX4_findBlock_114 : decode cX4_findBlock 114 = .ok (.getfield 36, 3) := by decide +kernel
theorem dX4_findBlock_117 : decode cX4_findBlock 117 = .ok (.getfield 44, 3) := by decide +kernel
theorem dX4_findBlock_120 : decode cX4_findBlock 120 = .ok (.if_icmp .ge 45, 3) := by decide +kernel
theorem dX4_findBlock_123 : decode cX4_findBlock 123 = .ok (.aload_n 0, 1) := by decide +kernel
theorem dX4_findBlock_124 : decode cX4_findBlock 124 = .ok (.getfield 36, 3) := by decide +kernel
theorem dX4_findBlock_127 : decode cX4_findBlock 127 = .ok (.getfield 50, 3) := by decide +kernel
theorem dX4_findBlock_130 : decode cX4_findBlock 130 = .ok (.iload_n 2, 1) := by decide +kernel
theorem dX4_findBlock_131 : decode cX4_findBlock 131 = .ok (.caload, 1) := by decide +kernel
theorem dX4_findBlock_132 : decode cX4_findBlock 132 = .ok (.bipush 100, 2) := by decide +kernel
theorem dX4_findBlock_134 : decode cX4_findBlock 134 = .ok (.if_icmp .ne 9, 3) := by decide +kernel
theorem dX4_findBlock_137 : decode cX4_findBlock 137 = .ok (.aload_n 0, 1) := by decide +kernel
theorem dX4_findBlock_138 : decode cX4_findBlock 138 = .ok (.iload_n 2, 1) := by decide +kernel
theorem dX4_findBlock_139 : decode cX4_findBlock 139 = .ok (.iload_n 1, 1) := by decide +kernel
theorem dX4_findBlock_140 : decode cX4_findBlock 140 = .ok (.invokevirtual 99, 3) := by decide +kernel
theorem dX4_findBlock_143 : decode cX4_findBlock 143 = .ok (.aload_n 0, 1) := by decide +kernel
theorem dX4_findBlock_144 : decode cX4_findBlock 144 = .ok (.getfield 23, 3) := by decide +kernel
theorem dX4_findBlock_147 : decode cX4_findBlock 147 = .ok (.iload_n 2, 1) := by decide +kernel
theorem dX4_findBlock_148 : decode cX4_findBlock 148 = .ok (.aload_n 0, 1) := by decide +kernel
theorem dX4_findBlock_149 : decode cX4_findBlock 149 = .ok (.getfield 20, 3) := by decide +kernel
theorem dX4_findBlock_152 : decode cX4_findBlock 152 = .ok (.iload_n 2, 1) := by decide +kernel
theorem dX4_findBlock_153 : decode cX4_findBlock 153 = .ok (.aaload, 1) := by decide +kernel
theorem dX4_findBlock_154 : decode cX4_findBlock 154 = .ok (.iload_n 1, 1) := by decide +kernel
theorem dX4_findBlock_155 : decode cX4_findBlock 155 = .ok (.iconst 1, 1) := by decide +kernel
theorem dX4_findBlock_156 : decode cX4_findBlock 156 = .ok (.isub, 1) := by decide +kernel
theorem dX4_findBlock_157 : decode cX4_findBlock 157 = .ok (.iaload, 1) := by decide +kernel
theorem dX4_findBlock_158 : decode cX4_findBlock 158 = .ok (.iastore, 1) := by decide +kernel
theorem dX4_findBlock_159 : decode cX4_findBlock 159 = .ok (.iinc 2 1, 3) := by decide +kernel
theorem dX4_findBlock_162 : decode cX4_findBlock 162 = .ok (.goto (-50), 3) := by decide +kernel
theorem dX4_findBlock_165 : decode cX4_findBlock 165 = .ok (.return_, 1) := by decide +kernel
theorem dX4_findVoices_0 : decode cX4_findVoices 0 = .ok (.aload_n 0, 1) := by decide +kernel
theorem dX4_findVoices_1 : decode cX4_findVoices 1 = .ok (.getfield 20, 3) := by decide +kernel
theorem dX4_findVoices_4 : decode cX4_findVoices 4 = .ok (.iload_n 1, 1) := by decide +kernel
theorem dX4_findVoices_5 : decode cX4_findVoices 5 = .ok (.aaload, 1) := by decide +kernel
theorem dX4_findVoices_6 : decode cX4_findVoices 6 = .ok (.astore_n 3, 1) := by decide +kernel
theorem dX4_findVoices_7 : decode cX4_findVoices 7 = .ok (.iconst 0, 1) := by decide +kernel
theorem dX4_findVoices_8 : decode cX4_findVoices 8 = .ok (.istore 4, 2) := by decide +kernel
theorem dX4_findVoices_10 : decode cX4_findVoices 10 = .ok (.iload 4, 2) := by decide +kernel
theorem dX4_findVoices_12 : decode cX4_findVoices 12 = .ok (.iload_n 2, 1) := by decide +kernel
theorem dX4_findVoices_13 : decode cX4_findVoices 13 = .ok (.if_icmp .ge 14, 3) := by decide +kernel
theorem dX4_findVoices_16 : decode cX4_findVoices 16 = .ok (.aload_n 3, 1) := by decide +kernel
theorem dX4_findVoices_17 : decode cX4_findVoices 17 = .ok (.iload 4, 2) := by decide +kernel
theorem dX4_findVoices_19 : decode cX4_findVoices 19 = .ok (.iconst 0, 1) := by decide +kernel
theorem dX4_findVoices_20 : decode cX4_findVoices 20 = .ok (.iastore, 1) := by decide +kernel
theorem dX4_findVoices_21 : decode cX4_findVoices 21 = .ok (.iinc 4 1, 3) := by decide +kernel
theorem dX4_findVoices_24 : decode cX4_findVoices 24 = .ok (.goto (-14), 3) := by decide +kernel
theorem dX4_findVoices_27 : decode cX4_findVoices 27 = .ok (.iconst 0, 1) := by decide +kernel
theorem dX4_findVoices_28 : decode cX4_findVoices 28 = .ok (.istore 4, 2) := by decide +kernel
theorem dX4_findVoices_30 : decode cX4_findVoices 30 = .ok (.iload 4, 2) := by decide +kernel
theorem dX4_findVoices_32 : decode cX4_findVoices 32 = .ok (.iconst 4, 1) := by decide +kernel
theorem dX4_findVoices_33 : decode cX4_findVoices 33 = .ok (.if_icmp .ge 24, 3) := by decide +kernel
theorem dX4_findVoices_36 : decode cX4_findVoices 36 = .ok (.aload_n 0, 1) := by decide +kernel
theorem dX4_findVoices_37 : decode cX4_findVoices 37 = .ok (.getfield 12, 3) := by decide +kernel
theorem dX4_findVoices_40 : decode cX4_findVoices 40 = .ok (.getfield 102, 3) := by decide +kernel
theorem dX4_findVoices_43 : decode cX4_findVoices 43 = .ok (.iload 4, 2) := by decide +kernel
theorem dX4_findVoices_45 : decode cX4_findVoices 45 = .ok (.aaload, 1) := by decide +kernel
theorem dX4_findVoices_46 : decode cX4_findVoices 46 = .ok (.aload_n 3, 1) := by decide +kernel
theorem dX4_findVoices_47 : decode cX4_findVoices 47 = .ok (.iload_n 2, 1) := by decide +kernel
theorem dX4_findVoices_48 : decode cX4_findVoices 48 = .ok (.invokevirtual 106, 3) := by decide +kernel
theorem dX4_findVoices_51 : decode cX4_findVoices 51 = .ok (.iinc 4 1, 3) := by decide +kernel
theorem dX4_findVoices_54 : decode cX4_findVoices 54 = .ok (.goto (-24), 3) := by decide +kernel
theorem dX4_findVoices_57 : decode cX4_findVoices 57 = .ok (.iconst 0, 1) := by decide +kernel
theorem dX4_findVoices_58 : decode cX4_findVoices 58 = .ok (.istore 4, 2) := by decide +kernel
theorem dX4_findVoices_60 : decode cX4_findVoices 60 = .ok (.iload 4, 2) := by decide +kernel
theorem dX4_findVoices_62 : decode cX4_findVoices 62 = .ok (.iload_n 2, 1) := by decide +kernel
theorem dX4_findVoices_63 : decode cX4_findVoices 63 = .ok (.if_icmp .ge 20, 3) := by decide +kernel
theorem dX4_findVoices_66 : decode cX4_findVoices 66 = .ok (.aload_n 3, 1) := by decide +kernel
theorem dX4_findVoices_67 : decode cX4_findVoices 67 = .ok (.iload 4, 2) := by decide +kernel
theorem dX4_findVoices_69 : decode cX4_findVoices 69 = .ok (.aload_n 3, 1) := by decide +kernel
theorem dX4_findVoices_70 : decode cX4_findVoices 70 = .ok (.iload 4, 2) := by decide +kernel
theorem dX4_findVoices_72 : decode cX4_findVoices 72 = .ok (.iaload, 1) := by decide +kernel
theorem dX4_findVoices_73 : decode cX4_findVoices 73 = .ok (.invokestatic 112, 3) := by decide +kernel
theorem dX4_findVoices_76 : decode cX4_findVoices 76 = .ok (.iastore, 1) := by decide +kernel
theorem dX4_findVoices_77 : decode cX4_findVoices 77 = .ok (.iinc 4 1, 3) := by decide +kernel
theorem dX4_findVoices_80 : decode cX4_findVoices 80 = .ok (.goto (-20), 3) := by decide +kernel
theorem dX4_findVoices_83 : decode cX4_findVoices 83 = .ok (.return_, 1) := by decide +kernel
theorem dX4_findGain_0 : decode cX4_findGain 0 = .ok (.iconst 0, 1) := by decide +kernel
theorem dX4_findGain_1 : decode cX4_findGain 1 = .ok (.istore_n 3, 1) := by decide +kernel
theorem dX4_findGain_2 : decode cX4_findGain 2 = .ok (.iload_n 3, 1) := by decide +kernel
theorem dX4_findGain_3 : decode cX4_findGain 3 = .ok (.iload_n 2, 1) := by decide +kernel
theorem dX4_findGain_4 : decode cX4_findGain 4 = .ok (.if_icmp .ge 38, 3) := by decide +kernel
theorem dX4_findGain_7 : decode cX4_findGain 7 = .ok (.aload_n 0, 1) := by decide +kernel
theorem dX4_findGain_8 : decode cX4_findGain 8 = .ok (.getfield 20, 3) := by decide +kernel
theorem dX4_findGain_11 : decode cX4_findGain 11 = .ok (.iload_n 1, 1) := by decide +kernel
theorem dX4_findGain_12 : decode cX4_findGain 12 = .ok (.aaload, 1) := by decide +kernel
theorem dX4_findGain_13 : decode cX4_findGain 13 = .ok (.iload_n 3, 1) := by decide +kernel
theorem dX4_findGain_14 : decode cX4_findGain 14 = .ok (.aload_n 0, 1) := by decide +kernel
theorem dX4_findGain_15 : decode cX4_findGain 15 = .ok (.iload_n 1, 1) := by decide +kernel
theorem dX4_findGain_16 : decode cX4_findGain 16 = .ok (.iload_n 3, 1) := by decide +kernel
theorem dX4_findGain_17 : decode cX4_findGain 17 = .ok (.invokevirtual 116, 3) := by decide +kernel
theorem dX4_findGain_20 : decode cX4_findGain 20 = .ok (.aload_n 0, 1) := by decide +kernel
theorem dX4_findGain_21 : decode cX4_findGain 21 = .ok (.getfield 36, 3) := by decide +kernel
theorem dX4_findGain_24 : decode cX4_findGain 24 = .ok (.getfield 119, 3) := by decide +kernel
theorem dX4_findGain_27 : decode cX4_findGain 27 = .ok (.iload_n 1, 1) := by decide +kernel
theorem dX4_findGain_28 : decode cX4_findGain 28 = .ok (.iaload, 1) := by decide +kernel
theorem dX4_findGain_29 : decode cX4_findGain 29 = .ok (.invokestatic 122, 3) := by decide +kernel
theorem dX4_findGain_32 : decode cX4_findGain 32 = .ok (.invokestatic 112, 3) := by decide +kernel
theorem dX4_findGain_35 : decode cX4_findGain 35 = .ok (.iastore, 1) := by decide +kernel
theorem dX4_findGain_36 : decode cX4_findGain 36 = .ok (.iinc 3 1, 3) := by decide +kernel
theorem dX4_findGain_39 : decode cX4_findGain 39 = .ok (.goto (-37), 3) := by decide +kernel
theorem dX4_findGain_42 : decode cX4_findGain 42 = .ok (.return_, 1) := by decide +kernel
theorem dX4_findDelay_0 : decode cX4_findDelay 0 = .ok (.aload_n 0, 1) := by decide +kernel
theorem dX4_findDelay_1 : decode cX4_findDelay 1 = .ok (.getfield 33, 3) := by decide +kernel
theorem dX4_findDelay_4 : decode cX4_findDelay 4 = .ok (.iload_n 1, 1) := by decide +kernel
theorem dX4_findDelay_5 : decode cX4_findDelay 5 = .ok (.iaload, 1) := by decide +kernel
theorem dX4_findDelay_6 : decode cX4_findDelay 6 = .ok (.istore_n 3, 1) := by decide +kernel
theorem dX4_findDelay_7 : decode cX4_findDelay 7 = .ok (.iconst 0, 1) := by decide +kernel
theorem dX4_findDelay_8 : decode cX4_findDelay 8 = .ok (.istore 4, 2) := by decide +kernel
theorem dX4_findDelay_10 : decode cX4_findDelay 10 = .ok (.iload 4, 2) := by decide +kernel
theorem dX4_findDelay_12 : decode cX4_findDelay 12 = .ok (.iload_n 2, 1) := by decide +kernel
theorem dX4_findDelay_13 : decode cX4_findDelay 13 = .ok (.if_icmp .ge 33, 3) := by decide +kernel
theorem dX4_findDelay_16 : decode cX4_findDelay 16 = .ok (.aload_n 0, 1) := by decide +kernel
theorem dX4_findDelay_17 : decode cX4_findDelay 17 = .ok (.getfield 20, 3) := by decide +kernel
theorem dX4_findDelay_20 : decode cX4_findDelay 20 = .ok (.iload_n 1, 1) := by decide +kernel
theorem dX4_findDelay_21 : decode cX4_findDelay 21 = .ok (.aaload, 1) := by decide +kernel
theorem dX4_findDelay_22 : decode cX4_findDelay 22 = .ok (.iload 4, 2) := by decide +kernel
theorem dX4_findDelay_24 : decode cX4_findDelay 24 = .ok (.aload_n 0, 1) := by decide +kernel
theorem dX4_findDelay_25 : decode cX4_findDelay 25 = .ok (.getfield 30, 3) := by decide +kernel
theorem dX4_findDelay_28 : decode cX4_findDelay 28 = .ok (.iload_n 1, 1) := by decide +kernel
theorem dX4_findDelay_29 : decode cX4_findDelay 29 = .ok (.aaload, 1) := by decide +kernel
theorem dX4_findDelay_30 : decode cX4_findDelay 30 = .ok (.iload_n 3, 1) := by decide +kernel
theorem dX4_findDelay_31 : decode cX4_findDelay 31 = .ok (.iaload, 1) := by decide +kernel
theorem dX4_findDelay_32 : decode cX4_findDelay 32 = .ok (.iastore, 1) := by decide +kernel
theorem dX4_findDelay_33 : decode cX4_findDelay 33 = .ok (.aload_n 0, 1) := by decide +kernel
theorem dX4_findDelay_34 : decode cX4_findDelay 34 = .ok (.iload_n 1, 1) := by decide +kernel
theorem dX4_findDelay_35 : decode cX4_findDelay 35 = .ok (.iload_n 3, 1) := by decide +kernel
theorem dX4_findDelay_36 : decode cX4_findDelay 36 = .ok (.invokevirtual 125, 3) := by decide +kernel
theorem dX4_findDelay_39 : decode cX4_findDelay 39 = .ok (.istore_n 3, 1) := by decide +kernel
theorem dX4_findDelay_40 : decode cX4_findDelay 40 = .ok (.iinc 4 1, 3) := by decide +kernel
theorem dX4_findDelay_43 : decode cX4_findDelay 43 = .ok (.goto (-33), 3) := by decide +kernel
theorem dX4_findDelay_46 : decode cX4_findDelay 46 = .ok (.return_, 1) := by decide +kernel
theorem dX4_feedDelay_0 : decode cX4_feedDelay 0 = .ok (.aload_n 0, 1) := by decide +kernel
theorem dX4_feedDelay_1 : decode cX4_feedDelay 1 = .ok (.getfield 33, 3) := by decide +kernel
theorem dX4_feedDelay_4 : decode cX4_feedDelay 4 = .ok (.iload_n 1, 1) := by decide +kernel
theorem dX4_feedDelay_5 : decode cX4_feedDelay 5 = .ok (.iaload, 1) := by decide +kernel
theorem dX4_feedDelay_6 : decode cX4_feedDelay 6 = .ok (.istore_n 3, 1) := by decide +kernel
theorem dX4_feedDelay_7 : decode cX4_feedDelay 7 = .ok (.iconst 0, 1) := by decide +kernel
theorem dX4_feedDelay_8 : decode cX4_feedDelay 8 = .ok (.istore 4, 2) := by decide +kernel
theorem dX4_feedDelay_10 : decode cX4_feedDelay 10 = .ok (.iload 4, 2) := by decide +kernel
theorem dX4_feedDelay_12 : decode cX4_feedDelay 12 = .ok (.iload_n 2, 1) := by decide +kernel
theorem dX4_feedDelay_13 : decode cX4_feedDelay 13 = .ok (.if_icmp .ge 60, 3) := by decide +kernel
theorem dX4_feedDelay_16 : decode cX4_feedDelay 16 = .ok (.aload_n 0, 1) := by decide +kernel
theorem dX4_feedDelay_17 : decode cX4_feedDelay 17 = .ok (.getfield 20, 3) := by decide +kernel
theorem dX4_feedDelay_20 : decode cX4_feedDelay 20 = .ok (.iload_n 1, 1) := by decide +kernel
theorem dX4_feedDelay_21 : decode cX4_feedDelay 21 = .ok (.aaload, 1) := by decide +kernel
theorem dX4_feedDelay_22 : decode cX4_feedDelay 22 = .ok (.iload 4, 2) := by decide +kernel
theorem dX4_feedDelay_24 : decode cX4_feedDelay 24 = .ok (.iaload, 1) := by decide +kernel
theorem dX4_feedDelay_25 : decode cX4_feedDelay 25 = .ok (.aload_n 0, 1) := by decide +kernel
theorem dX4_feedDelay_26 : decode cX4_feedDelay 26 = .ok (.getfield 36, 3) := by decide +kernel
theorem dX4_feedDelay_29 : decode cX4_feedDelay 29 = .ok (.getfield 128, 3) := by decide +kernel
theorem dX4_feedDelay_32 : decode cX4_feedDelay 32 = .ok (.iload_n 1, 1) := by decide +kernel
theorem dX4_feedDelay_33 : decode cX4_feedDelay 33 = .ok (.iaload, 1) := by decide +kernel
theorem dX4_feedDelay_34 : decode cX4_feedDelay 34 = .ok (.invokestatic 122, 3) := by decide +kernel
theorem dX4_feedDelay_37 : decode cX4_feedDelay 37 = .ok (.istore 5, 2) := by decide +kernel
theorem dX4_feedDelay_39 : decode cX4_feedDelay 39 = .ok (.aload_n 0, 1) := by decide +kernel
theorem dX4_feedDelay_40 : decode cX4_feedDelay 40 = .ok (.getfield 30, 3) := by decide +kernel
theorem dX4_feedDelay_43 : decode cX4_feedDelay 43 = .ok (.iload_n 1, 1) := by decide +kernel
theorem dX4_feedDelay_44 : decode cX4_feedDelay 44 = .ok (.aaload, 1) := by decide +kernel
theorem dX4_feedDelay_45 : decode cX4_feedDelay 45 = .ok (.iload_n 3, 1) := by decide +kernel
theorem dX4_feedDelay_46 : decode cX4_feedDelay 46 = .ok (.aload_n 0, 1) := by decide +kernel
theorem dX4_feedDelay_47 : decode cX4_feedDelay 47 = .ok (.iload_n 1, 1) := by decide +kernel
theorem dX4_feedDelay_48 : decode cX4_feedDelay 48 = .ok (.iload 4, 2) := by decide +kernel
theorem dX4_feedDelay_50 : decode cX4_feedDelay 50 = .ok (.invokevirtual 116, 3) := by decide +kernel
theorem dX4_feedDelay_53 : decode cX4_feedDelay 53 = .ok (.iload 5, 2) := by decide +kernel
theorem dX4_feedDelay_55 : decode cX4_feedDelay 55 = .ok (.iadd, 1) := by decide +kernel
theorem dX4_feedDelay_56 : decode cX4_feedDelay 56 = .ok (.invokestatic 112, 3) := by decide +kernel
theorem dX4_feedDelay_59 : decode cX4_feedDelay 59 = .ok (.iastore, 1) := by decide +kernel
theorem dX4_feedDelay_60 : decode cX4_feedDelay 60 = .ok (.aload_n 0, 1) := by decide +kernel
theorem dX4_feedDelay_61 : decode cX4_feedDelay 61 = .ok (.iload_n 1, 1) := by decide +kernel
theorem dX4_feedDelay_62 : decode cX4_feedDelay 62 = .ok (.iload_n 3, 1) := by decide +kernel
theorem dX4_feedDelay_63 : decode cX4_feedDelay 63 = .ok (.invokevirtual 125, 3) := by decide +kernel
theorem dX4_feedDelay_66 : decode cX4_feedDelay 66 = .ok (.istore_n 3, 1) := by decide +kernel
theorem dX4_feedDelay_67 : decode cX4_feedDelay 67 = .ok (.iinc 4 1, 3) := by decide +kernel
theorem dX4_feedDelay_70 : decode cX4_feedDelay 70 = .ok (.goto (-60), 3) := by decide +kernel
theorem dX4_feedDelay_73 : decode cX4_feedDelay 73 = .ok (.aload_n 0, 1) := by decide +kernel
theorem dX4_feedDelay_74 : decode cX4_feedDelay 74 = .ok (.getfield 33, 3) := by decide +kernel
theorem dX4_feedDelay_77 : decode cX4_feedDelay 77 = .ok (.iload_n 1, 1) := by decide +kernel
theorem dX4_feedDelay_78 : decode cX4_feedDelay 78 = .ok (.iload_n 3, 1) := by decide +kernel
theorem dX4_feedDelay_79 : decode cX4_feedDelay 79 = .ok (.iastore, 1) := by decide +kernel
theorem dX4_feedDelay_80 : decode cX4_feedDelay 80 = .ok (.return_, 1) := by decide +kernel
theorem dX4_nextOldest_0 : decode cX4_nextOldest 0 = .ok (.iload_n 2, 1) := by decide +kernel
theorem dX4_nextOldest_1 : decode cX4_nextOldest 1 = .ok (.iconst 1, 1) := by decide +kernel
theorem dX4_nextOldest_2 : decode cX4_nextOldest 2 = .ok (.iadd, 1) := by decide +kernel
theorem dX4_nextOldest_3 : decode cX4_nextOldest 3 = .ok (.aload_n 0, 1) := by decide +kernel
theorem dX4_nextOldest_4 : decode cX4_nextOldest 4 = .ok (.getfield 36, 3) := by decide +kernel
theorem dX4_nextOldest_7 : decode cX4_nextOldest 7 = .ok (.getfield 131, 3) := by decide +kernel
theorem dX4_nextOldest_10 : decode cX4_nextOldest 10 = .ok (.iload_n 1, 1) := by decide +kernel
theorem dX4_nextOldest_11 : decode cX4_nextOldest 11 = .ok (.iaload, 1) := by decide +kernel
theorem dX4_nextOldest_12 : decode cX4_nextOldest 12 = .ok (.if_icmp .ge 9, 3) := by decide +kernel
theorem dX4_nextOldest_15 : decode cX4_nextOldest 15 = .ok (.iload_n 2, 1) := by decide +kernel
theorem dX4_nextOldest_16 : decode cX4_nextOldest 16 = .ok (.iconst 1, 1) := by decide +kernel
theorem dX4_nextOldest_17 : decode cX4_nextOldest 17 = .ok (.iadd, 1) := by decide +kernel
theorem dX4_nextOldest_18 : decode cX4_nextOldest 18 = .ok (.goto 4, 3) := by decide +kernel
theorem dX4_nextOldest_21 : decode cX4_nextOldest 21 = .ok (.iconst 0, 1) := by decide +kernel
theorem dX4_nextOldest_22 : decode cX4_nextOldest 22 = .ok (.ireturn, 1) := by decide +kernel
theorem dX4_findFilter_0 : decode cX4_findFilter 0 = .ok (.aload_n 0, 1) := by decide +kernel
theorem dX4_findFilter_1 : decode cX4_findFilter 1 = .ok (.getfield 27, 3) := by decide +kernel
theorem dX4_findFilter_4 : decode cX4_findFilter 4 = .ok (.iload_n 1, 1) := by decide +kernel
theorem dX4_findFilter_5 : decode cX4_findFilter 5 = .ok (.iaload, 1) := by decide +kernel
theorem dX4_findFilter_6 : decode cX4_findFilter 6 = .ok (.istore_n 3, 1) := by decide +kernel
theorem dX4_findFilter_7 : decode cX4_findFilter 7 = .ok (.aload_n 0, 1) := by decide +kernel
theorem dX4_findFilter_8 : decode cX4_findFilter 8 = .ok (.getfield 23, 3) := by decide +kernel
theorem dX4_findFilter_11 : decode cX4_findFilter 11 = .ok (.iload_n 1, 1) := by decide +kernel
theorem dX4_findFilter_12 : decode cX4_findFilter 12 = .ok (.iaload, 1) := by decide +kernel
theorem dX4_findFilter_13 : decode cX4_findFilter 13 = .ok (.istore 4, 2) := by decide +kernel
theorem dX4_findFilter_15 : decode cX4_findFilter 15 = .ok (.iconst 0, 1) := by decide +kernel
theorem dX4_findFilter_16 : decode cX4_findFilter 16 = .ok (.istore 5, 2) := by decide +kernel
theorem dX4_findFilter_18 : decode cX4_findFilter 18 = .ok (.iload 5, 2) := by decide +kernel
theorem dX4_findFilter_20 : decode cX4_findFilter 20 = .ok (.iload_n 2, 1) := by decide +kernel
theorem dX4_findFilter_21 : decode cX4_findFilter 21 = .ok (.if_icmp .ge 81, 3) := by decide +kernel
theorem dX4_findFilter_24 : decode cX4_findFilter 24 = .ok (.aload_n 0, 1) := by decide +kernel
theorem dX4_findFilter_25 : decode cX4_findFilter 25 = .ok (.iload_n 1, 1) := by decide +kernel
theorem dX4_findFilter_26 : decode cX4_findFilter 26 = .ok (.iload 5, 2) := by decide +kernel
theorem dX4_findFilter_28 : decode cX4_findFilter 28 = .ok (.invokevirtual 116, 3) := by decide +kernel
theorem dX4_findFilter_31 : decode cX4_findFilter 31 = .ok (.istore 6, 2) := by decide +kernel
theorem dX4_findFilter_33 : decode cX4_findFilter 33 = .ok (.aload_n 0, 1) := by decide +kernel
theorem dX4_findFilter_34 : decode cX4_findFilter 34 = .ok (.getfield 36, 3) := by decide +kernel
theorem dX4_findFilter_37 : decode cX4_findFilter 37 = .ok (.getfield 134, 3) := by decide +kernel
theorem dX4_findFilter_40 : decode cX4_findFilter 40 = .ok (.iload_n 1, 1) := by decide +kernel
theorem dX4_findFilter_41 : decode cX4_findFilter 41 = .ok (.iaload, 1) := by decide +kernel
theorem dX4_findFilter_42 : decode cX4_findFilter 42 = .ok (.iload 6, 2) := by decide +kernel
theorem dX4_findFilter_44 : decode cX4_findFilter 44 = .ok (.imul, 1) := by decide +kernel
theorem dX4_findFilter_45 : decode cX4_findFilter 45 = .ok (.aload_n 0, 1) := by decide +kernel
theorem dX4_findFilter_46 : decode cX4_findFilter 46 = .ok (.getfield 36, 3) := by decide +kernel
theorem dX4_findFilter_49 : decode cX4_findFilter 49 = .ok (.getfield 137, 3) := by decide +kernel
theorem dX4_findFilter_52 : decode cX4_findFilter 52 = .ok (.iload_n 1, 1) := by decide +kernel
theorem dX4_findFilter_53 : decode cX4_findFilter 53 = .ok (.iaload, 1) := by decide +kernel
theorem dX4_findFilter_54 : decode cX4_findFilter 54 = .ok (.iload_n 3, 1) := by decide +kernel
theorem dX4_findFilter_55 : decode cX4_findFilter 55 = .ok (.imul, 1) := by decide +kernel
theorem dX4_findFilter_56 : decode cX4_findFilter 56 = .ok (.iadd, 1) := by decide +kernel
theorem dX4_findFilter_57 : decode cX4_findFilter 57 = .ok (.aload_n 0, 1) := by decide +kernel
theorem dX4_findFilter_58 : decode cX4_findFilter 58 = .ok (.getfield 36, 3) := by decide +kernel
theorem dX4_findFilter_61 : decode cX4_findFilter 61 = .ok (.getfield 140, 3) := by decide +kernel
theorem dX4_findFilter_64 : decode cX4_findFilter 64 = .ok (.iload_n 1, 1) := by decide +kernel
theorem dX4_findFilter_65 : decode cX4_findFilter 65 = .ok (.iaload, 1) := by decide +kernel
theorem dX4_findFilter_66 : decode cX4_findFilter 66 = .ok (.iload 4, 2) := by decide +kernel
theorem dX4_findFilter_68 : decode cX4_findFilter 68 = .ok (.imul, 1) := by decide +kernel
theorem dX4_findFilter_69 : decode cX4_findFilter 69 = .ok (.iadd, 1) := by decide +kernel
theorem dX4_findFilter_70 : decode cX4_findFilter 70 = .ok (.istore 7, 2) := by decide +kernel
theorem dX4_findFilter_72 : decode cX4_findFilter 72 = .ok (.iload 7, 2) := by decide +kernel
theorem dX4_findFilter_74 : decode cX4_findFilter 74 = .ok (.bipush 64, 2) := by decide +kernel
theorem dX4_findFilter_76 : decode cX4_findFilter 76 = .ok (.idiv, 1) := by decide +kernel
theorem dX4_findFilter_77 : decode cX4_findFilter 77 = .ok (.invokestatic 112, 3) := by decide +kernel
theorem dX4_findFilter_80 : decode cX4_findFilter 80 = .ok (.istore 4, 2) := by decide +kernel
theorem dX4_findFilter_82 : decode cX4_findFilter 82 = .ok (.aload_n 0, 1) := by decide +kernel
theorem dX4_findFilter_83 : decode cX4_findFilter 83 = .ok (.getfield 20, 3) := by decide +kernel
theorem dX4_findFilter_86 : decode cX4_findFilter 86 = .ok (.iload_n 1, 1) := by decide +kernel
theorem dX4_findFilter_87 : decode cX4_findFilter 87 = .ok (.aaload, 1) := by decide +kernel
theorem dX4_findFilter_88 : decode cX4_findFilter 88 = .ok (.iload 5, 2) := by decide +kernel
theorem dX4_findFilter_90 : decode cX4_findFilter 90 = .ok (.iload 4, 2) := by decide +kernel
theorem dX4_findFilter_92 : decode cX4_findFilter 92 = .ok (.iastore, 1) := by decide +kernel
theorem dX4_findFilter_93 : decode cX4_findFilter 93 = .ok (.iload 6, 2) := by decide +kernel
theorem dX4_findFilter_95 : decode cX4_findFilter 95 = .ok (.istore_n 3, 1) := by decide +kernel
theorem dX4_findFilter_96 : decode cX4_findFilter 96 = .ok (.iinc 5 1, 3) := by decide +kernel
theorem dX4_findFilter_99 : decode cX4_findFilter 99 = .ok (.goto (-81), 3) := by decide +kernel
theorem dX4_findFilter_102 : decode cX4_findFilter 102 = .ok (.aload_n 0, 1) := by decide +kernel
theorem dX4_findFilter_103 : decode cX4_findFilter 103 = .ok (.getfield 27, 3) := by decide +kernel
theorem dX4_findFilter_106 : decode cX4_findFilter 106 = .ok (.iload_n 1, 1) := by decide +kernel
theorem dX4_findFilter_107 : decode cX4_findFilter 107 = .ok (.iload_n 3, 1) := by decide +kernel
theorem dX4_findFilter_108 : decode cX4_findFilter 108 = .ok (.iastore, 1) := by decide +kernel
theorem dX4_findFilter_109 : decode cX4_findFilter 109 = .ok (.return_, 1) := by decide +kernel
theorem dX4_findBus_0 : decode cX4_findBus 0 = .ok (.iconst 0, 1) := by decide +kernel
theorem dX4_findBus_1 : decode cX4_findBus 1 = .ok (.istore_n 3, 1) := by decide +kernel
theorem dX4_findBus_2 : decode cX4_findBus 2 = .ok (.iload_n 3, 1) := by decide +kernel
theorem dX4_findBus_3 : decode cX4_findBus 3 = .ok (.iload_n 2, 1) := by decide +kernel
theorem dX4_findBus_4 : decode cX4_findBus 4 = .ok (.if_icmp .ge 38, 3) := by decide +kernel
theorem dX4_findBus_7 : decode cX4_findBus 7 = .ok (.aload_n 0, 1) := by decide +kernel
theorem dX4_findBus_8 : decode cX4_findBus 8 = .ok (.getfield 20, 3) := by decide +kernel
theorem dX4_findBus_11 : decode cX4_findBus 11 = .ok (.iload_n 1, 1) := by decide +kernel
theorem dX4_findBus_12 : decode cX4_findBus 12 = .ok (.aaload, 1) := by decide +kernel
theorem dX4_findBus_13 : decode cX4_findBus 13 = .ok (.iload_n 3, 1) := by decide +kernel
theorem dX4_findBus_14 : decode cX4_findBus 14 = .ok (.aload_n 0, 1) := by decide +kernel
theorem dX4_findBus_15 : decode cX4_findBus 15 = .ok (.iload_n 1, 1) := by decide +kernel
theorem dX4_findBus_16 : decode cX4_findBus 16 = .ok (.iload_n 3, 1) := by decide +kernel
theorem dX4_findBus_17 : decode cX4_findBus 17 = .ok (.invokevirtual 116, 3) := by decide +kernel
theorem dX4_findBus_20 : decode cX4_findBus 20 = .ok (.aload_n 0, 1) := by decide +kernel
theorem dX4_findBus_21 : decode cX4_findBus 21 = .ok (.getfield 36, 3) := by decide +kernel
theorem dX4_findBus_24 : decode cX4_findBus 24 = .ok (.getfield 143, 3) := by decide +kernel
theorem dX4_findBus_27 : decode cX4_findBus 27 = .ok (.iload_n 1, 1) := by decide +kernel
theorem dX4_findBus_28 : decode cX4_findBus 28 = .ok (.iaload, 1) := by decide +kernel
theorem dX4_findBus_29 : decode cX4_findBus 29 = .ok (.invokestatic 146, 3) := by decide +kernel
theorem dX4_findBus_32 : decode cX4_findBus 32 = .ok (.invokestatic 112, 3) := by decide +kernel
theorem dX4_findBus_35 : decode cX4_findBus 35 = .ok (.iastore, 1) := by decide +kernel
theorem dX4_findBus_36 : decode cX4_findBus 36 = .ok (.iinc 3 1, 3) := by decide +kernel
theorem dX4_findBus_39 : decode cX4_findBus 39 = .ok (.goto (-37), 3) := by decide +kernel
theorem dX4_findBus_42 : decode cX4_findBus 42 = .ok (.return_, 1) := by decide +kernel
theorem dX4_limited_0 : decode cX4_limited 0 = .ok (.iload_n 0, 1) := by decide +kernel
theorem dX4_limited_1 : decode cX4_limited 1 = .ok (.invokestatic 149, 3) := by decide +kernel
theorem dX4_limited_4 : decode cX4_limited 4 = .ok (.istore_n 2, 1) := by decide +kernel
theorem dX4_limited_5 : decode cX4_limited 5 = .ok (.iload_n 2, 1) := by decide +kernel
theorem dX4_limited_6 : decode cX4_limited 6 = .ok (.iload_n 1, 1) := by decide +kernel
theorem dX4_limited_7 : decode cX4_limited 7 = .ok (.if_icmp .gt 5, 3) := by decide +kernel
theorem dX4_limited_10 : decode cX4_limited 10 = .ok (.iload_n 0, 1) := by decide +kernel
theorem dX4_limited_11 : decode cX4_limited 11 = .ok (.ireturn, 1) := by decide +kernel
theorem dX4_limited_12 : decode cX4_limited 12 = .ok (.iload_n 1, 1) := by decide +kernel
theorem dX4_limited_13 : decode cX4_limited 13 = .ok (.iload_n 2, 1) := by decide +kernel
theorem dX4_limited_14 : decode cX4_limited 14 = .ok (.iload_n 1, 1) := by decide +kernel
theorem dX4_limited_15 : decode cX4_limited 15 = .ok (.isub, 1) := by decide +kernel
theorem dX4_limited_16 : decode cX4_limited 16 = .ok (.iconst 4, 1) := by decide +kernel
theorem dX4_limited_17 : decode cX4_limited 17 = .ok (.idiv, 1) := by decide +kernel
theorem dX4_limited_18 : decode cX4_limited 18 = .ok (.iadd, 1) := by decide +kernel
theorem dX4_limited_19 : decode cX4_limited 19 = .ok (.istore_n 3, 1) := by decide +kernel
theorem dX4_limited_20 : decode cX4_limited 20 = .ok (.iload_n 0, 1) := by decide +kernel
theorem dX4_limited_21 : decode cX4_limited 21 = .ok (.ifCond .ge 8, 3) := by decide +kernel
theorem dX4_limited_24 : decode cX4_limited 24 = .ok (.iload_n 3, 1) := by decide +kernel
theorem dX4_limited_25 : decode cX4_limited 25 = .ok (.ineg, 1) := by decide +kernel
theorem dX4_limited_26 : decode cX4_limited 26 = .ok (.goto 4, 3) := by decide +kernel
theorem dX4_limited_29 : decode cX4_limited 29 = .ok (.iload_n 3, 1) := by decide +kernel
theorem dX4_limited_30 : decode cX4_limited 30 = .ok (.ireturn, 1) := by decide +kernel
theorem dX4_inputAt_0 : decode cX4_inputAt 0 = .ok (.iconst 0, 1) := by decide +kernel
theorem dX4_inputAt_1 : decode cX4_inputAt 1 = .ok (.istore_n 3, 1) := by decide +kernel
theorem dX4_inputAt_2 : decode cX4_inputAt 2 = .ok (.iconst 0, 1) := by decide +kernel
theorem dX4_inputAt_3 : decode cX4_inputAt 3 = .ok (.istore 4, 2) := by decide +kernel
theorem dX4_inputAt_5 : decode cX4_inputAt 5 = .ok (.iload 4, 2) := by decide +kernel
theorem dX4_inputAt_7 : decode cX4_inputAt 7 = .ok (.aload_n 0, 1) := by decide +kernel
theorem dX4_inputAt_8 : decode cX4_inputAt 8 = .ok (.getfield 36, 3) := by decide +kernel
theorem dX4_inputAt_11 : decode cX4_inputAt 11 = .ok (.getfield 152, 3) := by decide +kernel
theorem dX4_inputAt_14 : decode cX4_inputAt 14 = .ok (.iload_n 1, 1) := by decide +kernel
theorem dX4_inputAt_15 : decode cX4_inputAt 15 = .ok (.iaload, 1) := by decide +kernel
theorem dX4_inputAt_16 : decode cX4_inputAt 16 = .ok (.if_icmp .ge 50, 3) := by decide +kernel
theorem dX4_inputAt_19 : decode cX4_inputAt 19 = .ok (.aload_n 0, 1) := by decide +kernel
theorem dX4_inputAt_20 : decode cX4_inputAt 20 = .ok (.getfield 36, 3) := by decide +kernel
theorem dX4_inputAt_23 : decode cX4_inputAt 23 = .ok (.getfield 155, 3) := by decide +kernel
theorem dX4_inputAt_26 : decode cX4_inputAt 26 = .ok (.iload_n 1, 1) := by decide +kernel
theorem dX4_inputAt_27 : decode cX4_inputAt 27 = .ok (.aaload, 1) := by decide +kernel
theorem dX4_inputAt_28 : decode cX4_inputAt 28 = .ok (.iload 4, 2) := by decide +kernel
theorem dX4_inputAt_30 : decode cX4_inputAt 30 = .ok (.iaload, 1) := by decide +kernel
theorem dX4_inputAt_31 : decode cX4_inputAt 31 = .ok (.istore 5, 2) := by decide +kernel
theorem dX4_inputAt_33 : decode cX4_inputAt 33 = .ok (.iload_n 3, 1) := by decide +kernel
theorem dX4_inputAt_34 : decode cX4_inputAt 34 = .ok (.aload_n 0, 1) := by decide +kernel
theorem dX4_inputAt_35 : decode cX4_inputAt 35 = .ok (.getfield 20, 3) := by decide +kernel
theorem dX4_inputAt_38 : decode cX4_inputAt 38 = .ok (.iload 5, 2) := by decide +kernel
theorem dX4_inputAt_40 : decode cX4_inputAt 40 = .ok (.aaload, 1) := by decide +kernel
theorem dX4_inputAt_41 : decode cX4_inputAt 41 = .ok (.iload_n 2, 1) := by decide +kernel
theorem dX4_inputAt_42 : decode cX4_inputAt 42 = .ok (.iaload, 1) := by decide +kernel
theorem dX4_inputAt_43 : decode cX4_inputAt 43 = .ok (.aload_n 0, 1) := by decide +kernel
theorem dX4_inputAt_44 : decode cX4_inputAt 44 = .ok (.getfield 36, 3) := by decide +kernel
theorem dX4_inputAt_47 : decode cX4_inputAt 47 = .ok (.getfield 158, 3) := by decide +kernel
theorem dX4_inputAt_50 : decode cX4_inputAt 50 = .ok (.iload_n 1, 1) := by decide +kernel
theorem dX4_inputAt_51 : decode cX4_inputAt 51 = .ok (.aaload, 1) := by decide +kernel
theorem dX4_inputAt_52 : decode cX4_inputAt 52 = .ok (.iload 4, 2) := by decide +kernel
theorem dX4_inputAt_54 : decode cX4_inputAt 54 = .ok (.iaload, 1) := by decide +kernel
theorem dX4_inputAt_55 : decode cX4_inputAt 55 = .ok (.invokestatic 122, 3) := by decide +kernel
theorem dX4_inputAt_58 : decode cX4_inputAt 58 = .ok (.iadd, 1) := by decide +kernel
theorem dX4_inputAt_59 : decode cX4_inputAt 59 = .ok (.istore_n 3, 1) := by decide +kernel
theorem dX4_inputAt_60 : decode cX4_inputAt 60 = .ok (.iinc 4 1, 3) := by decide +kernel
theorem dX4_inputAt_63 : decode cX4_inputAt 63 = .ok (.goto (-58), 3) := by decide +kernel
theorem dX4_inputAt_66 : decode cX4_inputAt 66 = .ok (.iload_n 3, 1) := by decide +kernel
theorem dX4_inputAt_67 : decode cX4_inputAt 67 = .ok (.ireturn, 1) := by decide +kernel
theorem dX5_init_0 : decode cX5_init 0 = .ok (.aload_n 0, 1) := by decide +kernel
theorem dX5_init_1 : decode cX5_init 1 = .ok (.invokespecial 3, 3) := by decide +kernel
theorem dX5_init_4 : decode cX5_init 4 = .ok (.aload_n 0, 1) := by decide +kernel
theorem dX5_init_5 : decode cX5_init 5 = .ok (.bipush 115, 2) := by decide +kernel
theorem dX5_init_7 : decode cX5_init 7 = .ok (.putfield 9, 3) := by decide +kernel
theorem dX5_init_10 : decode cX5_init 10 = .ok (.aload_n 0, 1) := by decide +kernel
theorem dX5_init_11 : decode cX5_init 11 = .ok (.new 15, 3) := by decide +kernel
theorem dX5_init_14 : decode cX5_init 14 = .ok (.dup, 1) := by decide +kernel
theorem dX5_init_15 : decode cX5_init 15 = .ok (.iconst 0, 1) := by decide +kernel
theorem dX5_init_16 : decode cX5_init 16 = .ok (.iconst 0, 1) := by decide +kernel
theorem dX5_init_17 : decode cX5_init 17 = .ok (.sipush 1000, 3) := by decide +kernel
theorem dX5_init_20 : decode cX5_init 20 = .ok (.iconst 0, 1) := by decide +kernel
theorem dX5_init_21 : decode cX5_init 21 = .ok (.invokespecial 17, 3) := by decide +kernel
theorem dX5_init_24 : decode cX5_init 24 = .ok (.putfield 20, 3) := by decide +kernel
theorem dX5_init_27 : decode cX5_init 27 = .ok (.return_, 1) := by decide +kernel
theorem dX5_start_0 : decode cX5_start 0 = .ok (.aload_n 0, 1) := by decide +kernel
theorem dX5_start_1 : decode cX5_start 1 = .ok (.iconst 1, 1) := by decide +kernel
theorem dX5_start_2 : decode cX5_start 2 = .ok (.putfield 24, 3) := by decide +kernel
theorem dX5_start_5 : decode cX5_start 5 = .ok (.aload_n 0, 1) := by decide +kernel
theorem dX5_start_6 : decode cX5_start 6 = .ok (.iconst 0, 1) := by decide +kernel
theorem dX5_start_7 : decode cX5_start 7 = .ok (.putfield 28, 3) := by decide +kernel
theorem dX5_start_10 : decode cX5_start 10 = .ok (.aload_n 0, 1) := by decide +kernel
theorem dX5_start_11 : decode cX5_start 11 = .ok (.iload_n 1, 1) := by decide +kernel
theorem dX5_start_12 : decode cX5_start 12 = .ok (.putfield 31, 3) := by decide +kernel
theorem dX5_start_15 : decode cX5_start 15 = .ok (.aload_n 0, 1) := by decide +kernel
theorem dX5_start_16 : decode cX5_start 16 = .ok (.iload_n 2, 1) := by decide +kernel
theorem dX5_start_17 : decode cX5_start 17 = .ok (.putfield 35, 3) := by decide +kernel
theorem dX5_start_20 : decode cX5_start 20 = .ok (.aload_n 0, 1) := by decide +kernel
theorem dX5_start_21 : decode cX5_start 21 = .ok (.iload_n 3, 1) := by decide +kernel
theorem dX5_start_22 : decode cX5_start 22 = .ok (.putfield 9, 3) := by decide +kernel
theorem dX5_start_25 : decode cX5_start 25 = .ok (.aload_n 0, 1) := by decide +kernel
theorem dX5_start_26 : decode cX5_start 26 = .ok (.aload 4, 2) := by decide +kernel
theorem dX5_start_28 : decode cX5_start 28 = .ok (.putfield 20, 3) := by decide +kernel
theorem dX5_start_31 : decode cX5_start 31 = .ok (.aload_n 0, 1) := by decide +kernel
theorem dX5_start_32 : decode cX5_start 32 = .ok (.iload_n 1, 1) := by decide +kernel
theorem dX5_start_33 : decode cX5_start 33 = .ok (.invokestatic 38, 3) := by decide +kernel
theorem dX5_start_36 : decode cX5_start 36 = .ok (.putfield 42, 3) := by decide +kernel
theorem dX5_start_39 : decode cX5_start 39 = .ok (.aload_n 0, 1) := by decide +kernel
theorem dX5_start_40 : decode cX5_start 40 = .ok (.iconst 0, 1) := by decide +kernel
theorem dX5_start_41 : decode cX5_start 41 = .ok (.putfield 45, 3) := by decide +kernel
theorem dX5_start_44 : decode cX5_start 44 = .ok (.aload_n 0, 1) := by decide +kernel
theorem dX5_start_45 : decode cX5_start 45 = .ok (.iload 5, 2) := by decide +kernel
theorem dX5_start_47 : decode cX5_start 47 = .ok (.putfield 48, 3) := by decide +kernel
theorem dX5_start_50 : decode cX5_start 50 = .ok (.aload_n 0, 1) := by decide +kernel
theorem dX5_start_51 : decode cX5_start 51 = .ok (.iconst 0, 1) := by decide +kernel
theorem dX5_start_52 : decode cX5_start 52 = .ok (.putfield 51, 3) := by decide +kernel
theorem dX5_start_55 : decode cX5_start 55 = .ok (.return_, 1) := by decide +kernel
theorem dX5_release_0 : decode cX5_release 0 = .ok (.aload_n 0, 1) := by decide +kernel
theorem dX5_release_1 : decode cX5_release 1 = .ok (.aload_n 0, 1) := by decide +kernel
theorem dX5_release_2 : decode cX5_release 2 = .ok (.invokevirtual 54, 3) := by decide +kernel
theorem dX5_release_5 : decode cX5_release 5 = .ok (.putfield 58, 3) := by decide +kernel
theorem dX5_release_8 : decode cX5_release 8 = .ok (.aload_n 0, 1) := by decide +kernel
theorem dX5_release_9 : decode cX5_release 9 = .ok (.iconst 0, 1) := by decide +kernel
theorem dX5_release_10 : decode cX5_release 10 = .ok (.putfield 61, 3) := by decide +kernel
theorem dX5_release_13 : decode cX5_release 13 = .ok (.aload_n 0, 1) := by decide +kernel
theorem dX5_release_14 : decode cX5_release 14 = .ok (.iconst 1, 1) := by decide +kernel
theorem dX5_release_15 : decode cX5_release 15 = .ok (.putfield 28, 3) := by decide +kernel
theorem dX5_release_18 : decode cX5_release 18 = .ok (.aload_n 0, 1) := by decide +kernel
theorem dX5_release_19 : decode cX5_release 19 = .ok (.iload_n 1, 1) := by decide +kernel
theorem dX5_release_20 : decode cX5_release 20 = .ok (.putfield 64, 3) := by decide +kernel
theorem dX5_release_23 : decode cX5_release 23 = .ok (.aload_n 0, 1) := by decide +kernel
theorem dX5_release_24 : decode cX5_release 24 = .ok (.aload_n 0, 1) := by decide +kernel
theorem dX5_release_25 : decode cX5_release 25 = .ok (.getfield 20, 3) := by decide +kernel
theorem dX5_release_28 : decode cX5_release 28 = .ok (.getfield 67, 3) := by decide +kernel
theorem dX5_release_31 : decode cX5_release 31 = .ok (.ifCond .le 7, 3) := by decide +kernel
theorem dX5_release_34 : decode cX5_release 34 = .ok (.iconst 1, 1) := by decide +kernel
