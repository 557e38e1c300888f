theorem dX7_adds_14 : decode cX7_adds 14 = .ok (.aload_n 0, 1) := by decide +kernel
theorem dX7_adds_15 : decode cX7_adds 15 = .ok (.getfield 51, 3) := by decide +kernel
theorem dX7_adds_18 : decode cX7_adds 18 = .ok (.iload_n 2, 1) := by decide +kernel
theorem dX7_adds_19 : decode cX7_adds 19 = .ok (.iastore, 1) := by decide +kernel
theorem dX7_adds_20 : decode cX7_adds 20 = .ok (.aload_n 0, 1) := by decide +kernel
theorem dX7_adds_21 : decode cX7_adds 21 = .ok (.getfield 22, 3) := by decide +kernel
theorem dX7_adds_24 : decode cX7_adds 24 = .ok (.aload_n 0, 1) := by decide +kernel
theorem dX7_adds_25 : decode cX7_adds 25 = .ok (.getfield 51, 3) := by decide +kernel
theorem dX7_adds_28 : decode cX7_adds 28 = .ok (.iload_n 3, 1) := by decide +kernel
theorem dX7_adds_29 : decode cX7_adds 29 = .ok (.iastore, 1) := by decide +kernel
theorem dX7_adds_30 : decode cX7_adds 30 = .ok (.aload_n 0, 1) := by decide +kernel
theorem dX7_adds_31 : decode cX7_adds 31 = .ok (.getfield 25, 3) := by decide +kernel
theorem dX7_adds_34 : decode cX7_adds 34 = .ok (.aload_n 0, 1) := by decide +kernel
theorem dX7_adds_35 : decode cX7_adds 35 = .ok (.getfield 51, 3) := by decide +kernel
theorem dX7_adds_38 : decode cX7_adds 38 = .ok (.iload 4, 2) := by decide +kernel
theorem dX7_adds_40 : decode cX7_adds 40 = .ok (.iastore, 1) := by decide +kernel
theorem dX7_adds_41 : decode cX7_adds 41 = .ok (.aload_n 0, 1) := by decide +kernel
theorem dX7_adds_42 : decode cX7_adds 42 = .ok (.dup, 1) := by decide +kernel
theorem dX7_adds_43 : decode cX7_adds 43 = .ok (.getfield 51, 3) := by decide +kernel
theorem dX7_adds_46 : decode cX7_adds 46 = .ok (.iconst 1, 1) := by decide +kernel
theorem dX7_adds_47 : decode cX7_adds 47 = .ok (.iadd, 1) := by decide +kernel
theorem dX7_adds_48 : decode cX7_adds 48 = .ok (.putfield 51, 3) := by decide +kernel
theorem dX7_adds_51 : decode cX7_adds 51 = .ok (.aload_n 0, 1) := by decide +kernel
theorem dX7_adds_52 : decode cX7_adds 52 = .ok (.invokevirtual 91, 3) := by decide +kernel
theorem dX7_adds_55 : decode cX7_adds 55 = .ok (.aload_n 0, 1) := by decide +kernel
theorem dX7_adds_56 : decode cX7_adds 56 = .ok (.getfield 51, 3) := by decide +kernel
theorem dX7_adds_59 : decode cX7_adds 59 = .ok (.iconst 1, 1) := by decide +kernel
theorem dX7_adds_60 : decode cX7_adds 60 = .ok (.isub, 1) := by decide +kernel
theorem dX7_adds_61 : decode cX7_adds 61 = .ok (.ireturn, 1) := by decide +kernel
theorem dX7_isFull_0 : decode cX7_isFull 0 = .ok (.aload_n 0, 1) := by decide +kernel
theorem dX7_isFull_1 : decode cX7_isFull 1 = .ok (.iload_n 1, 1) := by decide +kernel
theorem dX7_isFull_2 : decode cX7_isFull 2 = .ok (.ifCond .eq 7, 3) := by decide +kernel
theorem dX7_isFull_5 : decode cX7_isFull 5 = .ok (.iconst 1, 1) := by decide +kernel
theorem dX7_isFull_6 : decode cX7_isFull 6 = .ok (.goto 17, 3) := by decide +kernel
theorem dX7_isFull_9 : decode cX7_isFull 9 = .ok (.aload_n 0, 1) := by decide +kernel
theorem dX7_isFull_10 : decode cX7_isFull 10 = .ok (.getfield 51, 3) := by decide +kernel
theorem dX7_isFull_13 : decode cX7_isFull 13 = .ok (.bipush 10, 2) := by decide +kernel
theorem dX7_isFull_15 : decode cX7_isFull 15 = .ok (.if_icmp .ne 7, 3) := by decide +kernel
theorem dX7_isFull_18 : decode cX7_isFull 18 = .ok (.iconst 2, 1) := by decide +kernel
theorem dX7_isFull_19 : decode cX7_isFull 19 = .ok (.goto 4, 3) := by decide +kernel
theorem dX7_isFull_22 : decode cX7_isFull 22 = .ok (.iconst 0, 1) := by decide +kernel
theorem dX7_isFull_23 : decode cX7_isFull 23 = .ok (.putfield 47, 3) := by decide +kernel
theorem dX7_isFull_26 : decode cX7_isFull 26 = .ok (.aload_n 0, 1) := by decide +kernel
theorem dX7_isFull_27 : decode cX7_isFull 27 = .ok (.getfield 47, 3) := by decide +kernel
theorem dX7_isFull_30 : decode cX7_isFull 30 = .ok (.ifCond .le 7, 3) := by decide +kernel
theorem dX7_isFull_33 : decode cX7_isFull 33 = .ok (.iconst 1, 1) := by decide +kernel
theorem dX7_isFull_34 : decode cX7_isFull 34 = .ok (.goto 4, 3) := by decide +kernel
theorem dX7_isFull_37 : decode cX7_isFull 37 = .ok (.iconst 0, 1) := by decide +kernel
theorem dX7_isFull_38 : decode cX7_isFull 38 = .ok (.ireturn, 1) := by decide +kernel
theorem dX7_addGain_0 : decode cX7_addGain 0 = .ok (.aload_n 0, 1) := by decide +kernel
theorem dX7_addGain_1 : decode cX7_addGain 1 = .ok (.iload_n 1, 1) := by decide +kernel
theorem dX7_addGain_2 : decode cX7_addGain 2 = .ok (.sipush (-200), 3) := by decide +kernel
theorem dX7_addGain_5 : decode cX7_addGain 5 = .ok (.sipush 200, 3) := by decide +kernel
theorem dX7_addGain_8 : decode cX7_addGain 8 = .ok (.invokestatic 94, 3) := by decide +kernel
theorem dX7_addGain_11 : decode cX7_addGain 11 = .ok (.ifCond .ne 7, 3) := by decide +kernel
theorem dX7_addGain_14 : decode cX7_addGain 14 = .ok (.iconst 1, 1) := by decide +kernel
theorem dX7_addGain_15 : decode cX7_addGain 15 = .ok (.goto 4, 3) := by decide +kernel
theorem dX7_addGain_18 : decode cX7_addGain 18 = .ok (.iconst 0, 1) := by decide +kernel
theorem dX7_addGain_19 : decode cX7_addGain 19 = .ok (.invokevirtual 98, 3) := by decide +kernel
theorem dX7_addGain_22 : decode cX7_addGain 22 = .ok (.ifCond .eq 7, 3) := by decide +kernel
theorem dX7_addGain_25 : decode cX7_addGain 25 = .ok (.iconst 0, 1) := by decide +kernel
theorem dX7_addGain_26 : decode cX7_addGain 26 = .ok (.goto 11, 3) := by decide +kernel
theorem dX7_addGain_29 : decode cX7_addGain 29 = .ok (.aload_n 0, 1) := by decide +kernel
theorem dX7_addGain_30 : decode cX7_addGain 30 = .ok (.iconst 1, 1) := by decide +kernel
theorem dX7_addGain_31 : decode cX7_addGain 31 = .ok (.iload_n 1, 1) := by decide +kernel
theorem dX7_addGain_32 : decode cX7_addGain 32 = .ok (.iconst 0, 1) := by decide +kernel
theorem dX7_addGain_33 : decode cX7_addGain 33 = .ok (.iconst 0, 1) := by decide +kernel
theorem dX7_addGain_34 : decode cX7_addGain 34 = .ok (.invokevirtual 102, 3) := by decide +kernel
theorem dX7_addGain_37 : decode cX7_addGain 37 = .ok (.ireturn, 1) := by decide +kernel
theorem dX7_addDelay_0 : decode cX7_addDelay 0 = .ok (.aload_n 0, 1) := by decide +kernel
theorem dX7_addDelay_1 : decode cX7_addDelay 1 = .ok (.iload_n 1, 1) := by decide +kernel
theorem dX7_addDelay_2 : decode cX7_addDelay 2 = .ok (.iconst 1, 1) := by decide +kernel
theorem dX7_addDelay_3 : decode cX7_addDelay 3 = .ok (.bipush 60, 2) := by decide +kernel
theorem dX7_addDelay_5 : decode cX7_addDelay 5 = .ok (.invokestatic 94, 3) := by decide +kernel
theorem dX7_addDelay_8 : decode cX7_addDelay 8 = .ok (.ifCond .eq 14, 3) := by decide +kernel
theorem dX7_addDelay_11 : decode cX7_addDelay 11 = .ok (.iload_n 2, 1) := by decide +kernel
theorem dX7_addDelay_12 : decode cX7_addDelay 12 = .ok (.bipush (-95), 2) := by decide +kernel
theorem dX7_addDelay_14 : decode cX7_addDelay 14 = .ok (.bipush 95, 2) := by decide +kernel
theorem dX7_addDelay_16 : decode cX7_addDelay 16 = .ok (.invokestatic 94, 3) := by decide +kernel
theorem dX7_addDelay_19 : decode cX7_addDelay 19 = .ok (.ifCond .ne 7, 3) := by decide +kernel
theorem dX7_addDelay_22 : decode cX7_addDelay 22 = .ok (.iconst 1, 1) := by decide +kernel
theorem dX7_addDelay_23 : decode cX7_addDelay 23 = .ok (.goto 4, 3) := by decide +kernel
theorem dX7_addDelay_26 : decode cX7_addDelay 26 = .ok (.iconst 0, 1) := by decide +kernel
theorem dX7_addDelay_27 : decode cX7_addDelay 27 = .ok (.invokevirtual 98, 3) := by decide +kernel
theorem dX7_addDelay_30 : decode cX7_addDelay 30 = .ok (.ifCond .eq 7, 3) := by decide +kernel
theorem dX7_addDelay_33 : decode cX7_addDelay 33 = .ok (.iconst 0, 1) := by decide +kernel
theorem dX7_addDelay_34 : decode cX7_addDelay 34 = .ok (.goto 11, 3) := by decide +kernel
theorem dX7_addDelay_37 : decode cX7_addDelay 37 = .ok (.aload_n 0, 1) := by decide +kernel
theorem dX7_addDelay_38 : decode cX7_addDelay 38 = .ok (.iconst 2, 1) := by decide +kernel
theorem dX7_addDelay_39 : decode cX7_addDelay 39 = .ok (.iload_n 1, 1) := by decide +kernel
theorem dX7_addDelay_40 : decode cX7_addDelay 40 = .ok (.iload_n 2, 1) := by decide +kernel
theorem dX7_addDelay_41 : decode cX7_addDelay 41 = .ok (.iconst 0, 1) := by decide +kernel
theorem dX7_addDelay_42 : decode cX7_addDelay 42 = .ok (.invokevirtual 102, 3) := by decide +kernel
theorem dX7_addDelay_45 : decode cX7_addDelay 45 = .ok (.ireturn, 1) := by decide +kernel
theorem dX7_addFilter_0 : decode cX7_addFilter 0 = .ok (.aload_n 0, 1) := by decide +kernel
theorem dX7_addFilter_1 : decode cX7_addFilter 1 = .ok (.iload_n 1, 1) := by decide +kernel
theorem dX7_addFilter_2 : decode cX7_addFilter 2 = .ok (.bipush (-64), 2) := by decide +kernel
theorem dX7_addFilter_4 : decode cX7_addFilter 4 = .ok (.bipush 64, 2) := by decide +kernel
theorem dX7_addFilter_6 : decode cX7_addFilter 6 = .ok (.invokestatic 94, 3) := by decide +kernel
theorem dX7_addFilter_9 : decode cX7_addFilter 9 = .ok (.ifCond .eq 25, 3) := by decide +kernel
theorem dX7_addFilter_12 : decode cX7_addFilter 12 = .ok (.iload_n 2, 1) := by decide +kernel
theorem dX7_addFilter_13 : decode cX7_addFilter 13 = .ok (.bipush (-64), 2) := by decide +kernel
theorem dX7_addFilter_15 : decode cX7_addFilter 15 = .ok (.bipush 64, 2) := by decide +kernel
theorem dX7_addFilter_17 : decode cX7_addFilter 17 = .ok (.invokestatic 94, 3) := by decide +kernel
theorem dX7_addFilter_20 : decode cX7_addFilter 20 = .ok (.ifCond .eq 14, 3) := by decide +kernel
theorem dX7_addFilter_23 : decode cX7_addFilter 23 = .ok (.iload_n 3, 1) := by decide +kernel
theorem dX7_addFilter_24 : decode cX7_addFilter 24 = .ok (.bipush (-64), 2) := by decide +kernel
theorem dX7_addFilter_26 : decode cX7_addFilter 26 = .ok (.bipush 64, 2) := by decide +kernel
theorem dX7_addFilter_28 : decode cX7_addFilter 28 = .ok (.invokestatic 94, 3) := by decide +kernel
theorem dX7_addFilter_31 : decode cX7_addFilter 31 = .ok (.ifCond .ne 7, 3) := by decide +kernel
theorem dX7_addFilter_34 : decode cX7_addFilter 34 = .ok (.iconst 1, 1) := by decide +kernel
theorem dX7_addFilter_35 : decode cX7_addFilter 35 = .ok (.goto 4, 3) := by decide +kernel
theorem dX7_addFilter_38 : decode cX7_addFilter 38 = .ok (.iconst 0, 1) := by decide +kernel
theorem dX7_addFilter_39 : decode cX7_addFilter 39 = .ok (.invokevirtual 98, 3) := by decide +kernel
theorem dX7_addFilter_42 : decode cX7_addFilter 42 = .ok (.ifCond .eq 7, 3) := by decide +kernel
theorem dX7_addFilter_45 : decode cX7_addFilter 45 = .ok (.iconst 0, 1) := by decide +kernel
theorem dX7_addFilter_46 : decode cX7_addFilter 46 = .ok (.goto 11, 3) := by decide +kernel
theorem dX7_addFilter_49 : decode cX7_addFilter 49 = .ok (.aload_n 0, 1) := by decide +kernel
theorem dX7_addFilter_50 : decode cX7_addFilter 50 = .ok (.iconst 3, 1) := by decide +kernel
theorem dX7_addFilter_51 : decode cX7_addFilter 51 = .ok (.iload_n 1, 1) := by decide +kernel
theorem dX7_addFilter_52 : decode cX7_addFilter 52 = .ok (.iload_n 2, 1) := by decide +kernel
theorem dX7_addFilter_53 : decode cX7_addFilter 53 = .ok (.iload_n 3, 1) := by decide +kernel
theorem dX7_addFilter_54 : decode cX7_addFilter 54 = .ok (.invokevirtual 102, 3) := by decide +kernel
theorem dX7_addFilter_57 : decode cX7_addFilter 57 = .ok (.ireturn, 1) := by decide +kernel
theorem dX7_addBus_0 : decode cX7_addBus 0 = .ok (.aload_n 0, 1) := by decide +kernel
theorem dX7_addBus_1 : decode cX7_addBus 1 = .ok (.iload_n 1, 1) := by decide +kernel
theorem dX7_addBus_2 : decode cX7_addBus 2 = .ok (.iconst 0, 1) := by decide +kernel
theorem dX7_addBus_3 : decode cX7_addBus 3 = .ok (.sipush 32767, 3) := by decide +kernel
theorem dX7_addBus_6 : decode cX7_addBus 6 = .ok (.invokestatic 94, 3) := by decide +kernel
theorem dX7_addBus_9 : decode cX7_addBus 9 = .ok (.ifCond .ne 7, 3) := by decide +kernel
theorem dX7_addBus_12 : decode cX7_addBus 12 = .ok (.iconst 1, 1) := by decide +kernel
theorem dX7_addBus_13 : decode cX7_addBus 13 = .ok (.goto 4, 3) := by decide +kernel
theorem dX7_addBus_16 : decode cX7_addBus 16 = .ok (.iconst 0, 1) := by decide +kernel
theorem dX7_addBus_17 : decode cX7_addBus 17 = .ok (.invokevirtual 98, 3) := by decide +kernel
theorem dX7_addBus_20 : decode cX7_addBus 20 = .ok (.ifCond .eq 7, 3) := by decide +kernel
theorem dX7_addBus_23 : decode cX7_addBus 23 = .ok (.iconst 0, 1) := by decide +kernel
theorem dX7_addBus_24 : decode cX7_addBus 24 = .ok (.goto 11, 3) := by decide +kernel
theorem dX7_addBus_27 : decode cX7_addBus 27 = .ok (.aload_n 0, 1) := by decide +kernel
theorem dX7_addBus_28 : decode cX7_addBus 28 = .ok (.iconst 4, 1) := by decide +kernel
theorem dX7_addBus_29 : decode cX7_addBus 29 = .ok (.iload_n 1, 1) := by decide +kernel
theorem dX7_addBus_30 : decode cX7_addBus 30 = .ok (.iconst 0, 1) := by decide +kernel
theorem dX7_addBus_31 : decode cX7_addBus 31 = .ok (.iconst 0, 1) := by decide +kernel
theorem dX7_addBus_32 : decode cX7_addBus 32 = .ok (.invokevirtual 102, 3) := by decide +kernel
theorem dX7_addBus_35 : decode cX7_addBus 35 = .ok (.ireturn, 1) := by decide +kernel
theorem dX7_wire_0 : decode cX7_wire 0 = .ok (.iconst 0, 1) := by decide +kernel
theorem dX7_wire_1 : decode cX7_wire 1 = .ok (.istore_n 3, 1) := by decide +kernel
theorem dX7_wire_2 : decode cX7_wire 2 = .ok (.iload_n 3, 1) := by decide +kernel
theorem dX7_wire_3 : decode cX7_wire 3 = .ok (.aload_n 0, 1) := by decide +kernel
theorem dX7_wire_4 : decode cX7_wire 4 = .ok (.getfield 34, 3) := by decide +kernel
theorem dX7_wire_7 : decode cX7_wire 7 = .ok (.iload_n 2, 1) := by decide +kernel
theorem dX7_wire_8 : decode cX7_wire 8 = .ok (.iaload, 1) := by decide +kernel
theorem dX7_wire_9 : decode cX7_wire 9 = .ok (.if_icmp .ge 25, 3) := by decide +kernel
theorem dX7_wire_12 : decode cX7_wire 12 = .ok (.aload_n 0, 1) := by decide +kernel
theorem dX7_wire_13 : decode cX7_wire 13 = .ok (.getfield 28, 3) := by decide +kernel
theorem dX7_wire_16 : decode cX7_wire 16 = .ok (.iconst 4, 1) := by decide +kernel
theorem dX7_wire_17 : decode cX7_wire 17 = .ok (.iload_n 2, 1) := by decide +kernel
theorem dX7_wire_18 : decode cX7_wire 18 = .ok (.imul, 1) := by decide +kernel
theorem dX7_wire_19 : decode cX7_wire 19 = .ok (.iload_n 3, 1) := by decide +kernel
theorem dX7_wire_20 : decode cX7_wire 20 = .ok (.iadd, 1) := by decide +kernel
theorem dX7_wire_21 : decode cX7_wire 21 = .ok (.iaload, 1) := by decide +kernel
theorem dX7_wire_22 : decode cX7_wire 22 = .ok (.iload_n 1, 1) := by decide +kernel
theorem dX7_wire_23 : decode cX7_wire 23 = .ok (.if_icmp .ne 5, 3) := by decide +kernel
theorem dX7_wire_26 : decode cX7_wire 26 = .ok (.iload_n 3, 1) := by decide +kernel
theorem dX7_wire_27 : decode cX7_wire 27 = .ok (.ireturn, 1) := by decide +kernel
theorem dX7_wire_28 : decode cX7_wire 28 = .ok (.iinc 3 1, 3) := by decide +kernel
theorem dX7_wire_31 : decode cX7_wire 31 = .ok (.goto (-29), 3) := by decide +kernel
theorem dX7_wire_34 : decode cX7_wire 34 = .ok (.iconst (-1), 1) := by decide +kernel
theorem dX7_wire_35 : decode cX7_wire 35 = .ok (.ireturn, 1) := by decide +kernel
theorem dX7_leads_0 : decode cX7_leads 0 = .ok (.iconst 0, 1) := by decide +kernel
theorem dX7_leads_1 : decode cX7_leads 1 = .ok (.istore_n 3, 1) := by decide +kernel
theorem dX7_leads_2 : decode cX7_leads 2 = .ok (.iload_n 3, 1) := by decide +kernel
theorem dX7_leads_3 : decode cX7_leads 3 = .ok (.bipush 10, 2) := by decide +kernel
theorem dX7_leads_5 : decode cX7_leads 5 = .ok (.if_icmp .ge 35, 3) := by decide +kernel
theorem dX7_leads_8 : decode cX7_leads 8 = .ok (.aload_n 0, 1) := by decide +kernel
theorem dX7_leads_9 : decode cX7_leads 9 = .ok (.getfield 43, 3) := by decide +kernel
theorem dX7_leads_12 : decode cX7_leads 12 = .ok (.iload_n 3, 1) := by decide +kernel
theorem dX7_leads_13 : decode cX7_leads 13 = .ok (.iload_n 3, 1) := by decide +kernel
theorem dX7_leads_14 : decode cX7_leads 14 = .ok (.iload_n 1, 1) := by decide +kernel
theorem dX7_leads_15 : decode cX7_leads 15 = .ok (.if_icmp .ne 17, 3) := by decide +kernel
theorem dX7_leads_18 : decode cX7_leads 18 = .ok (.aload_n 0, 1) := by decide +kernel
theorem dX7_leads_19 : decode cX7_leads 19 = .ok (.getfield 16, 3) := by decide +kernel
theorem dX7_leads_22 : decode cX7_leads 22 = .ok (.iload_n 3, 1) := by decide +kernel
theorem dX7_leads_23 : decode cX7_leads 23 = .ok (.iaload, 1) := by decide +kernel
theorem dX7_leads_24 : decode cX7_leads 24 = .ok (.iconst 2, 1) := by decide +kernel
theorem dX7_leads_25 : decode cX7_leads 25 = .ok (.if_icmp .eq 7, 3) := by decide +kernel
theorem dX7_leads_28 : decode cX7_leads 28 = .ok (.iconst 1, 1) := by decide +kernel
theorem dX7_leads_29 : decode cX7_leads 29 = .ok (.goto 4, 3) := by decide +kernel
theorem dX7_leads_32 : decode cX7_leads 32 = .ok (.iconst 0, 1) := by decide +kernel
theorem dX7_leads_33 : decode cX7_leads 33 = .ok (.bastore, 1) := by decide +kernel
theorem dX7_leads_34 : decode cX7_leads 34 = .ok (.iinc 3 1, 3) := by decide +kernel
theorem dX7_leads_37 : decode cX7_leads 37 = .ok (.goto (-35), 3) := by decide +kernel
theorem dX7_leads_40 : decode cX7_leads 40 = .ok (.iconst 0, 1) := by decide +kernel
theorem dX7_leads_41 : decode cX7_leads 41 = .ok (.istore_n 3, 1) := by decide +kernel
theorem dX7_leads_42 : decode cX7_leads 42 = .ok (.iload_n 3, 1) := by decide +kernel
theorem dX7_leads_43 : decode cX7_leads 43 = .ok (.aload_n 0, 1) := by decide +kernel
theorem dX7_leads_44 : decode cX7_leads 44 = .ok (.getfield 51, 3) := by decide +kernel
theorem dX7_leads_47 : decode cX7_leads 47 = .ok (.if_icmp .ge 85, 3) := by decide +kernel
theorem dX7_leads_50 : decode cX7_leads 50 = .ok (.iconst 0, 1) := by decide +kernel
theorem dX7_leads_51 : decode cX7_leads 51 = .ok (.istore 4, 2) := by decide +kernel
theorem dX7_leads_53 : decode cX7_leads 53 = .ok (.iload 4, 2) := by decide +kernel
theorem dX7_leads_55 : decode cX7_leads 55 = .ok (.aload_n 0, 1) := by decide +kernel
theorem dX7_leads_56 : decode cX7_leads 56 = .ok (.getfield 51, 3) := by decide +kernel
theorem dX7_leads_59 : decode cX7_leads 59 = .ok (.if_icmp .ge 67, 3) := by decide +kernel
theorem dX7_leads_62 : decode cX7_leads 62 = .ok (.iconst 0, 1) := by decide +kernel
theorem dX7_leads_63 : decode cX7_leads 63 = .ok (.istore 5, 2) := by decide +kernel
theorem dX7_leads_65 : decode cX7_leads 65 = .ok (.iload 5, 2) := by decide +kernel
theorem dX7_leads_67 : decode cX7_leads 67 = .ok (.aload_n 0, 1) := by decide +kernel
theorem dX7_leads_68 : decode cX7_leads 68 = .ok (.getfield 51, 3) := by decide +kernel
theorem dX7_leads_71 : decode cX7_leads 71 = .ok (.if_icmp .ge 49, 3) := by decide +kernel
theorem dX7_leads_74 : decode cX7_leads 74 = .ok (.aload_n 0, 1) := by decide +kernel
theorem dX7_leads_75 : decode cX7_leads 75 = .ok (.getfield 43, 3) := by decide +kernel
theorem dX7_leads_78 : decode cX7_leads 78 = .ok (.iload 4, 2) := by decide +kernel
theorem dX7_leads_80 : decode cX7_leads 80 = .ok (.baload, 1) := by decide +kernel
theorem dX7_leads_81 : decode cX7_leads 81 = .ok (.ifCond .eq 33, 3) := by decide +kernel
theorem dX7_leads_84 : decode cX7_leads 84 = .ok (.aload_n 0, 1) := by decide +kernel
theorem dX7_leads_85 : decode cX7_leads 85 = .ok (.getfield 16, 3) := by decide +kernel
theorem dX7_leads_88 : decode cX7_leads 88 = .ok (.iload 5, 2) := by decide +kernel
theorem dX7_leads_90 : decode cX7_leads 90 = .ok (.iaload, 1) := by decide +kernel
theorem dX7_leads_91 : decode cX7_leads 91 = .ok (.iconst 2, 1) := by decide +kernel
theorem dX7_leads_92 : decode cX7_leads 92 = .ok (.if_icmp .eq 22, 3) := by decide +kernel
theorem dX7_leads_95 : decode cX7_leads 95 = .ok (.aload_n 0, 1) := by decide +kernel
theorem dX7_leads_96 : decode cX7_leads 96 = .ok (.iload 4, 2) := by decide +kernel
theorem dX7_leads_98 : decode cX7_leads 98 = .ok (.iload 5, 2) := by decide +kernel
theorem dX7_leads_100 : decode cX7_leads 100 = .ok (.invokevirtual 106, 3) := by decide +kernel
theorem dX7_leads_103 : decode cX7_leads 103 = .ok (.ifCond .lt 11, 3) := by decide +kernel
theorem dX7_leads_106 : decode cX7_leads 106 = .ok (.aload_n 0, 1) := by decide +kernel
theorem dX7_leads_107 : decode cX7_leads 107 = .ok (.getfield 43, 3) := by decide +kernel
theorem dX7_leads_110 : decode cX7_leads 110 = .ok (.iload 5, 2) := by decide +kernel
theorem dX7_leads_112 : decode cX7_leads 112 = .ok (.iconst 1, 1) := by decide +kernel
theorem dX7_leads_113 : decode cX7_leads 113 = .ok (.bastore, 1) := by decide +kernel
theorem dX7_leads_114 : decode cX7_leads 114 = .ok (.iinc 5 1, 3) := by decide +kernel
theorem dX7_leads_117 : decode cX7_leads 117 = .ok (.goto (-52), 3) := by decide +kernel
theorem dX7_leads_120 : decode cX7_leads 120 = .ok (.iinc 4 1, 3) := by decide +kernel
theorem dX7_leads_123 : decode cX7_leads 123 = .ok (.goto (-70), 3) := by decide +kernel
theorem dX7_leads_126 : decode cX7_leads 126 = .ok (.iinc 3 1, 3) := by decide +kernel
theorem dX7_leads_129 : decode cX7_leads 129 = .ok (.goto (-87), 3) := by decide +kernel
theorem dX7_leads_132 : decode cX7_leads 132 = .ok (.aload_n 0, 1) := by decide +kernel
theorem dX7_leads_133 : decode cX7_leads 133 = .ok (.getfield 43, 3) := by decide +kernel
theorem dX7_leads_136 : decode cX7_leads 136 = .ok (.iload_n 2, 1) := by decide +kernel
theorem dX7_leads_137 : decode cX7_leads 137 = .ok (.baload, 1) := by decide +kernel
theorem dX7_leads_138 : decode cX7_leads 138 = .ok (.ireturn, 1) := by decide +kernel
theorem dX7_connect_0 : decode cX7_connect 0 = .ok (.aload_n 0, 1) := by decide +kernel
theorem dX7_connect_1 : decode cX7_connect 1 = .ok (.aload_n 0, 1) := by decide +kernel
theorem dX7_connect_2 : decode cX7_connect 2 = .ok (.iload_n 1, 1) := by decide +kernel
theorem dX7_connect_3 : decode cX7_connect 3 = .ok (.invokevirtual 110, 3) := by decide +kernel
theorem dX7_connect_6 : decode cX7_connect 6 = .ok (.ifCond .eq 11, 3) := by decide +kernel
theorem dX7_connect_9 : decode cX7_connect 9 = .ok (.aload_n 0, 1) := by decide +kernel
theorem dX7_connect_10 : decode cX7_connect 10 = .ok (.iload_n 2, 1) := by decide +kernel
theorem dX7_connect_11 : decode cX7_connect 11 = .ok (.invokevirtual 110, 3) := by decide +kernel
theorem dX7_connect_14 : decode cX7_connect 14 = .ok (.ifCond .ne 7, 3) := by decide +kernel
theorem dX7_connect_17 : decode cX7_connect 17 = .ok (.iconst 1, 1) := by decide +kernel
theorem dX7_connect_18 : decode cX7_connect 18 = .ok (.goto 63, 3) := by decide +kernel
theorem dX7_connect_21 : decode cX7_connect 21 = .ok (.iload_n 3, 1) := by decide +kernel
theorem dX7_connect_22 : decode cX7_connect 22 = .ok (.ifCond .eq 14, 3) := by decide +kernel
theorem dX7_connect_25 : decode cX7_connect 25 = .ok (.iload_n 3, 1) := by decide +kernel
theorem dX7_connect_26 : decode cX7_connect 26 = .ok (.bipush (-100), 2) := by decide +kernel
theorem dX7_connect_28 : decode cX7_connect 28 = .ok (.bipush 100, 2) := by decide +kernel
theorem dX7_connect_30 : decode cX7_connect 30 = .ok (.invokestatic 94, 3) := by decide +kernel
theorem dX7_connect_33 : decode cX7_connect 33 = .ok (.ifCond .ne 7, 3) := by decide +kernel
theorem dX7_connect_36 : decode cX7_connect 36 = .ok (.iconst 2, 1) := by decide +kernel
theorem dX7_connect_37 : decode cX7_connect 37 = .ok (.goto 44, 3) := by decide +kernel
theorem dX7_connect_40 : decode cX7_connect 40 = .ok (.aload_n 0, 1) := by decide +kernel
theorem dX7_connect_41 : decode cX7_connect 41 = .ok (.iload_n 1, 1) := by decide +kernel
theorem dX7_connect_42 : decode cX7_connect 42 = .ok (.iload_n 2, 1) := by decide +kernel
theorem dX7_connect_43 : decode cX7_connect 43 = .ok (.invokevirtual 106, 3) := by decide +kernel
theorem dX7_connect_46 : decode cX7_connect 46 = .ok (.ifCond .ge 13, 3) := by decide +kernel
theorem dX7_connect_49 : decode cX7_connect 49 = .ok (.aload_n 0, 1) := by decide +kernel
theorem dX7_connect_50 : decode cX7_connect 50 = .ok (.getfield 34, 3) := by decide +kernel
theorem dX7_connect_53 : decode cX7_connect 53 = .ok (.iload_n 2, 1) := by decide +kernel
theorem dX7_connect_54 : decode cX7_connect 54 = .ok (.iaload, 1) := by decide +kernel
theorem dX7_connect_55 : decode cX7_connect 55 = .ok (.iconst 4, 1) := by decide +kernel
theorem dX7_connect_56 : decode cX7_connect 56 = .ok (.if_icmp .ne 7, 3) := by decide +kernel
theorem dX7_connect_59 : decode cX7_connect 59 = .ok (.iconst 3, 1) := by decide +kernel
theorem dX7_connect_60 : decode cX7_connect 60 = .ok (.goto 21, 3) := by decide +kernel
theorem dX7_connect_63 : decode cX7_connect 63 = .ok (.iload_n 2, 1) := by decide +kernel
theorem dX7_connect_64 : decode cX7_connect 64 = .ok (.ifCond .eq 12, 3) := by decide +kernel
theorem dX7_connect_67 : decode cX7_connect 67 = .ok (.aload_n 0, 1) := by decide +kernel
theorem dX7_connect_68 : decode cX7_connect 68 = .ok (.iload_n 2, 1) := by decide +kernel
theorem dX7_connect_69 : decode cX7_connect 69 = .ok (.iload_n 1, 1) := by decide +kernel
theorem dX7_connect_70 : decode cX7_connect 70 = .ok (.invokevirtual 114, 3) := by decide +kernel
theorem dX7_connect_73 : decode cX7_connect 73 = .ok (.ifCond .eq 7, 3) := by decide +kernel
theorem dX7_connect_76 : decode cX7_connect 76 = .ok (.iconst 4, 1) := by decide +kernel
theorem dX7_connect_77 : decode cX7_connect 77 = .ok (.goto 4, 3) := by decide +kernel
theorem dX7_connect_80 : decode cX7_connect 80 = .ok (.iconst 0, 1) := by decide +kernel
theorem dX7_connect_81 : decode cX7_connect 81 = .ok (.putfield 47, 3) := by decide +kernel
theorem dX7_connect_84 : decode cX7_connect 84 = .ok (.aload_n 0, 1) := by decide +kernel
theorem dX7_connect_85 : decode cX7_connect 85 = .ok (.getfield 47, 3) := by decide +kernel
theorem dX7_connect_88 : decode cX7_connect 88 = .ok (.ifCond .le 5, 3) := by decide +kernel
theorem dX7_connect_91 : decode cX7_connect 91 = .ok (.iconst 0, 1) := by decide +kernel
theorem dX7_connect_92 : decode cX7_connect 92 = .ok (.ireturn, 1) := by decide +kernel
theorem dX7_connect_93 : decode cX7_connect 93 = .ok (.aload_n 0, 1) := by decide +kernel
theorem dX7_connect_94 : decode cX7_connect 94 = .ok (.getfield 28, 3) := by decide +kernel
theorem dX7_connect_97 : decode cX7_connect 97 = .ok (.iconst 4, 1) := by decide +kernel
theorem dX7_connect_98 : decode cX7_connect 98 = .ok (.iload_n 2, 1) := by decide +kernel
theorem dX7_connect_99 : decode cX7_connect 99 = .ok (.imul, 1) := by decide +kernel
theorem dX7_connect_100 : decode cX7_connect 100 = .ok (.aload_n 0, 1) := by decide +kernel
theorem dX7_connect_101 : decode cX7_connect 101 = .ok (.getfield 34, 3) := by decide +kernel
theorem dX7_connect_104 : decode cX7_connect 104 = .ok (.iload_n 2, 1) := by decide +kernel
theorem dX7_connect_105 : decode cX7_connect 105 = .ok (.iaload, 1) := by decide +kernel
theorem dX7_connect_106 : decode cX7_connect 106 = .ok (.iadd, 1) := by decide +kernel
theorem dX7_connect_107 : decode cX7_connect 107 = .ok (.iload_n 1, 1) := by decide +kernel
theorem dX7_connect_108 : decode cX7_connect 108 = .ok (.iastore, 1) := by decide +kernel
theorem dX7_connect_109 : decode cX7_connect 109 = .ok (.aload_n 0, 1) := by decide +kernel
theorem dX7_connect_110 : decode cX7_connect 110 = .ok (.getfield 31, 3) := by decide +kernel
theorem dX7_connect_113 : decode cX7_connect 113 = .ok (.iconst 4, 1) := by decide +kernel
theorem dX7_connect_114 : decode cX7_connect 114 = .ok (.iload_n 2, 1) := by decide +kernel
theorem dX7_connect_115 : decode cX7_connect 115 = .ok (.imul, 1) := by decide +kernel
theorem dX7_connect_116 : decode cX7_connect 116 = .ok (.aload_n 0, 1) := by decide +kernel
theorem dX7_connect_117 : decode cX7_connect 117 = .ok (.getfield 34, 3) := by decide +kernel
theorem dX7_connect_120 : decode cX7_connect 120 = .ok (.iload_n 2, 1) := by decide +kernel
theorem dX7_connect_121 : decode cX7_connect 121 = .ok (.iaload, 1) := by decide +kernel
theorem dX7_connect_122 : decode cX7_connect 122 = .ok (.iadd, 1) := by decide +kernel
theorem dX7_connect_123 : decode cX7_connect 123 = .ok (.iload_n 3, 1) := by decide +kernel
theorem dX7_connect_124 : decode cX7_connect 124 = .ok (.iastore, 1) := by decide +kernel
theorem dX7_connect_125 : decode cX7_connect 125 = .ok (.aload_n 0, 1) := by decide +kernel
theorem dX7_connect_126 : decode cX7_connect 126 = .ok (.getfield 34, 3) := by decide +kernel
theorem dX7_connect_129 : decode cX7_connect 129 = .ok (.iload_n 2, 1) := by decide +kernel
theorem dX7_connect_130 : decode cX7_connect 130 = .ok (.dup2, 1) := by decide +kernel
theorem dX7_connect_131 : decode cX7_connect 131 = .ok (.iaload, 1) := by decide +kernel
theorem dX7_connect_132 : decode cX7_connect 132 = .ok (.iconst 1, 1) := by decide +kernel
theorem dX7_connect_133 : decode cX7_connect 133 = .ok (.iadd, 1) := by decide +kernel
theorem dX7_connect_134 : decode cX7_connect 134 = .ok (.iastore, 1) := by decide +kernel
theorem dX7_connect_135 : decode cX7_connect 135 = .ok (.aload_n 0, 1) := by decide +kernel
theorem dX7_connect_136 : decode cX7_connect 136 = .ok (.invokevirtual 91, 3) := by decide +kernel
theorem dX7_connect_139 : decode cX7_connect 139 = .ok (.aload_n 0, 1) := by decide +kernel
theorem dX7_connect_140 : decode cX7_connect 140 = .ok (.getfield 34, 3) := by decide +kernel
theorem dX7_connect_143 : decode cX7_connect 143 = .ok (.iload_n 2, 1) := by decide +kernel
theorem dX7_connect_144 : decode cX7_connect 144 = .ok (.iaload, 1) := by decide +kernel
theorem dX7_connect_145 : decode cX7_connect 145 = .ok (.ireturn, 1) := by decide +kernel
theorem dX7_disconnect_0 : decode cX7_disconnect 0 = .ok (.aload_n 0, 1) := by decide +kernel
theorem dX7_disconnect_1 : decode cX7_disconnect 1 = .ok (.aload_n 0, 1) := by decide +kernel
theorem dX7_disconnect_2 : decode cX7_disconnect 2 = .ok (.iload_n 1, 1) := by decide +kernel
theorem dX7_disconnect_3 : decode cX7_disconnect 3 = .ok (.invokevirtual 110, 3) := by decide +kernel
theorem dX7_disconnect_6 : decode cX7_disconnect 6 = .ok (.ifCond .eq 11, 3) := by decide +kernel
theorem dX7_disconnect_9 : decode cX7_disconnect 9 = .ok (.aload_n 0, 1) := by decide +kernel
theorem dX7_disconnect_10 : decode cX7_disconnect 10 = .ok (.iload_n 2, 1) := by decide +kernel
theorem dX7_disconnect_11 : decode cX7_disconnect 11 = .ok (.invokevirtual 110, 3) := by decide +kernel
theorem dX7_disconnect_14 : decode cX7_disconnect 14 = .ok (.ifCond .ne 7, 3) := by decide +kernel
theorem dX7_disconnect_17 : decode cX7_disconnect 17 = .ok (.iconst 1, 1) := by decide +kernel
theorem dX7_disconnect_18 : decode cX7_disconnect 18 = .ok (.goto 17, 3) := by decide +kernel
theorem dX7_disconnect_21 : decode cX7_disconnect 21 = .ok (.aload_n 0, 1) := by decide +kernel
theorem dX7_disconnect_22 : decode cX7_disconnect 22 = .ok (.iload_n 1, 1) := by decide +kernel
theorem dX7_disconnect_23 : decode cX7_disconnect 23 = .ok (.iload_n 2, 1) := by decide +kernel
theorem dX7_disconnect_24 : decode cX7_disconnect 24 = .ok (.invokevirtual 106, 3) := by decide +kernel
theorem dX7_disconnect_27 : decode cX7_disconnect 27 = .ok (.ifCond .ge 7, 3) := by decide +kernel
theorem dX7_disconnect_30 : decode cX7_disconnect 30 = .ok (.iconst 2, 1) := by decide +kernel
theorem dX7_disconnect_31 : decode cX7_disconnect 31 = .ok (.goto 4, 3) := by decide +kernel
theorem dX7_disconnect_34 : decode cX7_disconnect 34 = .ok (.iconst 0, 1) := by decide +kernel
theorem dX7_disconnect_35 : decode cX7_disconnect 35 = .ok (.putfield 47, 3) := by decide +kernel
theorem dX7_disconnect_38 : decode cX7_disconnect 38 = .ok (.aload_n 0, 1) := by decide +kernel
theorem dX7_disconnect_39 : decode cX7_disconnect 39 = .ok (.getfield 47, 3) := by decide +kernel
theorem dX7_disconnect_42 : decode cX7_disconnect 42 = .ok (.ifCond .le 5, 3) := by decide +kernel
theorem dX7_disconnect_45 : decode cX7_disconnect 45 = .ok (.iconst 0, 1) := by decide +kernel
theorem dX7_disconnect_46 : decode cX7_disconnect 46 = .ok (.ireturn, 1) := by decide +kernel
theorem dX7_disconnect_47 : decode cX7_disconnect 47 = .ok (.aload_n 0, 1) := by decide +kernel
theorem dX7_disconnect_48 : decode cX7_disconnect 48 = .ok (.iload_n 1, 1) := by decide +kernel
theorem dX7_disconnect_49 : decode cX7_disconnect 49 = .ok (.iload_n 2, 1) := by decide +kernel
theorem dX7_disconnect_50 : decode cX7_disconnect 50 = .ok (.invokevirtual 106, 3) := by decide +kernel
theorem dX7_disconnect_53 : decode cX7_disconnect 53 = .ok (.istore_n 3, 1) := by decide +kernel
theorem dX7_disconnect_54 : decode cX7_disconnect 54 = .ok (.aload_n 0, 1) := by decide +kernel
theorem dX7_disconnect_55 : decode cX7_disconnect 55 = .ok (.getfield 31, 3) := by decide +kernel
theorem dX7_disconnect_58 : decode cX7_disconnect 58 = .ok (.iconst 4, 1) := by decide +kernel
theorem dX7_disconnect_59 : decode cX7_disconnect 59 = .ok (.iload_n 2, 1) := by decide +kernel
theorem dX7_disconnect_60 : decode cX7_disconnect 60 = .ok (.imul, 1) := by decide +kernel
theorem dX7_disconnect_61 : decode cX7_disconnect 61 = .ok (.iload_n 3, 1) := by decide +kernel
theorem dX7_disconnect_62 : decode cX7_disconnect 62 = .ok (.iadd, 1) := by decide +kernel
theorem dX7_disconnect_63 : decode cX7_disconnect 63 = .ok (.iaload, 1) := by decide +kernel
theorem dX7_disconnect_64 : decode cX7_disconnect 64 = .ok (.istore 4, 2) := by decide +kernel
theorem dX7_disconnect_66 : decode cX7_disconnect 66 = .ok (.aload_n 0, 1) := by decide +kernel
theorem dX7_disconnect_67 : decode cX7_disconnect 67 = .ok (.getfield 34, 3) := by decide +kernel
theorem dX7_disconnect_70 : decode cX7_disconnect 70 = .ok (.iload_n 2, 1) := by decide +kernel
theorem dX7_disconnect_71 : decode cX7_disconnect 71 = .ok (.dup2, 1) := by decide +kernel
theorem dX7_disconnect_72 : decode cX7_disconnect 72 = .ok (.iaload, 1) := by decide +kernel
theorem dX7_disconnect_73 : decode cX7_disconnect 73 = .ok (.iconst 1, 1) := by decide +kernel
theorem dX7_disconnect_74 : decode cX7_disconnect 74 = .ok (.isub, 1) := by decide +kernel
theorem dX7_disconnect_75 : decode cX7_disconnect 75 = .ok (.iastore, 1) := by decide +kernel
theorem dX7_disconnect_76 : decode cX7_disconnect 76 = .ok (.iconst 4, 1) := by decide +kernel
theorem dX7_disconnect_77 : decode cX7_disconnect 77 = .ok (.iload_n 2, 1) := by decide +kernel
theorem dX7_disconnect_78 : decode cX7_disconnect 78 = .ok (.imul, 1) := by decide +kernel
theorem dX7_disconnect_79 : decode cX7_disconnect 79 = .ok (.iload_n 3, 1) := by decide +kernel
theorem dX7_disconnect_80 : decode cX7_disconnect 80 = .ok (.iadd, 1) := by decide +kernel
theorem dX7_disconnect_81 : decode cX7_disconnect 81 = .ok (.istore 5, 2) := by decide +kernel
theorem dX7_disconnect_83 : decode cX7_disconnect 83 = .ok (.iload 5, 2) := by decide +kernel
theorem dX7_disconnect_85 : decode cX7_disconnect 85 = .ok (.iconst 4, 1) := by decide +kernel
theorem dX7_disconnect_86 : decode cX7_disconnect 86 = .ok (.iload_n 2, 1) := by decide +kernel
theorem dX7_disconnect_87 : decode cX7_disconnect 87 = .ok (.imul, 1) := by decide +kernel
theorem dX7_disconnect_88 : decode cX7_disconnect 88 = .ok (.aload_n 0, 1) := by decide +kernel
theorem dX7_disconnect_89 : decode cX7_disconnect 89 = .ok (.getfield 34, 3) := by decide +kernel
theorem dX7_disconnect_92 : decode cX7_disconnect 92 = .ok (.iload_n 2, 1) := by decide +kernel
theorem dX7_disconnect_93 : decode cX7_disconnect 93 = .ok (.iaload, 1) := by decide +kernel
theorem dX7_disconnect_94 : decode cX7_disconnect 94 = .ok (.iadd, 1) := by decide +kernel
theorem dX7_disconnect_95 : decode cX7_disconnect 95 = .ok (.if_icmp .ge 41, 3) := by decide +kernel
theorem dX7_disconnect_98 : decode cX7_disconnect 98 = .ok (.aload_n 0, 1) := by decide +kernel
theorem dX7_disconnect_99 : decode cX7_disconnect 99 = .ok (.getfield 28, 3) := by decide +kernel
theorem dX7_disconnect_102 : decode cX7_disconnect 102 = .ok (.iload 5, 2) := by decide +kernel
theorem dX7_disconnect_104 : decode cX7_disconnect 104 = .ok (.aload_n 0, 1) := by decide +kernel
theorem dX7_disconnect_105 : decode cX7_disconnect 105 = .ok (.getfield 28, 3) := by decide +kernel
theorem dX7_disconnect_108 : decode cX7_disconnect 108 = .ok (.iload 5, 2) := by decide +kernel
theorem dX7_disconnect_110 : decode cX7_disconnect 110 = .ok (.iconst 1, 1) := by decide +kernel
theorem dX7_disconnect_111 : decode cX7_disconnect 111 = .ok (.iadd, 1) := by decide +kernel
theorem dX7_disconnect_112 : decode cX7_disconnect 112 = .ok (.iaload, 1) := by decide +kernel
theorem dX7_disconnect_113 : decode cX7_disconnect 113 = .ok (.iastore, 1) := by decide +kernel
theorem dX7_disconnect_114 : decode cX7_disconnect 114 = .ok (.aload_n 0, 1) := by decide +kernel
theorem dX7_disconnect_115 : decode cX7_disconnect 115 = .ok (.getfield 31, 3) := by decide +kernel
theorem dX7_disconnect_118 : decode cX7_disconnect 118 = .ok (.iload 5, 2) := by decide +kernel
theorem dX7_disconnect_120 : decode cX7_disconnect 120 = .ok (.aload_n 0, 1) := by decide +kernel
theorem dX7_disconnect_121 : decode cX7_disconnect 121 = .ok (.getfield 31, 3) := by decide +kernel
theorem dX7_disconnect_124 : decode cX7_disconnect 124 = .ok (.iload 5, 2) := by decide +kernel
theorem dX7_disconnect_126 : decode cX7_disconnect 126 = .ok (.iconst 1, 1) := by decide +kernel
theorem dX7_disconnect_127 : decode cX7_disconnect 127 = .ok (.iadd, 1) := by decide +kernel
theorem dX7_disconnect_128 : decode cX7_disconnect 128 = .ok (.iaload, 1) := by decide +kernel
theorem dX7_disconnect_129 : decode cX7_disconnect 129 = .ok (.iastore, 1) := by decide +kernel
theorem dX7_disconnect_130 : decode cX7_disconnect 130 = .ok (.iinc 5 1, 3) := by decide +kernel
theorem dX7_disconnect_133 : decode cX7_disconnect 133 = .ok (.goto (-50), 3) := by decide +kernel
theorem dX7_disconnect_136 : decode cX7_disconnect 136 = .ok (.aload_n 0, 1) := by decide +kernel
theorem dX7_disconnect_137 : decode cX7_disconnect 137 = .ok (.invokevirtual 91, 3) := by decide +kernel
theorem dX7_disconnect_140 : decode cX7_disconnect 140 = .ok (.iload 4, 2) := by decide +kernel
theorem dX7_disconnect_142 : decode cX7_disconnect 142 = .ok (.ireturn, 1) := by decide +kernel
theorem dX7_canCome_0 : decode cX7_canCome 0 = .ok (.aload_n 0, 1) := by decide +kernel
theorem dX7_canCome_1 : decode cX7_canCome 1 = .ok (.getfield 43, 3) := by decide +kernel
theorem dX7_canCome_4 : decode cX7_canCome 4 = .ok (.iload_n 1, 1) := by decide +kernel
theorem dX7_canCome_5 : decode cX7_canCome 5 = .ok (.baload, 1) := by decide +kernel
theorem dX7_canCome_6 : decode cX7_canCome 6 = .ok (.ifCond .eq 5, 3) := by decide +kernel
theorem dX7_canCome_9 : decode cX7_canCome 9 = .ok (.iconst 0, 1) := by decide +kernel
theorem dX7_canCome_10 : decode cX7_canCome 10 = .ok (.ireturn, 1) := by decide +kernel
theorem dX7_canCome_11 : decode cX7_canCome 11 = .ok (.iconst 0, 1) := by decide +kernel
theorem dX7_canCome_12 : decode cX7_canCome 12 = .ok (.istore_n 2, 1) := by decide +kernel
theorem dX7_canCome_13 : decode cX7_canCome 13 = .ok (.iload_n 2, 1) := by decide +kernel
theorem dX7_canCome_14 : decode cX7_canCome 14 = .ok (.aload_n 0, 1) := by decide +kernel
theorem dX7_canCome_15 : decode cX7_canCome 15 = .ok (.getfield 34, 3) := by decide +kernel
theorem dX7_canCome_18 : decode cX7_canCome 18 = .ok (.iload_n 1, 1) := by decide +kernel
theorem dX7_canCome_19 : decode cX7_canCome 19 = .ok (.iaload, 1) := by decide +kernel
theorem dX7_canCome_20 : decode cX7_canCome 20 = .ok (.if_icmp .ge 39, 3) := by decide +kernel
theorem dX7_canCome_23 : decode cX7_canCome 23 = .ok (.aload_n 0, 1) := by decide +kernel
theorem dX7_canCome_24 : decode cX7_canCome 24 = .ok (.getfield 16, 3) := by decide +kernel
theorem dX7_canCome_27 : decode cX7_canCome 27 = .ok (.iload_n 1, 1) := by decide +kernel
theorem dX7_canCome_28 : decode cX7_canCome 28 = .ok (.iaload, 1) := by decide +kernel
theorem dX7_canCome_29 : decode cX7_canCome 29 = .ok (.iconst 2, 1) := by decide +kernel
theorem dX7_canCome_30 : decode cX7_canCome 30 = .ok (.if_icmp .eq 29, 3) := by decide +kernel
theorem dX7_canCome_33 : decode cX7_canCome 33 = .ok (.aload_n 0, 1) := by decide +kernel
theorem dX7_canCome_34 : decode cX7_canCome 34 = .ok (.getfield 43, 3) := by decide +kernel
theorem dX7_canCome_37 : decode cX7_canCome 37 = .ok (.aload_n 0, 1) := by decide +kernel
theorem dX7_canCome_38 : decode cX7_canCome 38 = .ok (.getfield 28, 3) := by decide +kernel
theorem dX7_canCome_41 : decode cX7_canCome 41 = .ok (.iconst 4, 1) := by decide +kernel
theorem dX7_canCome_42 : decode cX7_canCome 42 = .ok (.iload_n 1, 1) := by decide +kernel
theorem dX7_canCome_43 : decode cX7_canCome 43 = .ok (.imul, 1) := by decide +kernel
theorem dX7_canCome_44 : decode cX7_canCome 44 = .ok (.iload_n 2, 1) := by decide +kernel
theorem dX7_canCome_45 : decode cX7_canCome 45 = .ok (.iadd, 1) := by decide +kernel
theorem dX7_canCome_46 : decode cX7_canCome 46 = .ok (.iaload, 1) := by decide +kernel
theorem dX7_canCome_47 : decode cX7_canCome 47 = .ok (.baload, 1) := by decide +kernel
theorem dX7_canCome_48 : decode cX7_canCome 48 = .ok (.ifCond .ne 5, 3) := by decide +kernel
theorem dX7_canCome_51 : decode cX7_canCome 51 = .ok (.iconst 0, 1) := by decide +kernel
theorem dX7_canCome_52 : decode cX7_canCome 52 = .ok (.ireturn, 1) := by decide +kernel
theorem dX7_canCome_53 : decode cX7_canCome 53 = .ok (.iinc 2 1, 3) := by decide +kernel
theorem dX7_canCome_56 : decode cX7_canCome 56 = .ok (.goto (-43), 3) := by decide +kernel
theorem dX7_canCome_59 : decode cX7_canCome 59 = .ok (.iconst 1, 1) := by decide +kernel
theorem dX7_canCome_60 : decode cX7_canCome 60 = .ok (.ireturn, 1) := by decide +kernel
theorem dX7_lays_0 : decode cX7_lays 0 = .ok (.iconst 0, 1) := by decide +kernel
theorem dX7_lays_1 : decode cX7_lays 1 = .ok (.istore_n 1, 1) := by decide +kernel
theorem dX7_lays_2 : decode cX7_lays 2 = .ok (.iload_n 1, 1) := by decide +kernel
theorem dX7_lays_3 : decode cX7_lays 3 = .ok (.bipush 10, 2) := by decide +kernel
theorem dX7_lays_5 : decode cX7_lays 5 = .ok (.if_icmp .ge 16, 3) := by decide +kernel
theorem dX7_lays_8 : decode cX7_lays 8 = .ok (.aload_n 0, 1) := by decide +kernel
theorem dX7_lays_9 : decode cX7_lays 9 = .ok (.getfield 43, 3) := by decide +kernel
theorem dX7_lays_12 : decode cX7_lays 12 = .ok (.iload_n 1, 1) := by decide +kernel
theorem dX7_lays_13 : decode cX7_lays 13 = .ok (.iconst 0, 1) := by decide +kernel
theorem dX7_lays_14 : decode cX7_lays 14 = .ok (.bastore, 1) := by decide +kernel
theorem dX7_lays_15 : decode cX7_lays 15 = .ok (.iinc 1 1, 3) := by decide +kernel
theorem dX7_lays_18 : decode cX7_lays 18 = .ok (.goto (-16), 3) := by decide +kernel
theorem dX7_lays_21 : decode cX7_lays 21 = .ok (.iconst 0, 1) := by decide +kernel
theorem dX7_lays_22 : decode cX7_lays 22 = .ok (.istore_n 1, 1) := by decide +kernel
theorem dX7_lays_23 : decode cX7_lays 23 = .ok (.iload_n 1, 1) := by decide +kernel
theorem dX7_lays_24 : decode cX7_lays 24 = .ok (.aload_n 0, 1) := by decide +kernel
theorem dX7_lays_25 : decode cX7_lays 25 = .ok (.getfield 51, 3) := by decide +kernel
theorem dX7_lays_28 : decode cX7_lays 28 = .ok (.if_icmp .ge 39, 3) := by decide +kernel
theorem dX7_lays_31 : decode cX7_lays 31 = .ok (.iconst 0, 1) := by decide +kernel
theorem dX7_lays_32 : decode cX7_lays 32 = .ok (.istore_n 2, 1) := by decide +kernel
theorem dX7_lays_33 : decode cX7_lays 33 = .ok (.aload_n 0, 1) := by decide +kernel
theorem dX7_lays_34 : decode cX7_lays 34 = .ok (.iload_n 2, 1) := by decide +kernel
theorem dX7_lays_35 : decode cX7_lays 35 = .ok (.invokevirtual 118, 3) := by decide +kernel
theorem dX7_lays_38 : decode cX7_lays 38 = .ok (.ifCond .ne 9, 3) := by decide +kernel
theorem dX7_lays_41 : decode cX7_lays 41 = .ok (.iinc 2 1, 3) := by decide +kernel
theorem dX7_lays_44 : decode cX7_lays 44 = .ok (.goto (-11), 3) := by decide +kernel
theorem dX7_lays_47 : decode cX7_lays 47 = .ok (.aload_n 0, 1) := by decide +kernel
theorem dX7_lays_48 : decode cX7_lays 48 = .ok (.getfield 43, 3) := by decide +kernel
theorem dX7_lays_51 : decode cX7_lays 51 = .ok (.iload_n 2, 1) := by decide +kernel
theorem dX7_lays_52 : decode cX7_lays 52 = .ok (.iconst 1, 1) := by decide +kernel
theorem dX7_lays_53 : decode cX7_lays 53 = .ok (.bastore, 1) := by decide +kernel
theorem dX7_lays_54 : decode cX7_lays 54 = .ok (.aload_n 0, 1) := by decide +kernel
theorem dX7_lays_55 : decode cX7_lays 55 = .ok (.getfield 37, 3) := by decide +kernel
theorem dX7_lays_58 : decode cX7_lays 58 = .ok (.iload_n 1, 1) := by decide +kernel
theorem dX7_lays_59 : decode cX7_lays 59 = .ok (.iload_n 2, 1) := by decide +kernel
theorem dX7_lays_60 : decode cX7_lays 60 = .ok (.iastore, 1) := by decide +kernel
theorem dX7_lays_61 : decode cX7_lays 61 = .ok (.iinc 1 1, 3) := by decide +kernel
theorem dX7_lays_64 : decode cX7_lays 64 = .ok (.goto (-41), 3) := by decide +kernel
theorem dX7_lays_67 : decode cX7_lays 67 = .ok (.return_, 1) := by decide +kernel
theorem dX7_setGain_0 : decode cX7_setGain 0 = .ok (.aload_n 0, 1) := by decide +kernel
theorem dX7_setGain_1 : decode cX7_setGain 1 = .ok (.aload_n 0, 1) := by decide +kernel
theorem dX7_setGain_2 : decode cX7_setGain 2 = .ok (.iload_n 1, 1) := by decide +kernel
theorem dX7_setGain_3 : decode cX7_setGain 3 = .ok (.invokevirtual 110, 3) := by decide +kernel
theorem dX7_setGain_6 : decode cX7_setGain 6 = .ok (.ifCond .ne 7, 3) := by decide +kernel
theorem dX7_setGain_9 : decode cX7_setGain 9 = .ok (.iconst 1, 1) := by decide +kernel
theorem dX7_setGain_10 : decode cX7_setGain 10 = .ok (.goto 35, 3) := by decide +kernel
theorem dX7_setGain_13 : decode cX7_setGain 13 = .ok (.aload_n 0, 1) := by decide +kernel
theorem dX7_setGain_14 : decode cX7_setGain 14 = .ok (.getfield 16, 3) := by decide +kernel
theorem dX7_setGain_17 : decode cX7_setGain 17 = .ok (.iload_n 1, 1) := by decide +kernel
theorem dX7_setGain_18 : decode cX7_setGain 18 = .ok (.iaload, 1) := by decide +kernel
theorem dX7_setGain_19 : decode cX7_setGain 19 = .ok (.iconst 1, 1) := by decide +kernel
theorem dX7_setGain_20 : decode cX7_setGain 20 = .ok (.if_icmp .eq 7, 3) := by decide +kernel
theorem dX7_setGain_23 : decode cX7_setGain 23 = .ok (.iconst 2, 1) := by decide +kernel
theorem dX7_setGain_24 : decode cX7_setGain 24 = .ok (.goto 21, 3) := by decide +kernel
theorem dX7_setGain_27 : decode cX7_setGain 27 = .ok (.iload_n 2, 1) := by decide +kernel
theorem dX7_setGain_28 : decode cX7_setGain 28 = .ok (.sipush (-200), 3) := by decide +kernel
theorem dX7_setGain_31 : decode cX7_setGain 31 = .ok (.sipush 200, 3) := by decide +kernel
theorem dX7_setGain_34 : decode cX7_setGain 34 = .ok (.invokestatic 94, 3) := by decide +kernel
theorem dX7_setGain_37 : decode cX7_setGain 37 = .ok (.ifCond .ne 7, 3) := by decide +kernel
theorem dX7_setGain_40 : decode cX7_setGain 40 = .ok (.iconst 3, 1) := by decide +kernel
theorem dX7_setGain_41 : decode cX7_setGain 41 = .ok (.goto 4, 3) := by decide +kernel
theorem dX7_setGain_44 : decode cX7_setGain 44 = .ok (.iconst 0, 1) := by decide +kernel
theorem dX7_setGain_45 : decode cX7_setGain 45 = .ok (.putfield 47, 3) := by decide +kernel
theorem dX7_setGain_48 : decode cX7_setGain 48 = .ok (.aload_n 0, 1) := by decide +kernel
theorem dX7_setGain_49 : decode cX7_setGain 49 = .ok (.getfield 47, 3) := by decide +kernel
theorem dX7_setGain_52 : decode cX7_setGain 52 = .ok (.ifCond .le 5, 3) := by decide +kernel
theorem dX7_setGain_55 : decode cX7_setGain 55 = .ok (.iconst 0, 1) := by decide +kernel
theorem dX7_setGain_56 : decode cX7_setGain 56 = .ok (.ireturn, 1) := by decide +kernel
theorem dX7_setGain_57 : decode cX7_setGain 57 = .ok (.aload_n 0, 1) := by decide +kernel
theorem dX7_setGain_58 : decode cX7_setGain 58 = .ok (.getfield 19, 3) := by decide +kernel
theorem dX7_setGain_61 : decode cX7_setGain 61 = .ok (.iload_n 1, 1) := by decide +kernel
theorem dX7_setGain_62 : decode cX7_setGain 62 = .ok (.iaload, 1) := by decide +kernel
theorem dX7_setGain_63 : decode cX7_setGain 63 = .ok (.istore_n 3, 1) := by decide +kernel
theorem dX7_setGain_64 : decode cX7_setGain 64 = .ok (.aload_n 0, 1) := by decide +kernel
theorem dX7_setGain_65 : decode cX7_setGain 65 = .ok (.getfield 19, 3) := by decide +kernel
theorem dX7_setGain_68 : decode cX7_setGain 68 = .ok (.iload_n 1, 1) := by decide +kernel
theorem dX7_setGain_69 : decode cX7_setGain 69 = .ok (.iload_n 2, 1) := by decide +kernel
theorem dX7_setGain_70 : decode cX7_setGain 70 = .ok (.iastore, 1) := by decide +kernel
theorem dX7_setGain_71 : decode cX7_setGain 71 = .ok (.iload_n 3, 1) := by decide +kernel
theorem dX7_setGain_72 : decode cX7_setGain 72 = .ok (.ireturn, 1) := by decide +kernel
theorem dX7_setOutput_0 : decode cX7_setOutput 0 = .ok (.aload_n 0, 1) := by decide +kernel
theorem dX7_setOutput_1 : decode cX7_setOutput 1 = .ok (.aload_n 0, 1) := by decide +kernel
theorem dX7_setOutput_2 : decode cX7_setOutput 2 = .ok (.iload_n 1, 1) := by decide +kernel
theorem dX7_setOutput_3 : decode cX7_setOutput 3 = .ok (.invokevirtual 110, 3) := by decide +kernel
theorem dX7_setOutput_6 : decode cX7_setOutput 6 = .ok (.invokevirtual 121, 3) := by decide +kernel
theorem dX7_setOutput_9 : decode cX7_setOutput 9 = .ok (.ifCond .le 5, 3) := by decide +kernel
theorem dX7_setOutput_12 : decode cX7_setOutput 12 = .ok (.iconst 0, 1) := by decide +kernel
theorem dX7_setOutput_13 : decode cX7_setOutput 13 = .ok (.ireturn, 1) := by decide +kernel
theorem dX7_setOutput_14 : decode cX7_setOutput 14 = .ok (.aload_n 0, 1) := by decide +kernel
theorem dX7_setOutput_15 : decode cX7_setOutput 15 = .ok (.getfield 54, 3) := by decide +kernel
theorem dX7_setOutput_18 : decode cX7_setOutput 18 = .ok (.istore_n 2, 1) := by decide +kernel
theorem dX7_setOutput_19 : decode cX7_setOutput 19 = .ok (.aload_n 0, 1) := by decide +kernel
theorem dX7_setOutput_20 : decode cX7_setOutput 20 = .ok (.iload_n 1, 1) := by decide +kernel
theorem dX7_setOutput_21 : decode cX7_setOutput 21 = .ok (.putfield 54, 3) := by decide +kernel
theorem dX7_setOutput_24 : decode cX7_setOutput 24 = .ok (.iload_n 2, 1) := by decide +kernel
theorem dX7_setOutput_25 : decode cX7_setOutput 25 = .ok (.ireturn, 1) := by decide +kernel
theorem dX7_nodes_0 : decode cX7_nodes 0 = .ok (.aload_n 0, 1) := by decide +kernel
theorem dX7_nodes_1 : decode cX7_nodes 1 = .ok (.aload_n 0, 1) := by decide +kernel
theorem dX7_nodes_2 : decode cX7_nodes 2 = .ok (.getfield 51, 3) := by decide +kernel
theorem dX7_nodes_5 : decode cX7_nodes 5 = .ok (.invokevirtual 125, 3) := by decide +kernel
theorem dX7_nodes_8 : decode cX7_nodes 8 = .ok (.ireturn, 1) := by decide +kernel
theorem dX7_kindOf_0 : decode cX7_kindOf 0 = .ok (.aload_n 0, 1) := by decide +kernel
theorem dX7_kindOf_1 : decode cX7_kindOf 1 = .ok (.aload_n 0, 1) := by decide +kernel
theorem dX7_kindOf_2 : decode cX7_kindOf 2 = .ok (.iload_n 1, 1) := by decide +kernel
theorem dX7_kindOf_3 : decode cX7_kindOf 3 = .ok (.invokevirtual 110, 3) := by decide +kernel
theorem dX7_kindOf_6 : decode cX7_kindOf 6 = .ok (.invokevirtual 121, 3) := by decide +kernel
theorem dX7_kindOf_9 : decode cX7_kindOf 9 = .ok (.ifCond .le 6, 3) := by decide +kernel
theorem dX7_kindOf_12 : decode cX7_kindOf 12 = .ok (.bipush 97, 2) := by decide +kernel
theorem dX7_kindOf_14 : decode cX7_kindOf 14 = .ok (.ireturn, 1) := by decide +kernel
theorem dX7_kindOf_15 : decode cX7_kindOf 15 = .ok (.aload_n 0, 1) := by decide +kernel
theorem dX7_kindOf_16 : decode cX7_kindOf 16 = .ok (.getfield 16, 3) := by decide +kernel
theorem dX7_kindOf_19 : decode cX7_kindOf 19 = .ok (.iload_n 1, 1) := by decide +kernel
theorem dX7_kindOf_20 : decode cX7_kindOf 20 = .ok (.iaload, 1) := by decide +kernel
theorem dX7_kindOf_21 : decode cX7_kindOf 21 = .ok (.istore_n 2, 1) := by decide +kernel
theorem dX7_kindOf_22 : decode cX7_kindOf 22 = .ok (.iload_n 2, 1) := by decide +kernel
theorem dX7_kindOf_23 : decode cX7_kindOf 23 = .ok (.ifCond .ne 8, 3) := by decide +kernel
theorem dX7_kindOf_26 : decode cX7_kindOf 26 = .ok (.bipush 118, 2) := by decide +kernel
theorem dX7_kindOf_28 : decode cX7_kindOf 28 = .ok (.goto 35, 3) := by decide +kernel
theorem dX7_kindOf_31 : decode cX7_kindOf 31 = .ok (.iload_n 2, 1) := by decide +kernel
theorem dX7_kindOf_32 : decode cX7_kindOf 32 = .ok (.iconst 1, 1) := by decide +kernel
theorem dX7_kindOf_33 : decode cX7_kindOf 33 = .ok (.if_icmp .ne 8, 3) := by decide +kernel
theorem dX7_kindOf_36 : decode cX7_kindOf 36 = .ok (.bipush 103, 2) := by decide +kernel
theorem dX7_kindOf_38 : decode cX7_kindOf 38 = .ok (.goto 25, 3) := by decide +kernel
theorem dX7_kindOf_41 : decode cX7_kindOf 41 = .ok (.iload_n 2, 1) := by decide +kernel
theorem dX7_kindOf_42 : decode cX7_kindOf 42 = .ok (.iconst 2, 1) := by decide +kernel
theorem dX7_kindOf_43 : decode cX7_kindOf 43 = .ok (.if_icmp .ne 8, 3) := by decide +kernel
theorem dX7_kindOf_46 : decode cX7_kindOf 46 = .ok (.bipush 100, 2) := by decide +kernel
theorem dX7_kindOf_48 : decode cX7_kindOf 48 = .ok (.goto 15, 3) := by decide +kernel
theorem dX7_kindOf_51 : decode cX7_kindOf 51 = .ok (.iload_n 2, 1) := by decide +kernel
theorem dX7_kindOf_52 : decode cX7_kindOf 52 = .ok (.iconst 3, 1) := by decide +kernel
theorem dX7_kindOf_53 : decode cX7_kindOf 53 = .ok (.if_icmp .ne 8, 3) := by decide +kernel
theorem dX7_kindOf_56 : decode cX7_kindOf 56 = .ok (.bipush 102, 2) := by decide +kernel
theorem dX7_kindOf_58 : decode cX7_kindOf 58 = .ok (.goto 5, 3) := by decide +kernel
theorem dX7_kindOf_61 : decode cX7_kindOf 61 = .ok (.bipush 98, 2) := by decide +kernel
theorem dX7_kindOf_63 : decode cX7_kindOf 63 = .ok (.ireturn, 1) := by decide +kernel
theorem dX7_wires_0 : decode cX7_wires 0 = .ok (.aload_n 0, 1) := by decide +kernel
theorem dX7_wires_1 : decode cX7_wires 1 = .ok (.aload_n 0, 1) := by decide +kernel
theorem dX7_wires_2 : decode cX7_wires 2 = .ok (.iload_n 1, 1) := by decide +kernel
theorem dX7_wires_3 : decode cX7_wires 3 = .ok (.invokevirtual 110, 3) := by decide +kernel
theorem dX7_wires_6 : decode cX7_wires 6 = .ok (.invokevirtual 121, 3) := by decide +kernel
theorem dX7_wires_9 : decode cX7_wires 9 = .ok (.ifCond .le 7, 3) := by decide +kernel
theorem dX7_wires_12 : decode cX7_wires 12 = .ok (.iconst 0, 1) := by decide +kernel
theorem dX7_wires_13 : decode cX7_wires 13 = .ok (.goto 9, 3) := by decide +kernel
theorem dX7_wires_16 : decode cX7_wires 16 = .ok (.aload_n 0, 1) := by decide +kernel
theorem dX7_wires_17 : decode cX7_wires 17 = .ok (.getfield 34, 3) := by decide +kernel
theorem dX7_wires_20 : decode cX7_wires 20 = .ok (.iload_n 1, 1) := by decide +kernel
theorem dX7_wires_21 : decode cX7_wires 21 = .ok (.iaload, 1) := by decide +kernel
theorem dX7_wires_22 : decode cX7_wires 22 = .ok (.ireturn, 1) := by decide +kernel
theorem dX7_hasNoWire_0 : decode cX7_hasNoWire 0 = .ok (.aload_n 0, 1) := by decide +kernel
theorem dX7_hasNoWire_1 : decode cX7_hasNoWire 1 = .ok (.aload_n 0, 1) := by decide +kernel
theorem dX7_hasNoWire_2 : decode cX7_hasNoWire 2 = .ok (.iload_n 1, 1) := by decide +kernel
theorem dX7_hasNoWire_3 : decode cX7_hasNoWire 3 = .ok (.invokevirtual 110, 3) := by decide +kernel
theorem dX7_hasNoWire_6 : decode cX7_hasNoWire 6 = .ok (.ifCond .ne 7, 3) := by decide +kernel
theorem dX7_hasNoWire_9 : decode cX7_hasNoWire 9 = .ok (.iconst 1, 1) := by decide +kernel
theorem dX7_hasNoWire_10 : decode cX7_hasNoWire 10 = .ok (.goto 24, 3) := by decide +kernel
theorem dX7_hasNoWire_13 : decode cX7_hasNoWire 13 = .ok (.iload_n 2, 1) := by decide +kernel
theorem dX7_hasNoWire_14 : decode cX7_hasNoWire 14 = .ok (.iconst 0, 1) := by decide +kernel
theorem dX7_hasNoWire_15 : decode cX7_hasNoWire 15 = .ok (.aload_n 0, 1) := by decide +kernel
theorem dX7_hasNoWire_16 : decode cX7_hasNoWire 16 = .ok (.getfield 34, 3) := by decide +kernel
theorem dX7_hasNoWire_19 : decode cX7_hasNoWire 19 = .ok (.iload_n 1, 1) := by decide +kernel
theorem dX7_hasNoWire_20 : decode cX7_hasNoWire 20 = .ok (.iaload, 1) := by decide +kernel
theorem dX7_hasNoWire_21 : decode cX7_hasNoWire 21 = .ok (.iconst 1, 1) := by decide +kernel
theorem dX7_hasNoWire_22 : decode cX7_hasNoWire 22 = .ok (.isub, 1) := by decide +kernel
theorem dX7_hasNoWire_23 : decode cX7_hasNoWire 23 = .ok (.invokestatic 94, 3) := by decide +kernel
theorem dX7_hasNoWire_26 : decode cX7_hasNoWire 26 = .ok (.ifCond .ne 7, 3) := by decide +kernel
theorem dX7_hasNoWire_29 : decode cX7_hasNoWire 29 = .ok (.iconst 2, 1) := by decide +kernel
theorem dX7_hasNoWire_30 : decode cX7_hasNoWire 30 = .ok (.goto 4, 3) := by decide +kernel
theorem dX7_hasNoWire_33 : decode cX7_hasNoWire 33 = .ok (.iconst 0, 1) := by decide +kernel
theorem dX7_hasNoWire_34 : decode cX7_hasNoWire 34 = .ok (.putfield 47, 3) := by decide +kernel
theorem dX7_hasNoWire_37 : decode cX7_hasNoWire 37 = .ok (.aload_n 0, 1) := by decide +kernel
theorem dX7_hasNoWire_38 : decode cX7_hasNoWire 38 = .ok (.getfield 47, 3) := by decide +kernel
theorem dX7_hasNoWire_41 : decode cX7_hasNoWire 41 = .ok (.ifCond .le 7, 3) := by decide +kernel
theorem dX7_hasNoWire_44 : decode cX7_hasNoWire 44 = .ok (.iconst 1, 1) := by decide +kernel
theorem dX7_hasNoWire_45 : decode cX7_hasNoWire 45 = .ok (.goto 4, 3) := by decide +kernel
theorem dX7_hasNoWire_48 : decode cX7_hasNoWire 48 = .ok (.iconst 0, 1) := by decide +kernel
theorem dX7_hasNoWire_49 : decode cX7_hasNoWire 49 = .ok (.ireturn, 1) := by decide +kernel
theorem dX7_wireFrom_0 : decode cX7_wireFrom 0 = .ok (.aload_n 0, 1) := by decide +kernel
theorem dX7_wireFrom_1 : decode cX7_wireFrom 1 = .ok (.iload_n 1, 1) := by decide +kernel
theorem dX7_wireFrom_2 : decode cX7_wireFrom 2 = .ok (.iload_n 2, 1) := by decide +kernel
theorem dX7_wireFrom_3 : decode cX7_wireFrom 3 = .ok (.invokevirtual 129, 3) := by decide +kernel
theorem dX7_wireFrom_6 : decode cX7_wireFrom 6 = .ok (.ifCond .eq 7, 3) := by decide +kernel
theorem dX7_wireFrom_9 : decode cX7_wireFrom 9 = .ok (.iconst 0, 1) := by decide +kernel
theorem dX7_wireFrom_10 : decode cX7_wireFrom 10 = .ok (.goto 13, 3) := by decide +kernel
theorem dX7_wireFrom_13 : decode cX7_wireFrom 13 = .ok (.aload_n 0, 1) := by decide +kernel
theorem dX7_wireFrom_14 : decode cX7_wireFrom 14 = .ok (.getfield 28, 3) := by decide +kernel
theorem dX7_wireFrom_17 : decode cX7_wireFrom 17 = .ok (.iconst 4, 1) := by decide +kernel
theorem dX7_wireFrom_18 : decode cX7_wireFrom 18 = .ok (.iload_n 1, 1) := by decide +kernel
theorem dX7_wireFrom_19 : decode cX7_wireFrom 19 = .ok (.imul, 1) := by decide +kernel
theorem dX7_wireFrom_20 : decode cX7_wireFrom 20 = .ok (.iload_n 2, 1) := by decide +kernel
theorem dX7_wireFrom_21 : decode cX7_wireFrom 21 = .ok (.iadd, 1) := by decide +kernel
theorem dX7_wireFrom_22 : decode cX7_wireFrom 22 = .ok (.iaload, 1) := by decide +kernel
theorem dX7_wireFrom_23 : decode cX7_wireFrom 23 = .ok (.ireturn, 1) := by decide +kernel
theorem dX7_wirePercent_0 : decode cX7_wirePercent 0 = .ok (.aload_n 0, 1) := by decide +kernel
theorem dX7_wirePercent_1 : decode cX7_wirePercent 1 = .ok (.iload_n 1, 1) := by decide +kernel
theorem dX7_wirePercent_2 : decode cX7_wirePercent 2 = .ok (.iload_n 2, 1) := by decide +kernel
theorem dX7_wirePercent_3 : decode cX7_wirePercent 3 = .ok (.invokevirtual 129, 3) := by decide +kernel
theorem dX7_wirePercent_6 : decode cX7_wirePercent 6 = .ok (.ifCond .eq 7, 3) := by decide +kernel
theorem dX7_wirePercent_9 : decode cX7_wirePercent 9 = .ok (.iconst 0, 1) := by decide +kernel
theorem dX7_wirePercent_10 : decode cX7_wirePercent 10 = .ok (.goto 13, 3) := by decide +kernel
theorem dX7_wirePercent_13 : decode cX7_wirePercent 13 = .ok (.aload_n 0, 1) := by decide +kernel
theorem dX7_wirePercent_14 : decode cX7_wirePercent 14 = .ok (.getfield 31, 3) := by decide +kernel
theorem dX7_wirePercent_17 : decode cX7_wirePercent 17 = .ok (.iconst 4, 1) := by decide +kernel
theorem dX7_wirePercent_18 : decode cX7_wirePercent 18 = .ok (.iload_n 1, 1) := by decide +kernel
theorem dX7_wirePercent_19 : decode cX7_wirePercent 19 = .ok (.imul, 1) := by decide +kernel
theorem dX7_wirePercent_20 : decode cX7_wirePercent 20 = .ok (.iload_n 2, 1) := by decide +kernel
theorem dX7_wirePercent_21 : decode cX7_wirePercent 21 = .ok (.iadd, 1) := by decide +kernel
theorem dX7_wirePercent_22 : decode cX7_wirePercent 22 = .ok (.iaload, 1) := by decide +kernel
theorem dX7_wirePercent_23 : decode cX7_wirePercent 23 = .ok (.ireturn, 1) := by decide +kernel
theorem dX7_nodeAt_0 : decode cX7_nodeAt 0 = .ok (.aload_n 0, 1) := by decide +kernel
theorem dX7_nodeAt_1 : decode cX7_nodeAt 1 = .ok (.aload_n 0, 1) := by decide +kernel
theorem dX7_nodeAt_2 : decode cX7_nodeAt 2 = .ok (.iload_n 1, 1) := by decide +kernel
theorem dX7_nodeAt_3 : decode cX7_nodeAt 3 = .ok (.invokevirtual 110, 3) := by decide +kernel
theorem dX7_nodeAt_6 : decode cX7_nodeAt 6 = .ok (.invokevirtual 121, 3) := by decide +kernel
theorem dX7_nodeAt_9 : decode cX7_nodeAt 9 = .ok (.ifCond .le 7, 3) := by decide +kernel
theorem dX7_nodeAt_12 : decode cX7_nodeAt 12 = .ok (.iconst 0, 1) := by decide +kernel
theorem dX7_nodeAt_13 : decode cX7_nodeAt 13 = .ok (.goto 9, 3) := by decide +kernel
theorem dX7_nodeAt_16 : decode cX7_nodeAt 16 = .ok (.aload_n 0, 1) := by decide +kernel
theorem dX7_nodeAt_17 : decode cX7_nodeAt 17 = .ok (.getfield 37, 3) := by decide +kernel
theorem dX7_nodeAt_20 : decode cX7_nodeAt 20 = .ok (.iload_n 1, 1) := by decide +kernel
theorem dX7_nodeAt_21 : decode cX7_nodeAt 21 = .ok (.iaload, 1) := by decide +kernel
theorem dX7_nodeAt_22 : decode cX7_nodeAt 22 = .ok (.ireturn, 1) := by decide +kernel
theorem dX7_longestBlock_0 : decode cX7_longestBlock 0 = .ok (.bipush 64, 2) := by decide +kernel
theorem dX7_longestBlock_2 : decode cX7_longestBlock 2 = .ok (.istore_n 1, 1) := by decide +kernel
theorem dX7_longestBlock_3 : decode cX7_longestBlock 3 = .ok (.iconst 0, 1) := by decide +kernel
theorem dX7_longestBlock_4 : decode cX7_longestBlock 4 = .ok (.istore_n 2, 1) := by decide +kernel
theorem dX7_longestBlock_5 : decode cX7_longestBlock 5 = .ok (.iload_n 2, 1) := by decide +kernel
theorem dX7_longestBlock_6 : decode cX7_longestBlock 6 = .ok (.aload_n 0, 1) := by decide +kernel
theorem dX7_longestBlock_7 : decode cX7_longestBlock 7 = .ok (.getfield 51, 3) := by decide +kernel
theorem dX7_longestBlock_10 : decode cX7_longestBlock 10 = .ok (.if_icmp .ge 40, 3) := by decide +kernel
theorem dX7_longestBlock_13 : decode cX7_longestBlock 13 = .ok (.aload_n 0, 1) := by decide +kernel
theorem dX7_longestBlock_14 : decode cX7_longestBlock 14 = .ok (.getfield 16, 3) := by decide +kernel
theorem dX7_longestBlock_17 : decode cX7_longestBlock 17 = .ok (.iload_n 2, 1) := by decide +kernel
theorem dX7_longestBlock_18 : decode cX7_longestBlock 18 = .ok (.iaload, 1) := by decide +kernel
theorem dX7_longestBlock_19 : decode cX7_longestBlock 19 = .ok (.iconst 2, 1) := by decide +kernel
theorem dX7_longestBlock_20 : decode cX7_longestBlock 20 = .ok (.if_icmp .ne 22, 3) := by decide +kernel
theorem dX7_longestBlock_23 : decode cX7_longestBlock 23 = .ok (.aload_n 0, 1) := by decide +kernel
theorem dX7_longestBlock_24 : decode cX7_longestBlock 24 = .ok (.getfield 19, 3) := by decide +kernel
theorem dX7_longestBlock_27 : decode cX7_longestBlock 27 = .ok (.iload_n 2, 1) := by decide +kernel
theorem dX7_longestBlock_28 : decode cX7_longestBlock 28 = .ok (.iaload, 1) := by decide +kernel
theorem dX7_longestBlock_29 : decode cX7_longestBlock 29 = .ok (.iload_n 1, 1) := by decide +kernel
theorem dX7_longestBlock_30 : decode cX7_longestBlock 30 = .ok (.if_icmp .ge 12, 3) := by decide +kernel
theorem dX7_longestBlock_33 : decode cX7_longestBlock 33 = .ok (.aload_n 0, 1) := by decide +kernel
theorem dX7_longestBlock_34 : decode cX7_longestBlock 34 = .ok (.getfield 19, 3) := by decide +kernel
theorem dX7_longestBlock_37 : decode cX7_longestBlock 37 = .ok (.iload_n 2, 1) := by decide +kernel
theorem dX7_longestBlock_38 : decode cX7_longestBlock 38 = .ok (.iaload, 1) := by decide +kernel
theorem dX7_longestBlock_39 : decode cX7_longestBlock 39 = .ok (.goto 4, 3) := by decide +kernel
theorem dX7_longestBlock_42 : decode cX7_longestBlock 42 = .ok (.iload_n 1, 1) := by decide +kernel
theorem dX7_longestBlock_43 : decode cX7_longestBlock 43 = .ok (.istore_n 1, 1) := by decide +kernel
theorem dX7_longestBlock_44 : decode cX7_longestBlock 44 = .ok (.iinc 2 1, 3) := by decide +kernel
theorem dX7_longestBlock_47 : decode cX7_longestBlock 47 = .ok (.goto (-42), 3) := by decide +kernel
theorem dX7_longestBlock_50 : decode cX7_longestBlock 50 = .ok (.aload_n 0, 1) := by decide +kernel
theorem dX7_longestBlock_51 : decode cX7_longestBlock 51 = .ok (.iload_n 1, 1) := by decide +kernel
theorem dX7_longestBlock_52 : decode cX7_longestBlock 52 = .ok (.invokevirtual 125, 3) := by decide +kernel
theorem dX7_longestBlock_55 : decode cX7_longestBlock 55 = .ok (.ireturn, 1) := by decide +kernel
theorem dX7_setWave_0 : decode cX7_setWave 0 = .ok (.aload_n 0, 1) := by decide +kernel
theorem dX7_setWave_1 : decode cX7_setWave 1 = .ok (.iload_n 1, 1) := by decide +kernel
theorem dX7_setWave_2 : decode cX7_setWave 2 = .ok (.bipush 115, 2) := by decide +kernel
theorem dX7_setWave_4 : decode cX7_setWave 4 = .ok (.if_icmp .eq 15, 3) := by decide +kernel
theorem dX7_setWave_7 : decode cX7_setWave 7 = .ok (.iload_n 1, 1) := by decide +kernel
theorem dX7_setWave_8 : decode cX7_setWave 8 = .ok (.bipush 113, 2) := by decide +kernel
theorem dX7_setWave_10 : decode cX7_setWave 10 = .ok (.if_icmp .eq 9, 3) := by decide +kernel
theorem dX7_setWave_13 : decode cX7_setWave 13 = .ok (.iload_n 1, 1) := by decide +kernel
theorem dX7_setWave_14 : decode cX7_setWave 14 = .ok (.bipush 116, 2) := by decide +kernel
theorem dX7_setWave_16 : decode cX7_setWave 16 = .ok (.if_icmp .ne 7, 3) := by decide +kernel
theorem dX7_setWave_19 : decode cX7_setWave 19 = .ok (.iconst 1, 1) := by decide +kernel
theorem dX7_setWave_20 : decode cX7_setWave 20 = .ok (.goto 4, 3) := by decide +kernel
theorem dX7_setWave_23 : decode cX7_setWave 23 = .ok (.iconst 0, 1) := by decide +kernel
theorem dX7_setWave_24 : decode cX7_setWave 24 = .ok (.invokevirtual 121, 3) := by decide +kernel
theorem dX7_setWave_27 : decode cX7_setWave 27 = .ok (.ifCond .le 6, 3) := by decide +kernel
theorem dX7_setWave_30 : decode cX7_setWave 30 = .ok (.bipush 97, 2) := by decide +kernel
theorem dX7_setWave_32 : decode cX7_setWave 32 = .ok (.ireturn, 1) := by decide +kernel
theorem dX7_setWave_33 : decode cX7_setWave 33 = .ok (.aload_n 0, 1) := by decide +kernel
theorem dX7_setWave_34 : decode cX7_setWave 34 = .ok (.getfield 57, 3) := by decide +kernel
theorem dX7_setWave_37 : decode cX7_setWave 37 = .ok (.istore_n 2, 1) := by decide +kernel
theorem dX7_setWave_38 : decode cX7_setWave 38 = .ok (.aload_n 0, 1) := by decide +kernel
theorem dX7_setWave_39 : decode cX7_setWave 39 = .ok (.iload_n 1, 1) := by decide +kernel
theorem dX7_setWave_40 : decode cX7_setWave 40 = .ok (.putfield 57, 3) := by decide +kernel
theorem dX7_setWave_43 : decode cX7_setWave 43 = .ok (.iload_n 2, 1) := by decide +kernel
theorem dX7_setWave_44 : decode cX7_setWave 44 = .ok (.i2c, 1) := by decide +kernel
theorem dX7_setWave_45 : decode cX7_setWave 45 = .ok (.ireturn, 1) := by decide +kernel
theorem dX7_setEnvelope_0 : decode cX7_setEnvelope 0 = .ok (.aload_n 0, 1) := by decide +kernel
theorem dX7_setEnvelope_1 : decode cX7_setEnvelope 1 = .ok (.iload_n 1, 1) := by decide +kernel
theorem dX7_setEnvelope_2 : decode cX7_setEnvelope 2 = .ok (.iconst 0, 1) := by decide +kernel
theorem dX7_setEnvelope_3 : decode cX7_setEnvelope 3 = .ok (.sipush 200, 3) := by decide +kernel
theorem dX7_setEnvelope_6 : decode cX7_setEnvelope 6 = .ok (.invokestatic 94, 3) := by decide +kernel
theorem dX7_setEnvelope_9 : decode cX7_setEnvelope 9 = .ok (.ifCond .eq 41, 3) := by decide +kernel
theorem dX7_setEnvelope_12 : decode cX7_setEnvelope 12 = .ok (.iload_n 2, 1) := by decide +kernel
theorem dX7_setEnvelope_13 : decode cX7_setEnvelope 13 = .ok (.iconst 0, 1) := by decide +kernel
theorem dX7_setEnvelope_14 : decode cX7_setEnvelope 14 = .ok (.sipush 200, 3) := by decide +kernel
theorem dX7_setEnvelope_17 : decode cX7_setEnvelope 17 = .ok (.invokestatic 94, 3) := by decide +kernel
theorem dX7_setEnvelope_20 : decode cX7_setEnvelope 20 = .ok (.ifCond .eq 30, 3) := by decide +kernel
theorem dX7_setEnvelope_23 : decode cX7_setEnvelope 23 = .ok (.iload_n 3, 1) := by decide +kernel
theorem dX7_setEnvelope_24 : decode cX7_setEnvelope 24 = .ok (.iconst 0, 1) := by decide +kernel
theorem dX7_setEnvelope_25 : decode cX7_setEnvelope 25 = .ok (.sipush 1000, 3) := by decide +kernel
theorem dX7_setEnvelope_28 : decode cX7_setEnvelope 28 = .ok (.invokestatic 94, 3) := by decide +kernel
theorem dX7_setEnvelope_31 : decode cX7_setEnvelope 31 = .ok (.ifCond .eq 19, 3) := by decide +kernel
theorem dX7_setEnvelope_34 : decode cX7_setEnvelope 34 = .ok (.iload 4, 2) := by decide +kernel
theorem dX7_setEnvelope_36 : decode cX7_setEnvelope 36 = .ok (.iconst 0, 1) := by decide +kernel
theorem dX7_setEnvelope_37 : decode cX7_setEnvelope 37 = .ok (.sipush 200, 3) := by decide +kernel
theorem dX7_setEnvelope_40 : decode cX7_setEnvelope 40 = .ok (.invokestatic 94, 3) := by decide +kernel
theorem dX7_setEnvelope_43 : decode cX7_setEnvelope 43 = .ok (.ifCond .eq 7, 3) := by decide +kernel
theorem dX7_setEnvelope_46 : decode cX7_setEnvelope 46 = .ok (.iconst 1, 1) := by decide +kernel
theorem dX7_setEnvelope_47 : decode cX7_setEnvelope 47 = .ok (.goto 4, 3) := by decide +kernel
theorem dX7_setEnvelope_50 : decode cX7_setEnvelope 50 = .ok (.iconst 0, 1) := by decide +kernel
theorem dX7_setEnvelope_51 : decode cX7_setEnvelope 51 = .ok (.invokevirtual 121, 3) := by decide +kernel
theorem dX7_setEnvelope_54 : decode cX7_setEnvelope 54 = .ok (.ifCond .le 5, 3) := by decide +kernel
theorem dX7_setEnvelope_57 : decode cX7_setEnvelope 57 = .ok (.iconst 0, 1) := by decide +kernel
theorem dX7_setEnvelope_58 : decode cX7_setEnvelope 58 = .ok (.ireturn, 1) := by decide +kernel
theorem dX7_setEnvelope_59 : decode cX7_setEnvelope 59 = .ok (.aload_n 0, 1) := by decide +kernel
theorem dX7_setEnvelope_60 : decode cX7_setEnvelope 60 = .ok (.getfield 66, 3) := by decide +kernel
theorem dX7_setEnvelope_63 : decode cX7_setEnvelope 63 = .ok (.istore 5, 2) := by decide +kernel
theorem dX7_setEnvelope_65 : decode cX7_setEnvelope 65 = .ok (.aload_n 0, 1) := by decide +kernel
theorem dX7_setEnvelope_66 : decode cX7_setEnvelope 66 = .ok (.iload_n 1, 1) := by decide +kernel
theorem dX7_setEnvelope_67 : decode cX7_setEnvelope 67 = .ok (.putfield 60, 3) := by decide +kernel
theorem dX7_setEnvelope_70 : decode cX7_setEnvelope 70 = .ok (.aload_n 0, 1) := by decide +kernel
theorem dX7_setEnvelope_71 : decode cX7_setEnvelope 71 = .ok (.iload_n 2, 1) := by decide +kernel
theorem dX7_setEnvelope_72 : decode cX7_setEnvelope 72 = .ok (.putfield 63, 3) := by decide +kernel
theorem dX7_setEnvelope_75 : decode cX7_setEnvelope 75 = .ok (.aload_n 0, 1) := by decide +kernel
theorem dX7_setEnvelope_76 : decode cX7_setEnvelope 76 = .ok (.iload_n 3, 1) := by decide +kernel
theorem dX7_setEnvelope_77 : decode cX7_setEnvelope 77 = .ok (.putfield 66, 3) := by decide +kernel
theorem dX7_setEnvelope_80 : decode cX7_setEnvelope 80 = .ok (.aload_n 0, 1) := by decide +kernel
theorem dX7_setEnvelope_81 : decode cX7_setEnvelope 81 = .ok (.iload 4, 2) := by decide +kernel
theorem dX7_setEnvelope_83 : decode cX7_setEnvelope 83 = .ok (.putfield 69, 3) := by decide +kernel
theorem dX7_setEnvelope_86 : decode cX7_setEnvelope 86 = .ok (.iload 5, 2) := by decide +kernel
theorem dX7_setEnvelope_88 : decode cX7_setEnvelope 88 = .ok (.ireturn, 1) := by decide +kernel
theorem dX7_at_0 : decode cX7_at 0 = .ok (.aload_n 0, 1) := by decide +kernel
theorem dX7_at_1 : decode cX7_at 1 = .ok (.getfield 7, 3) := by decide +kernel
theorem dX7_at_4 : decode cX7_at 4 = .ok (.sipush 640, 3) := by decide +kernel
theorem dX7_at_7 : decode cX7_at 7 = .ok (.bipush 16, 2) := by decide +kernel
theorem dX7_at_9 : decode cX7_at 9 = .ok (.iload_n 1, 1) := by decide +kernel
theorem dX7_at_10 : decode cX7_at 10 = .ok (.imul, 1) := by decide +kernel
theorem dX7_at_11 : decode cX7_at 11 = .ok (.iadd, 1) := by decide +kernel
theorem dX7_at_12 : decode cX7_at 12 = .ok (.iload_n 2, 1) := by decide +kernel
theorem dX7_at_13 : decode cX7_at 13 = .ok (.iadd, 1) := by decide +kernel
theorem dX7_at_14 : decode cX7_at 14 = .ok (.iaload, 1) := by decide +kernel
theorem dX7_at_15 : decode cX7_at 15 = .ok (.ireturn, 1) := by decide +kernel
theorem dX7_lay_0 : decode cX7_lay 0 = .ok (.aload_n 0, 1) := by decide +kernel
theorem dX7_lay_1 : decode cX7_lay 1 = .ok (.getfield 7, 3) := by decide +kernel
theorem dX7_lay_4 : decode cX7_lay 4 = .ok (.sipush 640, 3) := by decide +kernel
theorem dX7_lay_7 : decode cX7_lay 7 = .ok (.bipush 16, 2) := by decide +kernel
theorem dX7_lay_9 : decode cX7_lay 9 = .ok (.iload_n 1, 1) := by decide +kernel
theorem dX7_lay_10 : decode cX7_lay 10 = .ok (.imul, 1) := by decide +kernel
theorem dX7_lay_11 : decode cX7_lay 11 = .ok (.iadd, 1) := by decide +kernel
theorem dX7_lay_12 : decode cX7_lay 12 = .ok (.iload_n 2, 1) := by decide +kernel
theorem dX7_lay_13 : decode cX7_lay 13 = .ok (.iadd, 1) := by decide +kernel
theorem dX7_lay_14 : decode cX7_lay 14 = .ok (.iload_n 3, 1) := by decide +kernel
theorem dX7_lay_15 : decode cX7_lay 15 = .ok (.iastore, 1) := by decide +kernel
theorem dX7_lay_16 : decode cX7_lay 16 = .ok (.return_, 1) := by decide +kernel
theorem dX7_plays_0 : decode cX7_plays 0 = .ok (.aload_n 0, 1) := by decide +kernel
theorem dX7_plays_1 : decode cX7_plays 1 = .ok (.iload_n 1, 1) := by decide +kernel
theorem dX7_plays_2 : decode cX7_plays 2 = .ok (.iconst 0, 1) := by decide +kernel
theorem dX7_plays_3 : decode cX7_plays 3 = .ok (.invokevirtual 132, 3) := by decide +kernel
theorem dX7_plays_6 : decode cX7_plays 6 = .ok (.iconst 1, 1) := by decide +kernel
theorem dX7_plays_7 : decode cX7_plays 7 = .ok (.if_icmp .ne 7, 3) := by decide +kernel
theorem dX7_plays_10 : decode cX7_plays 10 = .ok (.iconst 1, 1) := by decide +kernel
theorem dX7_plays_11 : decode cX7_plays 11 = .ok (.goto 4, 3) := by decide +kernel
theorem dX7_plays_14 : decode cX7_plays 14 = .ok (.iconst 0, 1) := by decide +kernel
theorem dX7_plays_15 : decode cX7_plays 15 = .ok (.ireturn, 1) := by decide +kernel
theorem dX7_isReleased_0 : decode cX7_isReleased 0 = .ok (.aload_n 0, 1) := by decide +kernel
theorem dX7_isReleased_1 : decode cX7_isReleased 1 = .ok (.iload_n 1, 1) := by decide +kernel
theorem dX7_isReleased_2 : decode cX7_isReleased 2 = .ok (.invokevirtual 135, 3) := by decide +kernel
theorem dX7_isReleased_5 : decode cX7_isReleased 5 = .ok (.ifCond .eq 17, 3) := by decide +kernel
theorem dX7_isReleased_8 : decode cX7_isReleased 8 = .ok (.aload_n 0, 1) := by decide +kernel
theorem dX7_isReleased_9 : decode cX7_isReleased 9 = .ok (.iload_n 1, 1) := by decide +kernel
theorem dX7_isReleased_10 : decode cX7_isReleased 10 = .ok (.iconst 1, 1) := by decide +kernel
theorem dX7_isReleased_11 : decode cX7_isReleased 11 = .ok (.invokevirtual 132, 3) := by decide +kernel
theorem dX7_isReleased_14 : decode cX7_isReleased 14 = .ok (.iconst 1, 1) := by decide +kernel
theorem dX7_isReleased_15 : decode cX7_isReleased 15 = .ok (.if_icmp .ne 7, 3) := by decide +kernel
theorem dX7_isReleased_18 : decode cX7_isReleased 18 = .ok (.iconst 1, 1) := by decide +kernel
theorem dX7_isReleased_19 : decode cX7_isReleased 19 = .ok (.goto 4, 3) := by decide +kernel
theorem dX7_isReleased_22 : decode cX7_isReleased 22 = .ok (.iconst 0, 1) := by decide +kernel
theorem dX7_isReleased_23 : decode cX7_isReleased 23 = .ok (.ireturn, 1) := by decide +kernel
theorem dX7_isHeld_0 : decode cX7_isHeld 0 = .ok (.aload_n 0, 1) := by decide +kernel
theorem dX7_isHeld_1 : decode cX7_isHeld 1 = .ok (.iload_n 1, 1) := by decide +kernel
theorem dX7_isHeld_2 : decode cX7_isHeld 2 = .ok (.invokevirtual 135, 3) := by decide +kernel
theorem dX7_isHeld_5 : decode cX7_isHeld 5 = .ok (.ifCond .eq 16, 3) := by decide +kernel
theorem dX7_isHeld_8 : decode cX7_isHeld 8 = .ok (.aload_n 0, 1) := by decide +kernel
theorem dX7_isHeld_9 : decode cX7_isHeld 9 = .ok (.iload_n 1, 1) := by decide +kernel
theorem dX7_isHeld_10 : decode cX7_isHeld 10 = .ok (.iconst 1, 1) := by decide +kernel
theorem dX7_isHeld_11 : decode cX7_isHeld 11 = .ok (.invokevirtual 132, 3) := by decide +kernel
theorem dX7_isHeld_14 : decode cX7_isHeld 14 = .ok (.ifCond .ne 7, 3) := by decide +kernel
theorem dX7_isHeld_17 : decode cX7_isHeld 17 = .ok (.iconst 1, 1) := by decide +kernel
theorem dX7_isHeld_18 : decode cX7_isHeld 18 = .ok (.goto 4, 3) := by decide +kernel
theorem dX7_isHeld_21 : decode cX7_isHeld 21 = .ok (.iconst 0, 1) := by decide +kernel
theorem dX7_isHeld_22 : decode cX7_isHeld 22 = .ok (.ireturn, 1) := by decide +kernel
theorem dX7_voiceFor_0 : decode cX7_voiceFor 0 = .ok (.iconst 0, 1) := by decide +kernel
theorem dX7_voiceFor_1 : decode cX7_voiceFor 1 = .ok (.istore_n 1, 1) := by decide +kernel
theorem dX7_voiceFor_2 : decode cX7_voiceFor 2 = .ok (.iload_n 1, 1) := by decide +kernel
theorem dX7_voiceFor_3 : decode cX7_voiceFor 3 = .ok (.iconst 4, 1) := by decide +kernel
theorem dX7_voiceFor_4 : decode cX7_voiceFor 4 = .ok (.if_icmp .ge 19, 3) := by decide +kernel
theorem dX7_voiceFor_7 : decode cX7_voiceFor 7 = .ok (.aload_n 0, 1) := by decide +kernel
theorem dX7_voiceFor_8 : decode cX7_voiceFor 8 = .ok (.iload_n 1, 1) := by decide +kernel
theorem dX7_voiceFor_9 : decode cX7_voiceFor 9 = .ok (.invokevirtual 135, 3) := by decide +kernel
theorem dX7_voiceFor_12 : decode cX7_voiceFor 12 = .ok (.ifCond .ne 5, 3) := by decide +kernel
theorem dX7_voiceFor_15 : decode cX7_voiceFor 15 = .ok (.iload_n 1, 1) := by decide +kernel
theorem dX7_voiceFor_16 : decode cX7_voiceFor 16 = .ok (.ireturn, 1) := by decide +kernel
theorem dX7_voiceFor_17 : decode cX7_voiceFor 17 = .ok (.iinc 1 1, 3) := by decide +kernel
theorem dX7_voiceFor_20 : decode cX7_voiceFor 20 = .ok (.goto (-18), 3) := by decide +kernel
theorem dX7_voiceFor_23 : decode cX7_voiceFor 23 = .ok (.iconst (-1), 1) := by decide +kernel
theorem dX7_voiceFor_24 : decode cX7_voiceFor 24 = .ok (.istore_n 1, 1) := by decide +kernel
theorem dX7_voiceFor_25 : decode cX7_voiceFor 25 = .ok (.iconst 0, 1) := by decide +kernel
theorem dX7_voiceFor_26 : decode cX7_voiceFor 26 = .ok (.istore_n 2, 1) := by decide +kernel
theorem dX7_voiceFor_27 : decode cX7_voiceFor 27 = .ok (.iload_n 2, 1) := by decide +kernel
theorem dX7_voiceFor_28 : decode cX7_voiceFor 28 = .ok (.iconst 4, 1) := by decide +kernel
theorem dX7_voiceFor_29 : decode cX7_voiceFor 29 = .ok (.if_icmp .ge 40, 3) := by decide +kernel
theorem dX7_voiceFor_32 : decode cX7_voiceFor 32 = .ok (.aload_n 0, 1) := by decide +kernel
theorem dX7_voiceFor_33 : decode cX7_voiceFor 33 = .ok (.iload_n 2, 1) := by decide +kernel
theorem dX7_voiceFor_34 : decode cX7_voiceFor 34 = .ok (.invokevirtual 138, 3) := by decide +kernel
theorem dX7_voiceFor_37 : decode cX7_voiceFor 37 = .ok (.ifCond .eq 26, 3) := by decide +kernel
theorem dX7_voiceFor_40 : decode cX7_voiceFor 40 = .ok (.iload_n 1, 1) := by decide +kernel
theorem dX7_voiceFor_41 : decode cX7_voiceFor 41 = .ok (.ifCond .lt 20, 3) := by decide +kernel
theorem dX7_voiceFor_44 : decode cX7_voiceFor 44 = .ok (.aload_n 0, 1) := by decide +kernel
theorem dX7_voiceFor_45 : decode cX7_voiceFor 45 = .ok (.iload_n 2, 1) := by decide +kernel
theorem dX7_voiceFor_46 : decode cX7_voiceFor 46 = .ok (.bipush 14, 2) := by decide +kernel
theorem dX7_voiceFor_48 : decode cX7_voiceFor 48 = .ok (.invokevirtual 132, 3) := by decide +kernel
theorem dX7_voiceFor_51 : decode cX7_voiceFor 51 = .ok (.aload_n 0, 1) := by decide +kernel
theorem dX7_voiceFor_52 : decode cX7_voiceFor 52 = .ok (.iload_n 1, 1) := by decide +kernel
theorem dX7_voiceFor_53 : decode cX7_voiceFor 53 = .ok (.bipush 14, 2) := by decide +kernel
theorem dX7_voiceFor_55 : decode cX7_voiceFor 55 = .ok (.invokevirtual 132, 3) := by decide +kernel
theorem dX7_voiceFor_58 : decode cX7_voiceFor 58 = .ok (.if_icmp .ge 5, 3) := by decide +kernel
theorem dX7_voiceFor_61 : decode cX7_voiceFor 61 = .ok (.iload_n 2, 1) := by decide +kernel
theorem dX7_voiceFor_62 : decode cX7_voiceFor 62 = .ok (.istore_n 1, 1) := by decide +kernel
theorem dX7_voiceFor_63 : decode cX7_voiceFor 63 = .ok (.iinc 2 1, 3) := by decide +kernel
theorem dX7_voiceFor_66 : decode cX7_voiceFor 66 = .ok (.goto (-39), 3) := by decide +kernel
theorem dX7_voiceFor_69 : decode cX7_voiceFor 69 = .ok (.iload_n 1, 1) := by decide +kernel
theorem dX7_voiceFor_70 : decode cX7_voiceFor 70 = .ok (.ifCond .lt 5, 3) := by decide +kernel
theorem dX7_voiceFor_73 : decode cX7_voiceFor 73 = .ok (.iload_n 1, 1) := by decide +kernel
theorem dX7_voiceFor_74 : decode cX7_voiceFor 74 = .ok (.ireturn, 1) := by decide +kernel
theorem dX7_voiceFor_75 : decode cX7_voiceFor 75 = .ok (.iconst 0, 1) := by decide +kernel
theorem dX7_voiceFor_76 : decode cX7_voiceFor 76 = .ok (.istore_n 1, 1) := by decide +kernel
theorem dX7_voiceFor_77 : decode cX7_voiceFor 77 = .ok (.iconst 1, 1) := by decide +kernel
theorem dX7_voiceFor_78 : decode cX7_voiceFor 78 = .ok (.istore_n 2, 1) := by decide +kernel
theorem dX7_voiceFor_79 : decode cX7_voiceFor 79 = .ok (.iload_n 2, 1) := by decide +kernel
theorem dX7_voiceFor_80 : decode cX7_voiceFor 80 = .ok (.iconst 4, 1) := by decide +kernel
theorem dX7_voiceFor_81 : decode cX7_voiceFor 81 = .ok (.if_icmp .ge 28, 3) := by decide +kernel
theorem dX7_voiceFor_84 : decode cX7_voiceFor 84 = .ok (.aload_n 0, 1) := by decide +kernel
theorem dX7_voiceFor_85 : decode cX7_voiceFor 85 = .ok (.iload_n 2, 1) := by decide +kernel
theorem dX7_voiceFor_86 : decode cX7_voiceFor 86 = .ok (.bipush 13, 2) := by decide +kernel
theorem dX7_voiceFor_88 : decode cX7_voiceFor 88 = .ok (.invokevirtual 132, 3) := by decide +kernel
theorem dX7_voiceFor_91 : decode cX7_voiceFor 91 = .ok (.aload_n 0, 1) := by decide +kernel
theorem dX7_voiceFor_92 : decode cX7_voiceFor 92 = .ok (.iload_n 1, 1) := by decide +kernel
theorem dX7_voiceFor_93 : decode cX7_voiceFor 93 = .ok (.bipush 13, 2) := by decide +kernel
theorem dX7_voiceFor_95 : decode cX7_voiceFor 95 = .ok (.invokevirtual 132, 3) := by decide +kernel
theorem dX7_voiceFor_98 : decode cX7_voiceFor 98 = .ok (.if_icmp .ge 5, 3) := by decide +kernel
theorem dX7_voiceFor_101 : decode cX7_voiceFor 101 = .ok (.iload_n 2, 1) := by decide +kernel
theorem dX7_voiceFor_102 : decode cX7_voiceFor 102 = .ok (.istore_n 1, 1) := by decide +kernel
theorem dX7_voiceFor_103 : decode cX7_voiceFor 103 = .ok (.iinc 2 1, 3) := by decide +kernel
theorem dX7_voiceFor_106 : decode cX7_voiceFor 106 = .ok (.goto (-27), 3) := by decide +kernel
theorem dX7_voiceFor_109 : decode cX7_voiceFor 109 = .ok (.iload_n 1, 1) := by decide +kernel
theorem dX7_voiceFor_110 : decode cX7_voiceFor 110 = .ok (.ireturn, 1) := by decide +kernel
theorem dX7_begin_0 : decode cX7_begin 0 = .ok (.aload_n 0, 1) := by decide +kernel
theorem dX7_begin_1 : decode cX7_begin 1 = .ok (.iload_n 1, 1) := by decide +kernel
theorem dX7_begin_2 : decode cX7_begin 2 = .ok (.iconst 0, 1) := by decide +kernel
theorem dX7_begin_3 : decode cX7_begin 3 = .ok (.bipush 59, 2) := by decide +kernel
theorem dX7_begin_5 : decode cX7_begin 5 = .ok (.invokestatic 94, 3) := by decide +kernel
theorem dX7_begin_8 : decode cX7_begin 8 = .ok (.ifCond .eq 17, 3) := by decide +kernel
theorem dX7_begin_11 : decode cX7_begin 11 = .ok (.iload_n 2, 1) := by decide +kernel
theorem dX7_begin_12 : decode cX7_begin 12 = .ok (.iconst 1, 1) := by decide +kernel
theorem dX7_begin_13 : decode cX7_begin 13 = .ok (.bipush 100, 2) := by decide +kernel
theorem dX7_begin_15 : decode cX7_begin 15 = .ok (.invokestatic 94, 3) := by decide +kernel
theorem dX7_begin_18 : decode cX7_begin 18 = .ok (.ifCond .eq 7, 3) := by decide +kernel
theorem dX7_begin_21 : decode cX7_begin 21 = .ok (.iconst 1, 1) := by decide +kernel
theorem dX7_begin_22 : decode cX7_begin 22 = .ok (.goto 4, 3) := by decide +kernel
theorem dX7_begin_25 : decode cX7_begin 25 = .ok (.iconst 0, 1) := by decide +kernel
theorem dX7_begin_26 : decode cX7_begin 26 = .ok (.invokevirtual 121, 3) := by decide +kernel
theorem dX7_begin_29 : decode cX7_begin 29 = .ok (.ifCond .le 5, 3) := by decide +kernel
theorem dX7_begin_32 : decode cX7_begin 32 = .ok (.iconst 0, 1) := by decide +kernel
theorem dX7_begin_33 : decode cX7_begin 33 = .ok (.ireturn, 1) := by decide +kernel
theorem dX7_begin_34 : decode cX7_begin 34 = .ok (.aload_n 0, 1) := by decide +kernel
theorem dX7_begin_35 : decode cX7_begin 35 = .ok (.invokevirtual 141, 3) := by decide +kernel
theorem dX7_begin_38 : decode cX7_begin 38 = .ok (.istore_n 3, 1) := by decide +kernel
theorem dX7_begin_39 : decode cX7_begin 39 = .ok (.aload_n 0, 1) := by decide +kernel
theorem dX7_begin_40 : decode cX7_begin 40 = .ok (.dup, 1) := by decide +kernel
theorem dX7_begin_41 : decode cX7_begin 41 = .ok (.getfield 72, 3) := by decide +kernel
theorem dX7_begin_44 : decode cX7_begin 44 = .ok (.aload_n 0, 1) := by decide +kernel
theorem dX7_begin_45 : decode cX7_begin 45 = .ok (.iload_n 3, 1) := by decide +kernel
theorem dX7_begin_46 : decode cX7_begin 46 = .ok (.invokevirtual 135, 3) := by decide +kernel
theorem dX7_begin_49 : decode cX7_begin 49 = .ok (.ifCond .eq 7, 3) := by decide +kernel
theorem dX7_begin_52 : decode cX7_begin 52 = .ok (.iconst 1, 1) := by decide +kernel
theorem dX7_begin_53 : decode cX7_begin 53 = .ok (.goto 4, 3) := by decide +kernel
theorem dX7_begin_56 : decode cX7_begin 56 = .ok (.iconst 0, 1) := by decide +kernel
theorem dX7_begin_57 : decode cX7_begin 57 = .ok (.iadd, 1) := by decide +kernel
theorem dX7_begin_58 : decode cX7_begin 58 = .ok (.putfield 72, 3) := by decide +kernel
theorem dX7_begin_61 : decode cX7_begin 61 = .ok (.iconst 0, 1) := by decide +kernel
theorem dX7_begin_62 : decode cX7_begin 62 = .ok (.istore 4, 2) := by decide +kernel
theorem dX7_begin_64 : decode cX7_begin 64 = .ok (.iload 4, 2) := by decide +kernel
theorem dX7_begin_66 : decode cX7_begin 66 = .ok (.bipush 16, 2) := by decide +kernel
theorem dX7_begin_68 : decode cX7_begin 68 = .ok (.if_icmp .ge 17, 3) := by decide +kernel
theorem dX7_begin_71 : decode cX7_begin 71 = .ok (.aload_n 0, 1) := by decide +kernel
theorem dX7_begin_72 : decode cX7_begin 72 = .ok (.iload_n 3, 1) := by decide +kernel
theorem dX7_begin_73 : decode cX7_begin 73 = .ok (.iload 4, 2) := by decide +kernel
theorem dX7_begin_75 : decode cX7_begin 75 = .ok (.iconst 0, 1) := by decide +kernel
theorem dX7_begin_76 : decode cX7_begin 76 = .ok (.invokevirtual 145, 3) := by decide +kernel
theorem dX7_begin_79 : decode cX7_begin 79 = .ok (.iinc 4 1, 3) := by decide +kernel
theorem dX7_begin_82 : decode cX7_begin 82 = .ok (.goto (-18), 3) := by decide +kernel
theorem dX7_begin_85 : decode cX7_begin 85 = .ok (.aload_n 0, 1) := by decide +kernel
theorem dX7_begin_86 : decode cX7_begin 86 = .ok (.iload_n 3, 1) := by decide +kernel
theorem dX7_begin_87 : decode cX7_begin 87 = .ok (.iconst 0, 1) := by decide +kernel
theorem dX7_begin_88 : decode cX7_begin 88 = .ok (.iconst 1, 1) := by decide +kernel
theorem dX7_begin_89 : decode cX7_begin 89 = .ok (.invokevirtual 145, 3) := by decide +kernel
theorem dX7_begin_92 : decode cX7_begin 92 = .ok (.aload_n 0, 1) := by decide +kernel
theorem dX7_begin_93 : decode cX7_begin 93 = .ok (.iload_n 3, 1) := by decide +kernel
theorem dX7_begin_94 : decode cX7_begin 94 = .ok (.iconst 2, 1) := by decide +kernel
theorem dX7_begin_95 : decode cX7_begin 95 = .ok (.iload_n 1, 1) := by decide +kernel
theorem dX7_begin_96 : decode cX7_begin 96 = .ok (.invokevirtual 145, 3) := by decide +kernel
theorem dX7_begin_99 : decode cX7_begin 99 = .ok (.aload_n 0, 1) := by decide +kernel
theorem dX7_begin_100 : decode cX7_begin 100 = .ok (.iload_n 3, 1) := by decide +kernel
theorem dX7_begin_101 : decode cX7_begin 101 = .ok (.iconst 3, 1) := by decide +kernel
theorem dX7_begin_102 : decode cX7_begin 102 = .ok (.iload_n 2, 1) := by decide +kernel
theorem dX7_begin_103 : decode cX7_begin 103 = .ok (.invokevirtual 145, 3) := by decide +kernel
theorem dX7_begin_106 : decode cX7_begin 106 = .ok (.aload_n 0, 1) := by decide +kernel
theorem dX7_begin_107 : decode cX7_begin 107 = .ok (.iload_n 3, 1) := by decide +kernel
theorem dX7_begin_108 : decode cX7_begin 108 = .ok (.iconst 4, 1) := by decide +kernel
theorem dX7_begin_109 : decode cX7_begin 109 = .ok (.aload_n 0, 1) := by decide +kernel
theorem dX7_begin_110 : decode cX7_begin 110 = .ok (.getfield 57, 3) := by decide +kernel
theorem dX7_begin_113 : decode cX7_begin 113 = .ok (.invokevirtual 145, 3) := by decide +kernel
theorem dX7_begin_116 : decode cX7_begin 116 = .ok (.aload_n 0, 1) := by decide +kernel
theorem dX7_begin_117 : decode cX7_begin 117 = .ok (.iload_n 3, 1) := by decide +kernel
theorem dX7_begin_118 : decode cX7_begin 118 = .ok (.iconst 5, 1) := by decide +kernel
theorem dX7_begin_119 : decode cX7_begin 119 = .ok (.aload_n 0, 1) := by decide +kernel
theorem dX7_begin_120 : decode cX7_begin 120 = .ok (.getfield 60, 3) := by decide +kernel
theorem dX7_begin_123 : decode cX7_begin 123 = .ok (.invokevirtual 145, 3) := by decide +kernel
theorem dX7_begin_126 : decode cX7_begin 126 = .ok (.aload_n 0, 1) := by decide +kernel
theorem dX7_begin_127 : decode cX7_begin 127 = .ok (.iload_n 3, 1) := by decide +kernel
theorem dX7_begin_128 : decode cX7_begin 128 = .ok (.bipush 6, 2) := by decide +kernel
theorem dX7_begin_130 : decode cX7_begin 130 = .ok (.aload_n 0, 1) := by decide +kernel
theorem dX7_begin_131 : decode cX7_begin 131 = .ok (.getfield 63, 3) := by decide +kernel
theorem dX7_begin_134 : decode cX7_begin 134 = .ok (.invokevirtual 145, 3) := by decide +kernel
theorem dX7_begin_137 : decode cX7_begin 137 = .ok (.aload_n 0, 1) := by decide +kernel
theorem dX7_begin_138 : decode cX7_begin 138 = .ok (.iload_n 3, 1) := by decide +kernel
theorem dX7_begin_139 : decode cX7_begin 139 = .ok (.bipush 7, 2) := by decide +kernel
theorem dX7_begin_141 : decode cX7_begin 141 = .ok (.aload_n 0, 1) := by decide +kernel
theorem dX7_begin_142 : decode cX7_begin 142 = .ok (.getfield 66, 3) := by decide +kernel
theorem dX7_begin_145 : decode cX7_begin 145 = .ok (.invokevirtual 145, 3) := by decide +kernel
theorem dX7_begin_148 : decode cX7_begin 148 = .ok (.aload_n 0, 1) := by decide +kernel
theorem dX7_begin_149 : decode cX7_begin 149 = .ok (.iload_n 3, 1) := by decide +kernel
theorem dX7_begin_150 : decode cX7_begin 150 = .ok (.bipush 8, 2) := by decide +kernel
theorem dX7_begin_152 : decode cX7_begin 152 = .ok (.aload_n 0, 1) := by decide +kernel
theorem dX7_begin_153 : decode cX7_begin 153 = .ok (.getfield 69, 3) := by decide +kernel
theorem dX7_begin_156 : decode cX7_begin 156 = .ok (.invokevirtual 145, 3) := by decide +kernel
theorem dX7_begin_159 : decode cX7_begin 159 = .ok (.aload_n 0, 1) := by decide +kernel
theorem dX7_begin_160 : decode cX7_begin 160 = .ok (.iload_n 3, 1) := by decide +kernel
theorem dX7_begin_161 : decode cX7_begin 161 = .ok (.bipush 13, 2) := by decide +kernel
theorem dX7_begin_163 : decode cX7_begin 163 = .ok (.aload_n 0, 1) := by decide +kernel
theorem dX7_begin_164 : decode cX7_begin 164 = .ok (.getfield 75, 3) := by decide +kernel
theorem dX7_begin_167 : decode cX7_begin 167 = .ok (.invokevirtual 145, 3) := by decide +kernel
theorem dX7_begin_170 : decode cX7_begin 170 = .ok (.aload_n 0, 1) := by decide +kernel
theorem dX7_begin_171 : decode cX7_begin 171 = .ok (.dup, 1) := by decide +kernel
theorem dX7_begin_172 : decode cX7_begin 172 = .ok (.getfield 75, 3) := by decide +kernel
theorem dX7_begin_175 : decode cX7_begin 175 = .ok (.iconst 1, 1) := by decide +kernel
theorem dX7_begin_176 : decode cX7_begin 176 = .ok (.iadd, 1) := by decide +kernel
theorem dX7_begin_177 : decode cX7_begin 177 = .ok (.putfield 75, 3) := by decide +kernel
theorem dX7_begin_180 : decode cX7_begin 180 = .ok (.iload_n 3, 1) := by decide +kernel
theorem dX7_begin_181 : decode cX7_begin 181 = .ok (.ireturn, 1) := by decide +kernel
theorem dX7_levelAt_0 : decode cX7_levelAt 0 = .ok (.aload_n 0, 1) := by decide +kernel
theorem dX7_levelAt_1 : decode cX7_levelAt 1 = .ok (.iload_n 1, 1) := by decide +kernel
theorem dX7_levelAt_2 : decode cX7_levelAt 2 = .ok (.invokevirtual 135, 3) := by decide +kernel
theorem dX7_levelAt_5 : decode cX7_levelAt 5 = .ok (.ifCond .ne 5, 3) := by decide +kernel
theorem dX7_levelAt_8 : decode cX7_levelAt 8 = .ok (.iconst 0, 1) := by decide +kernel
theorem dX7_levelAt_9 : decode cX7_levelAt 9 = .ok (.ireturn, 1) := by decide +kernel
theorem dX7_levelAt_10 : decode cX7_levelAt 10 = .ok (.aload_n 0, 1) := by decide +kernel
theorem dX7_levelAt_11 : decode cX7_levelAt 11 = .ok (.iload_n 1, 1) := by decide +kernel
theorem dX7_levelAt_12 : decode cX7_levelAt 12 = .ok (.invokevirtual 138, 3) := by decide +kernel
theorem dX7_levelAt_15 : decode cX7_levelAt 15 = .ok (.ifCond .eq 35, 3) := by decide +kernel
theorem dX7_levelAt_18 : decode cX7_levelAt 18 = .ok (.aload_n 0, 1) := by decide +kernel
theorem dX7_levelAt_19 : decode cX7_levelAt 19 = .ok (.iload_n 1, 1) := by decide +kernel
theorem dX7_levelAt_20 : decode cX7_levelAt 20 = .ok (.bipush 11, 2) := by decide +kernel
theorem dX7_levelAt_22 : decode cX7_levelAt 22 = .ok (.invokevirtual 132, 3) := by decide +kernel
theorem dX7_levelAt_25 : decode cX7_levelAt 25 = .ok (.aload_n 0, 1) := by decide +kernel
theorem dX7_levelAt_26 : decode cX7_levelAt 26 = .ok (.iload_n 1, 1) := by decide +kernel
theorem dX7_levelAt_27 : decode cX7_levelAt 27 = .ok (.bipush 11, 2) := by decide +kernel
theorem dX7_levelAt_29 : decode cX7_levelAt 29 = .ok (.invokevirtual 132, 3) := by decide +kernel
theorem dX7_levelAt_32 : decode cX7_levelAt 32 = .ok (.aload_n 0, 1) := by decide +kernel
theorem dX7_levelAt_33 : decode cX7_levelAt 33 = .ok (.iload_n 1, 1) := by decide +kernel
theorem dX7_levelAt_34 : decode cX7_levelAt 34 = .ok (.bipush 12, 2) := by decide +kernel
theorem dX7_levelAt_36 : decode cX7_levelAt 36 = .ok (.invokevirtual 132, 3) := by decide +kernel
theorem dX7_levelAt_39 : decode cX7_levelAt 39 = .ok (.imul, 1) := by decide +kernel
theorem dX7_levelAt_40 : decode cX7_levelAt 40 = .ok (.aload_n 0, 1) := by decide +kernel
theorem dX7_levelAt_41 : decode cX7_levelAt 41 = .ok (.iload_n 1, 1) := by decide +kernel
theorem dX7_levelAt_42 : decode cX7_levelAt 42 = .ok (.bipush 8, 2) := by decide +kernel
theorem dX7_levelAt_44 : decode cX7_levelAt 44 = .ok (.invokevirtual 132, 3) := by decide +kernel
theorem dX7_levelAt_47 : decode cX7_levelAt 47 = .ok (.idiv, 1) := by decide +kernel
theorem dX7_levelAt_48 : decode cX7_levelAt 48 = .ok (.isub, 1) := by decide +kernel
theorem dX7_levelAt_49 : decode cX7_levelAt 49 = .ok (.ireturn, 1) := by decide +kernel
theorem dX7_levelAt_50 : decode cX7_levelAt 50 = .ok (.aload_n 0, 1) := by decide +kernel
theorem dX7_levelAt_51 : decode cX7_levelAt 51 = .ok (.iload_n 1, 1) := by decide +kernel
theorem dX7_levelAt_52 : decode cX7_levelAt 52 = .ok (.bipush 10, 2) := by decide +kernel
theorem dX7_levelAt_54 : decode cX7_levelAt 54 = .ok (.invokevirtual 132, 3) := by decide +kernel
theorem dX7_levelAt_57 : decode cX7_levelAt 57 = .ok (.istore_n 2, 1) := by decide +kernel
theorem dX7_levelAt_58 : decode cX7_levelAt 58 = .ok (.iload_n 2, 1) := by decide +kernel
theorem dX7_levelAt_59 : decode cX7_levelAt 59 = .ok (.aload_n 0, 1) := by decide +kernel
theorem dX7_levelAt_60 : decode cX7_levelAt 60 = .ok (.iload_n 1, 1) := by decide +kernel
theorem dX7_levelAt_61 : decode cX7_levelAt 61 = .ok (.iconst 5, 1) := by decide +kernel
theorem dX7_levelAt_62 : decode cX7_levelAt 62 = .ok (.invokevirtual 132, 3) := by decide +kernel
theorem dX7_levelAt_65 : decode cX7_levelAt 65 = .ok (.if_icmp .ge 16, 3) := by decide +kernel
theorem dX7_levelAt_68 : decode cX7_levelAt 68 = .ok (.sipush 1000, 3) := by decide +kernel
theorem dX7_levelAt_71 : decode cX7_levelAt 71 = .ok (.iload_n 2, 1) := by decide +kernel
theorem dX7_levelAt_72 : decode cX7_levelAt 72 = .ok (.imul, 1) := by decide +kernel
theorem dX7_levelAt_73 : decode cX7_levelAt 73 = .ok (.aload_n 0, 1) := by decide +kernel
theorem dX7_levelAt_74 : decode cX7_levelAt 74 = .ok (.iload_n 1, 1) := by decide +kernel
theorem dX7_levelAt_75 : decode cX7_levelAt 75 = .ok (.iconst 5, 1) := by decide +kernel
theorem dX7_levelAt_76 : decode cX7_levelAt 76 = .ok (.invokevirtual 132, 3) := by decide +kernel
theorem dX7_levelAt_79 : decode cX7_levelAt 79 = .ok (.idiv, 1) := by decide +kernel
theorem dX7_levelAt_80 : decode cX7_levelAt 80 = .ok (.ireturn, 1) := by decide +kernel
theorem dX7_levelAt_81 : decode cX7_levelAt 81 = .ok (.iload_n 2, 1) := by decide +kernel
theorem dX7_levelAt_82 : decode cX7_levelAt 82 = .ok (.aload_n 0, 1) := by decide +kernel
theorem dX7_levelAt_83 : decode cX7_levelAt 83 = .ok (.iload_n 1, 1) := by decide +kernel
theorem dX7_levelAt_84 : decode cX7_levelAt 84 = .ok (.iconst 5, 1) := by decide +kernel
theorem dX7_levelAt_85 : decode cX7_levelAt 85 = .ok (.invokevirtual 132, 3) := by decide +kernel
theorem dX7_levelAt_88 : decode cX7_levelAt 88 = .ok (.isub, 1) := by decide +kernel
theorem dX7_levelAt_89 : decode cX7_levelAt 89 = .ok (.istore_n 3, 1) := by decide +kernel
theorem dX7_levelAt_90 : decode cX7_levelAt 90 = .ok (.iload_n 3, 1) := by decide +kernel
theorem dX7_levelAt_91 : decode cX7_levelAt 91 = .ok (.aload_n 0, 1) := by decide +kernel
theorem dX7_levelAt_92 : decode cX7_levelAt 92 = .ok (.iload_n 1, 1) := by decide +kernel
theorem dX7_levelAt_93 : decode cX7_levelAt 93 = .ok (.bipush 6, 2) := by decide +kernel
theorem dX7_levelAt_95 : decode cX7_levelAt 95 = .ok (.invokevirtual 132, 3) := by decide +kernel
theorem dX7_levelAt_98 : decode cX7_levelAt 98 = .ok (.if_icmp .ge 31, 3) := by decide +kernel
theorem dX7_levelAt_101 : decode cX7_levelAt 101 = .ok (.sipush 1000, 3) := by decide +kernel
theorem dX7_levelAt_104 : decode cX7_levelAt 104 = .ok (.sipush 1000, 3) := by decide +kernel
theorem dX7_levelAt_107 : decode cX7_levelAt 107 = .ok (.aload_n 0, 1) := by decide +kernel
theorem dX7_levelAt_108 : decode cX7_levelAt 108 = .ok (.iload_n 1, 1) := by decide +kernel
theorem dX7_levelAt_109 : decode cX7_levelAt 109 = .ok (.bipush 7, 2) := by decide +kernel
theorem dX7_levelAt_111 : decode cX7_levelAt 111 = .ok (.invokevirtual 132, 3) := by decide +kernel
theorem dX7_levelAt_114 : decode cX7_levelAt 114 = .ok (.isub, 1) := by decide +kernel
theorem dX7_levelAt_115 : decode cX7_levelAt 115 = .ok (.iload_n 3, 1) := by decide +kernel
theorem dX7_levelAt_116 : decode cX7_levelAt 116 = .ok (.imul, 1) := by decide +kernel
theorem dX7_levelAt_117 : decode cX7_levelAt 117 = .ok (.aload_n 0, 1) := by decide +kernel
theorem dX7_levelAt_118 : decode cX7_levelAt 118 = .ok (.iload_n 1, 1) := by decide +kernel
theorem dX7_levelAt_119 : decode cX7_levelAt 119 = .ok (.bipush 6, 2) := by decide +kernel
theorem dX7_levelAt_121 : decode cX7_levelAt 121 = .ok (.invokevirtual 132, 3) := by decide +kernel
theorem dX7_levelAt_124 : decode cX7_levelAt 124 = .ok (.idiv, 1) := by decide +kernel
theorem dX7_levelAt_125 : decode cX7_levelAt 125 = .ok (.isub, 1) := by decide +kernel
theorem dX7_levelAt_126 : decode cX7_levelAt 126 = .ok (.goto 10, 3) := by decide +kernel
theorem dX7_levelAt_129 : decode cX7_levelAt 129 = .ok (.aload_n 0, 1) := by decide +kernel
theorem dX7_levelAt_130 : decode cX7_levelAt 130 = .ok (.iload_n 1, 1) := by decide +kernel
theorem dX7_levelAt_131 : decode cX7_levelAt 131 = .ok (.bipush 7, 2) := by decide +kernel
theorem dX7_levelAt_133 : decode cX7_levelAt 133 = .ok (.invokevirtual 132, 3) := by decide +kernel
theorem dX7_levelAt_136 : decode cX7_levelAt 136 = .ok (.ireturn, 1) := by decide +kernel
theorem dX7_releases_0 : decode cX7_releases 0 = .ok (.aload_n 0, 1) := by decide +kernel
theorem dX7_releases_1 : decode cX7_releases 1 = .ok (.iload_n 1, 1) := by decide +kernel
theorem dX7_releases_2 : decode cX7_releases 2 = .ok (.invokevirtual 149, 3) := by decide +kernel
theorem dX7_releases_5 : decode cX7_releases 5 = .ok (.istore_n 2, 1) := by decide +kernel
theorem dX7_releases_6 : decode cX7_releases 6 = .ok (.aload_n 0, 1) := by decide +kernel
theorem dX7_releases_7 : decode cX7_releases 7 = .ok (.iload_n 1, 1) := by decide +kernel
theorem dX7_releases_8 : decode cX7_releases 8 = .ok (.iconst 1, 1) := by decide +kernel
theorem dX7_releases_9 : decode cX7_releases 9 = .ok (.iconst 1, 1) := by decide +kernel
theorem dX7_releases_10 : decode cX7_releases 10 = .ok (.invokevirtual 145, 3) := by decide +kernel
theorem dX7_releases_13 : decode cX7_releases 13 = .ok (.aload_n 0, 1) := by decide +kernel
theorem dX7_releases_14 : decode cX7_releases 14 = .ok (.iload_n 1, 1) := by decide +kernel
theorem dX7_releases_15 : decode cX7_releases 15 = .ok (.bipush 11, 2) := by decide +kernel
theorem dX7_releases_17 : decode cX7_releases 17 = .ok (.iload_n 2, 1) := by decide +kernel
theorem dX7_releases_18 : decode cX7_releases 18 = .ok (.invokevirtual 145, 3) := by decide +kernel
theorem dX7_releases_21 : decode cX7_releases 21 = .ok (.aload_n 0, 1) := by decide +kernel
theorem dX7_releases_22 : decode cX7_releases 22 = .ok (.iload_n 1, 1) := by decide +kernel
theorem dX7_releases_23 : decode cX7_releases 23 = .ok (.bipush 12, 2) := by decide +kernel
theorem dX7_releases_25 : decode cX7_releases 25 = .ok (.iconst 0, 1) := by decide +kernel
theorem dX7_releases_26 : decode cX7_releases 26 = .ok (.invokevirtual 145, 3) := by decide +kernel
theorem dX7_releases_29 : decode cX7_releases 29 = .ok (.aload_n 0, 1) := by decide +kernel
theorem dX7_releases_30 : decode cX7_releases 30 = .ok (.iload_n 1, 1) := by decide +kernel
theorem dX7_releases_31 : decode cX7_releases 31 = .ok (.bipush 14, 2) := by decide +kernel
theorem dX7_releases_33 : decode cX7_releases 33 = .ok (.aload_n 0, 1) := by decide +kernel
theorem dX7_releases_34 : decode cX7_releases 34 = .ok (.getfield 75, 3) := by decide +kernel
theorem dX7_releases_37 : decode cX7_releases 37 = .ok (.invokevirtual 145, 3) := by decide +kernel
theorem dX7_releases_40 : decode cX7_releases 40 = .ok (.aload_n 0, 1) := by decide +kernel
theorem dX7_releases_41 : decode cX7_releases 41 = .ok (.dup, 1) := by decide +kernel
theorem dX7_releases_42 : decode cX7_releases 42 = .ok (.getfield 75, 3) := by decide +kernel
theorem dX7_releases_45 : decode cX7_releases 45 = .ok (.iconst 1, 1) := by decide +kernel
theorem dX7_releases_46 : decode cX7_releases 46 = .ok (.iadd, 1) := by decide +kernel
theorem dX7_releases_47 : decode cX7_releases 47 = .ok (.putfield 75, 3) := by decide +kernel
theorem dX7_releases_50 : decode cX7_releases 50 = .ok (.aload_n 0, 1) := by decide +kernel
theorem dX7_releases_51 : decode cX7_releases 51 = .ok (.iload_n 1, 1) := by decide +kernel
theorem dX7_releases_52 : decode cX7_releases 52 = .ok (.bipush 8, 2) := by decide +kernel
theorem dX7_releases_54 : decode cX7_releases 54 = .ok (.invokevirtual 132, 3) := by decide +kernel
theorem dX7_releases_57 : decode cX7_releases 57 = .ok (.ifCond .ne 10, 3) := by decide +kernel
theorem dX7_releases_60 : decode cX7_releases 60 = .ok (.aload_n 0, 1) := by decide +kernel
theorem dX7_releases_61 : decode cX7_releases 61 = .ok (.iload_n 1, 1) := by decide +kernel
theorem dX7_releases_62 : decode cX7_releases 62 = .ok (.iconst 0, 1) := by decide +kernel
theorem dX7_releases_63 : decode cX7_releases 63 = .ok (.iconst 0, 1) := by decide +kernel
theorem dX7_releases_64 : decode cX7_releases 64 = .ok (.invokevirtual 145, 3) := by decide +kernel
theorem dX7_releases_67 : decode cX7_releases 67 = .ok (.return_, 1) := by decide +kernel
theorem dX7_end_0 : decode cX7_end 0 = .ok (.iconst (-1), 1) := by decide +kernel
theorem dX7_end_1 : decode cX7_end 1 = .ok (.istore_n 2, 1) := by decide +kernel
theorem dX7_end_2 : decode cX7_end 2 = .ok (.iconst 0, 1) := by decide +kernel
theorem dX7_end_3 : decode cX7_end 3 = .ok (.istore_n 3, 1) := by decide +kernel
theorem dX7_end_4 : decode cX7_end 4 = .ok (.iload_n 3, 1) := by decide +kernel
theorem dX7_end_5 : decode cX7_end 5 = .ok (.iconst 4, 1) := by decide +kernel
theorem dX7_end_6 : decode cX7_end 6 = .ok (.if_icmp .ge 50, 3) := by decide +kernel
theorem dX7_end_9 : decode cX7_end 9 = .ok (.aload_n 0, 1) := by decide +kernel
theorem dX7_end_10 : decode cX7_end 10 = .ok (.iload_n 3, 1) := by decide +kernel
theorem dX7_end_11 : decode cX7_end 11 = .ok (.invokevirtual 152, 3) := by decide +kernel
theorem dX7_end_14 : decode cX7_end 14 = .ok (.ifCond .eq 36, 3) := by decide +kernel
theorem dX7_end_17 : decode cX7_end 17 = .ok (.aload_n 0, 1) := by decide +kernel
theorem dX7_end_18 : decode cX7_end 18 = .ok (.iload_n 3, 1) := by decide +kernel
theorem dX7_end_19 : decode cX7_end 19 = .ok (.iconst 2, 1) := by decide +kernel
theorem dX7_end_20 : decode cX7_end 20 = .ok (.invokevirtual 132, 3) := by decide +kernel
theorem dX7_end_23 : decode cX7_end 23 = .ok (.iload_n 1, 1) := by decide +kernel
theorem dX7_end_24 : decode cX7_end 24 = .ok (.if_icmp .ne 26, 3) := by decide +kernel
theorem dX7_end_27 : decode cX7_end 27 = .ok (.iload_n 2, 1) := by decide +kernel
theorem dX7_end_28 : decode cX7_end 28 = .ok (.ifCond .lt 20, 3) := by decide +kernel
theorem dX7_end_31 : decode cX7_end 31 = .ok (.aload_n 0, 1) := by decide +kernel
theorem dX7_end_32 : decode cX7_end 32 = .ok (.iload_n 3, 1) := by decide +kernel
theorem dX7_end_33 : decode cX7_end 33 = .ok (.bipush 13, 2) := by decide +kernel
theorem dX7_end_35 : decode cX7_end 35 = .ok (.invokevirtual 132, 3) := by decide +kernel
theorem dX7_end_38 : decode cX7_end 38 = .ok (.aload_n 0, 1) := by decide +kernel
theorem dX7_end_39 : decode cX7_end 39 = .ok (.iload_n 2, 1) := by decide +kernel
theorem dX7_end_40 : decode cX7_end 40 = .ok (.bipush 13, 2) := by decide +kernel
theorem dX7_end_42 : decode cX7_end 42 = .ok (.invokevirtual 132, 3) := by decide +kernel
theorem dX7_end_45 : decode cX7_end 45 = .ok (.if_icmp .ge 5, 3) := by decide +kernel
theorem dX7_end_48 : decode cX7_end 48 = .ok (.iload_n 3, 1) := by decide +kernel
theorem dX7_end_49 : decode cX7_end 49 = .ok (.istore_n 2, 1) := by decide +kernel
theorem dX7_end_50 : decode cX7_end 50 = .ok (.iinc 3 1, 3) := by decide +kernel
theorem dX7_end_53 : decode cX7_end 53 = .ok (.goto (-49), 3) := by decide +kernel
theorem dX7_end_56 : decode cX7_end 56 = .ok (.aload_n 0, 1) := by decide +kernel
theorem dX7_end_57 : decode cX7_end 57 = .ok (.iload_n 1, 1) := by decide +kernel
theorem dX7_end_58 : decode cX7_end 58 = .ok (.iconst 0, 1) := by decide +kernel
theorem dX7_end_59 : decode cX7_end 59 = .ok (.bipush 59, 2) := by decide +kernel
theorem dX7_end_61 : decode cX7_end 61 = .ok (.invokestatic 94, 3) := by decide +kernel
theorem dX7_end_64 : decode cX7_end 64 = .ok (.ifCond .ne 7, 3) := by decide +kernel
theorem dX7_end_67 : decode cX7_end 67 = .ok (.iconst 1, 1) := by decide +kernel
theorem dX7_end_68 : decode cX7_end 68 = .ok (.goto 12, 3) := by decide +kernel
theorem dX7_end_71 : decode cX7_end 71 = .ok (.iload_n 2, 1) := by decide +kernel
theorem dX7_end_72 : decode cX7_end 72 = .ok (.ifCond .ge 7, 3) := by decide +kernel
theorem dX7_end_75 : decode cX7_end 75 = .ok (.iconst 2, 1) := by decide +kernel
theorem dX7_end_76 : decode cX7_end 76 = .ok (.goto 4, 3) := by decide +kernel
theorem dX7_end_79 : decode cX7_end 79 = .ok (.iconst 0, 1) := by decide +kernel
theorem dX7_end_80 : decode cX7_end 80 = .ok (.putfield 47, 3) := by decide +kernel
theorem dX7_end_83 : decode cX7_end 83 = .ok (.aload_n 0, 1) := by decide +kernel
theorem dX7_end_84 : decode cX7_end 84 = .ok (.getfield 47, 3) := by decide +kernel
theorem dX7_end_87 : decode cX7_end 87 = .ok (.ifCond .le 5, 3) := by decide +kernel
theorem dX7_end_90 : decode cX7_end 90 = .ok (.iconst 0, 1) := by decide +kernel
theorem dX7_end_91 : decode cX7_end 91 = .ok (.ireturn, 1) := by decide +kernel
theorem dX7_end_92 : decode cX7_end 92 = .ok (.aload_n 0, 1) := by decide +kernel
theorem dX7_end_93 : decode cX7_end 93 = .ok (.iload_n 2, 1) := by decide +kernel
theorem dX7_end_94 : decode cX7_end 94 = .ok (.invokevirtual 155, 3) := by decide +kernel
theorem dX7_end_97 : decode cX7_end 97 = .ok (.iload_n 2, 1) := by decide +kernel
theorem dX7_end_98 : decode cX7_end 98 = .ok (.ireturn, 1) := by decide +kernel
theorem dX7_endAll_0 : decode cX7_endAll 0 = .ok (.iconst 0, 1) := by decide +kernel
theorem dX7_endAll_1 : decode cX7_endAll 1 = .ok (.istore_n 1, 1) := by decide +kernel
theorem dX7_endAll_2 : decode cX7_endAll 2 = .ok (.iconst 0, 1) := by decide +kernel
theorem dX7_endAll_3 : decode cX7_endAll 3 = .ok (.istore_n 2, 1) := by decide +kernel
theorem dX7_endAll_4 : decode cX7_endAll 4 = .ok (.iload_n 2, 1) := by decide +kernel
theorem dX7_endAll_5 : decode cX7_endAll 5 = .ok (.iconst 4, 1) := by decide +kernel
theorem dX7_endAll_6 : decode cX7_endAll 6 = .ok (.if_icmp .ge 28, 3) := by decide +kernel
theorem dX7_endAll_9 : decode cX7_endAll 9 = .ok (.aload_n 0, 1) := by decide +kernel
theorem dX7_endAll_10 : decode cX7_endAll 10 = .ok (.iload_n 2, 1) := by decide +kernel
theorem dX7_endAll_11 : decode cX7_endAll 11 = .ok (.invokevirtual 152, 3) := by decide +kernel
theorem dX7_endAll_14 : decode cX7_endAll 14 = .ok (.ifCond .ne 6, 3) := by decide +kernel
theorem dX7_endAll_17 : decode cX7_endAll 17 = .ok (.goto 11, 3) := by decide +kernel
theorem dX7_endAll_20 : decode cX7_endAll 20 = .ok (.aload_n 0, 1) := by decide +kernel
theorem dX7_endAll_21 : decode cX7_endAll 21 = .ok (.iload_n 2, 1) := by decide +kernel
theorem dX7_endAll_22 : decode cX7_endAll 22 = .ok (.invokevirtual 155, 3) := by decide +kernel
theorem dX7_endAll_25 : decode cX7_endAll 25 = .ok (.iinc 1 1, 3) := by decide +kernel
theorem dX7_endAll_28 : decode cX7_endAll 28 = .ok (.iinc 2 1, 3) := by decide +kernel
theorem dX7_endAll_31 : decode cX7_endAll 31 = .ok (.goto (-27), 3) := by decide +kernel
theorem dX7_endAll_34 : decode cX7_endAll 34 = .ok (.aload_n 0, 1) := by decide +kernel
theorem dX7_endAll_35 : decode cX7_endAll 35 = .ok (.iload_n 1, 1) := by decide +kernel
theorem dX7_endAll_36 : decode cX7_endAll 36 = .ok (.invokevirtual 125, 3) := by decide +kernel
theorem dX7_endAll_39 : decode cX7_endAll 39 = .ok (.ireturn, 1) := by decide +kernel
theorem dX7_sounding_0 : decode cX7_sounding 0 = .ok (.iconst 0, 1) := by decide +kernel
theorem dX7_sounding_1 : decode cX7_sounding 1 = .ok (.istore_n 1, 1) := by decide +kernel
theorem dX7_sounding_2 : decode cX7_sounding 2 = .ok (.iconst 0, 1) := by decide +kernel
theorem dX7_sounding_3 : decode cX7_sounding 3 = .ok (.istore_n 2, 1) := by decide +kernel
theorem dX7_sounding_4 : decode cX7_sounding 4 = .ok (.iload_n 2, 1) := by decide +kernel
theorem dX7_sounding_5 : decode cX7_sounding 5 = .ok (.iconst 4, 1) := by decide +kernel
theorem dX7_sounding_6 : decode cX7_sounding 6 = .ok (.if_icmp .ge 25, 3) := by decide +kernel
theorem dX7_sounding_9 : decode cX7_sounding 9 = .ok (.iload_n 1, 1) := by decide +kernel
theorem dX7_sounding_10 : decode cX7_sounding 10 = .ok (.aload_n 0, 1) := by decide +kernel
theorem dX7_sounding_11 : decode cX7_sounding 11 = .ok (.iload_n 2, 1) := by decide +kernel
theorem dX7_sounding_12 : decode cX7_sounding 12 = .ok (.invokevirtual 135, 3) := by decide +kernel
theorem dX7_sounding_15 : decode cX7_sounding 15 = .ok (.ifCond .eq 7, 3) := by decide +kernel
theorem dX7_sounding_18 : decode cX7_sounding 18 = .ok (.iconst 1, 1) := by decide +kernel
theorem dX7_sounding_19 : decode cX7_sounding 19 = .ok (.goto 4, 3) := by decide +kernel
theorem dX7_sounding_22 : decode cX7_sounding 22 = .ok (.iconst 0, 1) := by decide +kernel
theorem dX7_sounding_23 : decode cX7_sounding 23 = .ok (.iadd, 1) := by decide +kernel
theorem dX7_sounding_24 : decode cX7_sounding 24 = .ok (.istore_n 1, 1) := by decide +kernel
theorem dX7_sounding_25 : decode cX7_sounding 25 = .ok (.iinc 2 1, 3) := by decide +kernel
theorem dX7_sounding_28 : decode cX7_sounding 28 = .ok (.goto (-24), 3) := by decide +kernel
theorem dX7_sounding_31 : decode cX7_sounding 31 = .ok (.aload_n 0, 1) := by decide +kernel
theorem dX7_sounding_32 : decode cX7_sounding 32 = .ok (.iload_n 1, 1) := by decide +kernel
theorem dX7_sounding_33 : decode cX7_sounding 33 = .ok (.invokevirtual 125, 3) := by decide +kernel
theorem dX7_sounding_36 : decode cX7_sounding 36 = .ok (.ireturn, 1) := by decide +kernel
theorem dX7_isVoice_0 : decode cX7_isVoice 0 = .ok (.iload_n 0, 1) := by decide +kernel
theorem dX7_isVoice_1 : decode cX7_isVoice 1 = .ok (.iconst 0, 1) := by decide +kernel
theorem dX7_isVoice_2 : decode cX7_isVoice 2 = .ok (.iconst 3, 1) := by decide +kernel
theorem dX7_isVoice_3 : decode cX7_isVoice 3 = .ok (.invokestatic 94, 3) := by decide +kernel
theorem dX7_isVoice_6 : decode cX7_isVoice 6 = .ok (.ireturn, 1) := by decide +kernel
theorem dX7_stateOf_0 : decode cX7_stateOf 0 = .ok (.aload_n 0, 1) := by decide +kernel
theorem dX7_stateOf_1 : decode cX7_stateOf 1 = .ok (.iload_n 1, 1) := by decide +kernel
theorem dX7_stateOf_2 : decode cX7_stateOf 2 = .ok (.invokestatic 159, 3) := by decide +kernel
theorem dX7_stateOf_5 : decode cX7_stateOf 5 = .ok (.invokevirtual 121, 3) := by decide +kernel
theorem dX7_stateOf_8 : decode cX7_stateOf 8 = .ok (.ifCond .le 6, 3) := by decide +kernel
theorem dX7_stateOf_11 : decode cX7_stateOf 11 = .ok (.bipush 97, 2) := by decide +kernel
theorem dX7_stateOf_13 : decode cX7_stateOf 13 = .ok (.ireturn, 1) := by decide +kernel
theorem dX7_stateOf_14 : decode cX7_stateOf 14 = .ok (.aload_n 0, 1) := by decide +kernel
theorem dX7_stateOf_15 : decode cX7_stateOf 15 = .ok (.iload_n 1, 1) := by decide +kernel
theorem dX7_stateOf_16 : decode cX7_stateOf 16 = .ok (.invokevirtual 135, 3) := by decide +kernel
theorem dX7_stateOf_19 : decode cX7_stateOf 19 = .ok (.ifCond .ne 6, 3) := by decide +kernel
theorem dX7_stateOf_22 : decode cX7_stateOf 22 = .ok (.bipush 102, 2) := by decide +kernel
theorem dX7_stateOf_24 : decode cX7_stateOf 24 = .ok (.ireturn, 1) := by decide +kernel
theorem dX7_stateOf_25 : decode cX7_stateOf 25 = .ok (.aload_n 0, 1) := by decide +kernel
theorem dX7_stateOf_26 : decode cX7_stateOf 26 = .ok (.iload_n 1, 1) := by decide +kernel
theorem dX7_stateOf_27 : decode cX7_stateOf 27 = .ok (.bipush 10, 2) := by decide +kernel
theorem dX7_stateOf_29 : decode cX7_stateOf 29 = .ok (.invokevirtual 132, 3) := by decide +kernel
theorem dX7_stateOf_32 : decode cX7_stateOf 32 = .ok (.istore_n 2, 1) := by decide +kernel
theorem dX7_stateOf_33 : decode cX7_stateOf 33 = .ok (.aload_n 0, 1) := by decide +kernel
theorem dX7_stateOf_34 : decode cX7_stateOf 34 = .ok (.iload_n 1, 1) := by decide +kernel
theorem dX7_stateOf_35 : decode cX7_stateOf 35 = .ok (.invokevirtual 138, 3) := by decide +kernel
theorem dX7_stateOf_38 : decode cX7_stateOf 38 = .ok (.ifCond .eq 8, 3) := by decide +kernel
theorem dX7_stateOf_41 : decode cX7_stateOf 41 = .ok (.bipush 114, 2) := by decide +kernel
theorem dX7_stateOf_43 : decode cX7_stateOf 43 = .ok (.goto 43, 3) := by decide +kernel
theorem dX7_stateOf_46 : decode cX7_stateOf 46 = .ok (.iload_n 2, 1) := by decide +kernel
theorem dX7_stateOf_47 : decode cX7_stateOf 47 = .ok (.aload_n 0, 1) := by decide +kernel
theorem dX7_stateOf_48 : decode cX7_stateOf 48 = .ok (.iload_n 1, 1) := by decide +kernel
theorem dX7_stateOf_49 : decode cX7_stateOf 49 = .ok (.iconst 5, 1) := by decide +kernel
theorem dX7_stateOf_50 : decode cX7_stateOf 50 = .ok (.invokevirtual 132, 3) := by decide +kernel
theorem dX7_stateOf_53 : decode cX7_stateOf 53 = .ok (.if_icmp .ge 8, 3) := by decide +kernel
theorem dX7_stateOf_56 : decode cX7_stateOf 56 = .ok (.bipush 97, 2) := by decide +kernel
theorem dX7_stateOf_58 : decode cX7_stateOf 58 = .ok (.goto 28, 3) := by decide +kernel
theorem dX7_stateOf_61 : decode cX7_stateOf 61 = .ok (.iload_n 2, 1) := by decide +kernel
theorem dX7_stateOf_62 : decode cX7_stateOf 62 = .ok (.aload_n 0, 1) := by decide +kernel
theorem dX7_stateOf_63 : decode cX7_stateOf 63 = .ok (.iload_n 1, 1) := by decide +kernel
theorem dX7_stateOf_64 : decode cX7_stateOf 64 = .ok (.iconst 5, 1) := by decide +kernel
theorem dX7_stateOf_65 : decode cX7_stateOf 65 = .ok (.invokevirtual 132, 3) := by decide +kernel
theorem dX7_stateOf_68 : decode cX7_stateOf 68 = .ok (.aload_n 0, 1) := by decide +kernel
theorem dX7_stateOf_69 : decode cX7_stateOf 69 = .ok (.iload_n 1, 1) := by decide +kernel
theorem dX7_stateOf_70 : decode cX7_stateOf 70 = .ok (.bipush 6, 2) := by decide +kernel
theorem dX7_stateOf_72 : decode cX7_stateOf 72 = .ok (.invokevirtual 132, 3) := by decide +kernel
theorem dX7_stateOf_75 : decode cX7_stateOf 75 = .ok (.iadd, 1) := by decide +kernel
theorem dX7_stateOf_76 : decode cX7_stateOf 76 = .ok (.if_icmp .ge 8, 3) := by decide +kernel
theorem dX7_stateOf_79 : decode cX7_stateOf 79 = .ok (.bipush 100, 2) := by decide +kernel
theorem dX7_stateOf_81 : decode cX7_stateOf 81 = .ok (.goto 5, 3) := by decide +kernel
theorem dX7_stateOf_84 : decode cX7_stateOf 84 = .ok (.bipush 115, 2) := by decide +kernel
theorem dX7_stateOf_86 : decode cX7_stateOf 86 = .ok (.ireturn, 1) := by decide +kernel
theorem dX7_isSilent_0 : decode cX7_isSilent 0 = .ok (.aload_n 0, 1) := by decide +kernel
theorem dX7_isSilent_1 : decode cX7_isSilent 1 = .ok (.iload_n 1, 1) := by decide +kernel
theorem dX7_isSilent_2 : decode cX7_isSilent 2 = .ok (.invokestatic 159, 3) := by decide +kernel
theorem dX7_isSilent_5 : decode cX7_isSilent 5 = .ok (.ifCond .ne 7, 3) := by decide +kernel
theorem dX7_isSilent_8 : decode cX7_isSilent 8 = .ok (.iconst 1, 1) := by decide +kernel
theorem dX7_isSilent_9 : decode cX7_isSilent 9 = .ok (.goto 16, 3) := by decide +kernel
theorem dX7_isSilent_12 : decode cX7_isSilent 12 = .ok (.aload_n 0, 1) := by decide +kernel
theorem dX7_isSilent_13 : decode cX7_isSilent 13 = .ok (.iload_n 1, 1) := by decide +kernel
theorem dX7_isSilent_14 : decode cX7_isSilent 14 = .ok (.invokevirtual 135, 3) := by decide +kernel
theorem dX7_isSilent_17 : decode cX7_isSilent 17 = .ok (.ifCond .ne 7, 3) := by decide +kernel
