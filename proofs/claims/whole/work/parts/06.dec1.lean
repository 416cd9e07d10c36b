theorem d_O_init_0 : decode b_O_init 0 = .ok (.aload_n 0, 1) := by decide +kernel
theorem d_O_init_1 : decode b_O_init 1 = .ok (.invokespecial 3, 3) := by decide +kernel
theorem d_O_init_4 : decode b_O_init 4 = .ok (.aload_n 0, 1) := by decide +kernel
theorem d_O_init_5 : decode b_O_init 5 = .ok (.sipush 144, 3) := by decide +kernel
theorem d_O_init_8 : decode b_O_init 8 = .ok (.newarray .boolean, 2) := by decide +kernel
theorem d_O_init_10 : decode b_O_init 10 = .ok (.putfield 9, 3) := by decide +kernel
theorem d_O_init_13 : decode b_O_init 13 = .ok (.aload_n 0, 1) := by decide +kernel
theorem d_O_init_14 : decode b_O_init 14 = .ok (.sipush 144, 3) := by decide +kernel
theorem d_O_init_17 : decode b_O_init 17 = .ok (.newarray .double, 2) := by decide +kernel
theorem d_O_init_19 : decode b_O_init 19 = .ok (.putfield 15, 3) := by decide +kernel
theorem d_O_init_22 : decode b_O_init 22 = .ok (.return_, 1) := by decide +kernel
theorem d_O_empty_0 : decode b_O_empty 0 = .ok (.iconst 0, 1) := by decide +kernel
theorem d_O_empty_1 : decode b_O_empty 1 = .ok (.istore_n 1, 1) := by decide +kernel
theorem d_O_empty_2 : decode b_O_empty 2 = .ok (.iload_n 1, 1) := by decide +kernel
theorem d_O_empty_3 : decode b_O_empty 3 = .ok (.sipush 144, 3) := by decide +kernel
theorem d_O_empty_6 : decode b_O_empty 6 = .ok (.if_icmp .ge 16, 3) := by decide +kernel
theorem d_O_empty_9 : decode b_O_empty 9 = .ok (.aload_n 0, 1) := by decide +kernel
theorem d_O_empty_10 : decode b_O_empty 10 = .ok (.getfield 9, 3) := by decide +kernel
theorem d_O_empty_13 : decode b_O_empty 13 = .ok (.iload_n 1, 1) := by decide +kernel
theorem d_O_empty_14 : decode b_O_empty 14 = .ok (.iconst 0, 1) := by decide +kernel
theorem d_O_empty_15 : decode b_O_empty 15 = .ok (.bastore, 1) := by decide +kernel
theorem d_O_empty_16 : decode b_O_empty 16 = .ok (.iinc 1 1, 3) := by decide +kernel
theorem d_O_empty_19 : decode b_O_empty 19 = .ok (.goto (-17), 3) := by decide +kernel
theorem d_O_empty_22 : decode b_O_empty 22 = .ok (.return_, 1) := by decide +kernel
theorem d_O_put_0 : decode b_O_put 0 = .ok (.aload_n 0, 1) := by decide +kernel
theorem d_O_put_1 : decode b_O_put 1 = .ok (.getfield 15, 3) := by decide +kernel
theorem d_O_put_4 : decode b_O_put 4 = .ok (.iload_n 2, 1) := by decide +kernel
theorem d_O_put_5 : decode b_O_put 5 = .ok (.bipush 12, 2) := by decide +kernel
theorem d_O_put_7 : decode b_O_put 7 = .ok (.imul, 1) := by decide +kernel
theorem d_O_put_8 : decode b_O_put 8 = .ok (.iload_n 1, 1) := by decide +kernel
theorem d_O_put_9 : decode b_O_put 9 = .ok (.iadd, 1) := by decide +kernel
theorem d_O_put_10 : decode b_O_put 10 = .ok (.dload_n 3, 1) := by decide +kernel
theorem d_O_put_11 : decode b_O_put 11 = .ok (.dastore, 1) := by decide +kernel
theorem d_O_put_12 : decode b_O_put 12 = .ok (.aload_n 0, 1) := by decide +kernel
theorem d_O_put_13 : decode b_O_put 13 = .ok (.getfield 9, 3) := by decide +kernel
theorem d_O_put_16 : decode b_O_put 16 = .ok (.iload_n 2, 1) := by decide +kernel
theorem d_O_put_17 : decode b_O_put 17 = .ok (.bipush 12, 2) := by decide +kernel
theorem d_O_put_19 : decode b_O_put 19 = .ok (.imul, 1) := by decide +kernel
theorem d_O_put_20 : decode b_O_put 20 = .ok (.iload_n 1, 1) := by decide +kernel
theorem d_O_put_21 : decode b_O_put 21 = .ok (.iadd, 1) := by decide +kernel
theorem d_O_put_22 : decode b_O_put 22 = .ok (.iconst 1, 1) := by decide +kernel
theorem d_O_put_23 : decode b_O_put 23 = .ok (.bastore, 1) := by decide +kernel
theorem d_O_put_24 : decode b_O_put 24 = .ok (.return_, 1) := by decide +kernel
theorem d_O_deliverCombined_0 : decode b_O_deliverCombined 0 = .ok (.iconst 0, 1) := by decide +kernel
theorem d_O_deliverCombined_1 : decode b_O_deliverCombined 1 = .ok (.istore_n 3, 1) := by decide +kernel
theorem d_O_deliverCombined_2 : decode b_O_deliverCombined 2 = .ok (.iload_n 3, 1) := by decide +kernel
theorem d_O_deliverCombined_3 : decode b_O_deliverCombined 3 = .ok (.bipush 12, 2) := by decide +kernel
theorem d_O_deliverCombined_5 : decode b_O_deliverCombined 5 = .ok (.if_icmp .ge 33, 3) := by decide +kernel
theorem d_O_deliverCombined_8 : decode b_O_deliverCombined 8 = .ok (.iconst 0, 1) := by decide +kernel
theorem d_O_deliverCombined_9 : decode b_O_deliverCombined 9 = .ok (.istore 4, 2) := by decide +kernel
theorem d_O_deliverCombined_11 : decode b_O_deliverCombined 11 = .ok (.iload 4, 2) := by decide +kernel
theorem d_O_deliverCombined_13 : decode b_O_deliverCombined 13 = .ok (.iconst 3, 1) := by decide +kernel
theorem d_O_deliverCombined_14 : decode b_O_deliverCombined 14 = .ok (.if_icmp .ge 18, 3) := by decide +kernel
theorem d_O_deliverCombined_17 : decode b_O_deliverCombined 17 = .ok (.aload_n 0, 1) := by decide +kernel
theorem d_O_deliverCombined_18 : decode b_O_deliverCombined 18 = .ok (.aload_n 1, 1) := by decide +kernel
theorem d_O_deliverCombined_19 : decode b_O_deliverCombined 19 = .ok (.iload_n 2, 1) := by decide +kernel
theorem d_O_deliverCombined_20 : decode b_O_deliverCombined 20 = .ok (.iload_n 3, 1) := by decide +kernel
theorem d_O_deliverCombined_21 : decode b_O_deliverCombined 21 = .ok (.iload 4, 2) := by decide +kernel
theorem d_O_deliverCombined_23 : decode b_O_deliverCombined 23 = .ok (.invokevirtual 25, 3) := by decide +kernel
theorem d_O_deliverCombined_26 : decode b_O_deliverCombined 26 = .ok (.iinc 4 1, 3) := by decide +kernel
theorem d_O_deliverCombined_29 : decode b_O_deliverCombined 29 = .ok (.goto (-18), 3) := by decide +kernel
theorem d_O_deliverCombined_32 : decode b_O_deliverCombined 32 = .ok (.iinc 3 1, 3) := by decide +kernel
theorem d_O_deliverCombined_35 : decode b_O_deliverCombined 35 = .ok (.goto (-33), 3) := by decide +kernel
theorem d_O_deliverCombined_38 : decode b_O_deliverCombined 38 = .ok (.return_, 1) := by decide +kernel
theorem d_O_deliverOfWorker_0 : decode b_O_deliverOfWorker 0 = .ok (.iconst 0, 1) := by decide +kernel
theorem d_O_deliverOfWorker_1 : decode b_O_deliverOfWorker 1 = .ok (.istore 5, 2) := by decide +kernel
theorem d_O_deliverOfWorker_3 : decode b_O_deliverOfWorker 3 = .ok (.dconst 0, 1) := by decide +kernel
theorem d_O_deliverOfWorker_4 : decode b_O_deliverOfWorker 4 = .ok (.dstore 6, 2) := by decide +kernel
theorem d_O_deliverOfWorker_6 : decode b_O_deliverOfWorker 6 = .ok (.iload 4, 2) := by decide +kernel
theorem d_O_deliverOfWorker_8 : decode b_O_deliverOfWorker 8 = .ok (.istore 8, 2) := by decide +kernel
theorem d_O_deliverOfWorker_10 : decode b_O_deliverOfWorker 10 = .ok (.iload 8, 2) := by decide +kernel
theorem d_O_deliverOfWorker_12 : decode b_O_deliverOfWorker 12 = .ok (.bipush 12, 2) := by decide +kernel
theorem d_O_deliverOfWorker_14 : decode b_O_deliverOfWorker 14 = .ok (.if_icmp .ge 61, 3) := by decide +kernel
theorem d_O_deliverOfWorker_17 : decode b_O_deliverOfWorker 17 = .ok (.iload_n 3, 1) := by decide +kernel
theorem d_O_deliverOfWorker_18 : decode b_O_deliverOfWorker 18 = .ok (.bipush 12, 2) := by decide +kernel
theorem d_O_deliverOfWorker_20 : decode b_O_deliverOfWorker 20 = .ok (.imul, 1) := by decide +kernel
theorem d_O_deliverOfWorker_21 : decode b_O_deliverOfWorker 21 = .ok (.iload 8, 2) := by decide +kernel
theorem d_O_deliverOfWorker_23 : decode b_O_deliverOfWorker 23 = .ok (.iadd, 1) := by decide +kernel
theorem d_O_deliverOfWorker_24 : decode b_O_deliverOfWorker 24 = .ok (.istore 9, 2) := by decide +kernel
theorem d_O_deliverOfWorker_26 : decode b_O_deliverOfWorker 26 = .ok (.aload_n 0, 1) := by decide +kernel
theorem d_O_deliverOfWorker_27 : decode b_O_deliverOfWorker 27 = .ok (.getfield 9, 3) := by decide +kernel
theorem d_O_deliverOfWorker_30 : decode b_O_deliverOfWorker 30 = .ok (.iload 9, 2) := by decide +kernel
theorem d_O_deliverOfWorker_32 : decode b_O_deliverOfWorker 32 = .ok (.baload, 1) := by decide +kernel
theorem d_O_deliverOfWorker_33 : decode b_O_deliverOfWorker 33 = .ok (.ifCond .eq 36, 3) := by decide +kernel
theorem d_O_deliverOfWorker_36 : decode b_O_deliverOfWorker 36 = .ok (.iload 5, 2) := by decide +kernel
theorem d_O_deliverOfWorker_38 : decode b_O_deliverOfWorker 38 = .ok (.ifCond .eq 19, 3) := by decide +kernel
theorem d_O_deliverOfWorker_41 : decode b_O_deliverOfWorker 41 = .ok (.iload_n 2, 1) := by decide +kernel
theorem d_O_deliverOfWorker_42 : decode b_O_deliverOfWorker 42 = .ok (.dload 6, 2) := by decide +kernel
theorem d_O_deliverOfWorker_44 : decode b_O_deliverOfWorker 44 = .ok (.aload_n 0, 1) := by decide +kernel
theorem d_O_deliverOfWorker_45 : decode b_O_deliverOfWorker 45 = .ok (.getfield 15, 3) := by decide +kernel
theorem d_O_deliverOfWorker_48 : decode b_O_deliverOfWorker 48 = .ok (.iload 9, 2) := by decide +kernel
theorem d_O_deliverOfWorker_50 : decode b_O_deliverOfWorker 50 = .ok (.daload, 1) := by decide +kernel
theorem d_O_deliverOfWorker_51 : decode b_O_deliverOfWorker 51 = .ok (.invokestatic 29, 3) := by decide +kernel
theorem d_O_deliverOfWorker_54 : decode b_O_deliverOfWorker 54 = .ok (.goto 10, 3) := by decide +kernel
theorem d_O_deliverOfWorker_57 : decode b_O_deliverOfWorker 57 = .ok (.aload_n 0, 1) := by decide +kernel
theorem d_O_deliverOfWorker_58 : decode b_O_deliverOfWorker 58 = .ok (.getfield 15, 3) := by decide +kernel
theorem d_O_deliverOfWorker_61 : decode b_O_deliverOfWorker 61 = .ok (.iload 9, 2) := by decide +kernel
theorem d_O_deliverOfWorker_63 : decode b_O_deliverOfWorker 63 = .ok (.daload, 1) := by decide +kernel
theorem d_O_deliverOfWorker_64 : decode b_O_deliverOfWorker 64 = .ok (.dstore 6, 2) := by decide +kernel
theorem d_O_deliverOfWorker_66 : decode b_O_deliverOfWorker 66 = .ok (.iconst 1, 1) := by decide +kernel
theorem d_O_deliverOfWorker_67 : decode b_O_deliverOfWorker 67 = .ok (.istore 5, 2) := by decide +kernel
theorem d_O_deliverOfWorker_69 : decode b_O_deliverOfWorker 69 = .ok (.iinc 8 3, 3) := by decide +kernel
theorem d_O_deliverOfWorker_72 : decode b_O_deliverOfWorker 72 = .ok (.goto (-62), 3) := by decide +kernel
theorem d_O_deliverOfWorker_75 : decode b_O_deliverOfWorker 75 = .ok (.iload 5, 2) := by decide +kernel
theorem d_O_deliverOfWorker_77 : decode b_O_deliverOfWorker 77 = .ok (.ifCond .eq 10, 3) := by decide +kernel
theorem d_O_deliverOfWorker_80 : decode b_O_deliverOfWorker 80 = .ok (.aload_n 1, 1) := by decide +kernel
theorem d_O_deliverOfWorker_81 : decode b_O_deliverOfWorker 81 = .ok (.iload_n 3, 1) := by decide +kernel
theorem d_O_deliverOfWorker_82 : decode b_O_deliverOfWorker 82 = .ok (.dload 6, 2) := by decide +kernel
theorem d_O_deliverOfWorker_84 : decode b_O_deliverOfWorker 84 = .ok (.invokevirtual 19, 3) := by decide +kernel
theorem d_O_deliverOfWorker_87 : decode b_O_deliverOfWorker 87 = .ok (.return_, 1) := by decide +kernel
theorem d_O_deliverEach_0 : decode b_O_deliverEach 0 = .ok (.iconst 0, 1) := by decide +kernel
theorem d_O_deliverEach_1 : decode b_O_deliverEach 1 = .ok (.istore_n 2, 1) := by decide +kernel
theorem d_O_deliverEach_2 : decode b_O_deliverEach 2 = .ok (.iload_n 2, 1) := by decide +kernel
theorem d_O_deliverEach_3 : decode b_O_deliverEach 3 = .ok (.bipush 12, 2) := by decide +kernel
theorem d_O_deliverEach_5 : decode b_O_deliverEach 5 = .ok (.if_icmp .ge 53, 3) := by decide +kernel
theorem d_O_deliverEach_8 : decode b_O_deliverEach 8 = .ok (.iconst 0, 1) := by decide +kernel
theorem d_O_deliverEach_9 : decode b_O_deliverEach 9 = .ok (.istore_n 3, 1) := by decide +kernel
theorem d_O_deliverEach_10 : decode b_O_deliverEach 10 = .ok (.iload_n 3, 1) := by decide +kernel
theorem d_O_deliverEach_11 : decode b_O_deliverEach 11 = .ok (.bipush 12, 2) := by decide +kernel
theorem d_O_deliverEach_13 : decode b_O_deliverEach 13 = .ok (.if_icmp .ge 39, 3) := by decide +kernel
theorem d_O_deliverEach_16 : decode b_O_deliverEach 16 = .ok (.aload_n 0, 1) := by decide +kernel
theorem d_O_deliverEach_17 : decode b_O_deliverEach 17 = .ok (.getfield 9, 3) := by decide +kernel
theorem d_O_deliverEach_20 : decode b_O_deliverEach 20 = .ok (.iload_n 2, 1) := by decide +kernel
theorem d_O_deliverEach_21 : decode b_O_deliverEach 21 = .ok (.bipush 12, 2) := by decide +kernel
theorem d_O_deliverEach_23 : decode b_O_deliverEach 23 = .ok (.imul, 1) := by decide +kernel
theorem d_O_deliverEach_24 : decode b_O_deliverEach 24 = .ok (.iload_n 3, 1) := by decide +kernel
theorem d_O_deliverEach_25 : decode b_O_deliverEach 25 = .ok (.iadd, 1) := by decide +kernel
theorem d_O_deliverEach_26 : decode b_O_deliverEach 26 = .ok (.baload, 1) := by decide +kernel
theorem d_O_deliverEach_27 : decode b_O_deliverEach 27 = .ok (.ifCond .eq 19, 3) := by decide +kernel
theorem d_O_deliverEach_30 : decode b_O_deliverEach 30 = .ok (.aload_n 1, 1) := by decide +kernel
theorem d_O_deliverEach_31 : decode b_O_deliverEach 31 = .ok (.iload_n 2, 1) := by decide +kernel
theorem d_O_deliverEach_32 : decode b_O_deliverEach 32 = .ok (.aload_n 0, 1) := by decide +kernel
theorem d_O_deliverEach_33 : decode b_O_deliverEach 33 = .ok (.getfield 15, 3) := by decide +kernel
theorem d_O_deliverEach_36 : decode b_O_deliverEach 36 = .ok (.iload_n 2, 1) := by decide +kernel
theorem d_O_deliverEach_37 : decode b_O_deliverEach 37 = .ok (.bipush 12, 2) := by decide +kernel
theorem d_O_deliverEach_39 : decode b_O_deliverEach 39 = .ok (.imul, 1) := by decide +kernel
theorem d_O_deliverEach_40 : decode b_O_deliverEach 40 = .ok (.iload_n 3, 1) := by decide +kernel
theorem d_O_deliverEach_41 : decode b_O_deliverEach 41 = .ok (.iadd, 1) := by decide +kernel
theorem d_O_deliverEach_42 : decode b_O_deliverEach 42 = .ok (.daload, 1) := by decide +kernel
theorem d_O_deliverEach_43 : decode b_O_deliverEach 43 = .ok (.invokevirtual 19, 3) := by decide +kernel
theorem d_O_deliverEach_46 : decode b_O_deliverEach 46 = .ok (.iinc 3 1, 3) := by decide +kernel
theorem d_O_deliverEach_49 : decode b_O_deliverEach 49 = .ok (.goto (-39), 3) := by decide +kernel
theorem d_O_deliverEach_52 : decode b_O_deliverEach 52 = .ok (.iinc 2 1, 3) := by decide +kernel
theorem d_O_deliverEach_55 : decode b_O_deliverEach 55 = .ok (.goto (-53), 3) := by decide +kernel
theorem d_O_deliverEach_58 : decode b_O_deliverEach 58 = .ok (.return_, 1) := by decide +kernel
