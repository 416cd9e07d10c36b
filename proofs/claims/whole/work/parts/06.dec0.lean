theorem d_G_init_0 : decode b_G_init 0 = .ok (.aload_n 0, 1) := by decide +kernel
theorem d_G_init_1 : decode b_G_init 1 = .ok (.invokespecial 3, 3) := by decide +kernel
theorem d_G_init_4 : decode b_G_init 4 = .ok (.aload_n 0, 1) := by decide +kernel
theorem d_G_init_5 : decode b_G_init 5 = .ok (.bipush 12, 2) := by decide +kernel
theorem d_G_init_7 : decode b_G_init 7 = .ok (.newarray .boolean, 2) := by decide +kernel
theorem d_G_init_9 : decode b_G_init 9 = .ok (.putfield 9, 3) := by decide +kernel
theorem d_G_init_12 : decode b_G_init 12 = .ok (.aload_n 0, 1) := by decide +kernel
theorem d_G_init_13 : decode b_G_init 13 = .ok (.bipush 12, 2) := by decide +kernel
theorem d_G_init_15 : decode b_G_init 15 = .ok (.newarray .double, 2) := by decide +kernel
theorem d_G_init_17 : decode b_G_init 17 = .ok (.putfield 15, 3) := by decide +kernel
theorem d_G_init_20 : decode b_G_init 20 = .ok (.aload_n 0, 1) := by decide +kernel
theorem d_G_init_21 : decode b_G_init 21 = .ok (.bipush 12, 2) := by decide +kernel
theorem d_G_init_23 : decode b_G_init 23 = .ok (.newarray .int, 2) := by decide +kernel
theorem d_G_init_25 : decode b_G_init 25 = .ok (.putfield 19, 3) := by decide +kernel
theorem d_G_init_28 : decode b_G_init 28 = .ok (.aload_n 0, 1) := by decide +kernel
theorem d_G_init_29 : decode b_G_init 29 = .ok (.sipush 144, 3) := by decide +kernel
theorem d_G_init_32 : decode b_G_init 32 = .ok (.newarray .int, 2) := by decide +kernel
theorem d_G_init_34 : decode b_G_init 34 = .ok (.putfield 23, 3) := by decide +kernel
theorem d_G_init_37 : decode b_G_init 37 = .ok (.aload_n 0, 1) := by decide +kernel
theorem d_G_init_38 : decode b_G_init 38 = .ok (.sipush 144, 3) := by decide +kernel
theorem d_G_init_41 : decode b_G_init 41 = .ok (.newarray .double, 2) := by decide +kernel
theorem d_G_init_43 : decode b_G_init 43 = .ok (.putfield 26, 3) := by decide +kernel
theorem d_G_init_46 : decode b_G_init 46 = .ok (.aload_n 0, 1) := by decide +kernel
theorem d_G_init_47 : decode b_G_init 47 = .ok (.bipush 12, 2) := by decide +kernel
theorem d_G_init_49 : decode b_G_init 49 = .ok (.newarray .boolean, 2) := by decide +kernel
theorem d_G_init_51 : decode b_G_init 51 = .ok (.putfield 29, 3) := by decide +kernel
theorem d_G_init_54 : decode b_G_init 54 = .ok (.aload_n 0, 1) := by decide +kernel
theorem d_G_init_55 : decode b_G_init 55 = .ok (.bipush 12, 2) := by decide +kernel
theorem d_G_init_57 : decode b_G_init 57 = .ok (.newarray .int, 2) := by decide +kernel
theorem d_G_init_59 : decode b_G_init 59 = .ok (.putfield 32, 3) := by decide +kernel
theorem d_G_init_62 : decode b_G_init 62 = .ok (.aload_n 0, 1) := by decide +kernel
theorem d_G_init_63 : decode b_G_init 63 = .ok (.sipush 144, 3) := by decide +kernel
theorem d_G_init_66 : decode b_G_init 66 = .ok (.newarray .double, 2) := by decide +kernel
theorem d_G_init_68 : decode b_G_init 68 = .ok (.putfield 35, 3) := by decide +kernel
theorem d_G_init_71 : decode b_G_init 71 = .ok (.aload_n 0, 1) := by decide +kernel
theorem d_G_init_72 : decode b_G_init 72 = .ok (.iconst 0, 1) := by decide +kernel
theorem d_G_init_73 : decode b_G_init 73 = .ok (.putfield 38, 3) := by decide +kernel
theorem d_G_init_76 : decode b_G_init 76 = .ok (.aload_n 0, 1) := by decide +kernel
theorem d_G_init_77 : decode b_G_init 77 = .ok (.dconst 0, 1) := by decide +kernel
theorem d_G_init_78 : decode b_G_init 78 = .ok (.putfield 42, 3) := by decide +kernel
theorem d_G_init_81 : decode b_G_init 81 = .ok (.return_, 1) := by decide +kernel
theorem d_G_countThere_0 : decode b_G_countThere 0 = .ok (.iconst 0, 1) := by decide +kernel
theorem d_G_countThere_1 : decode b_G_countThere 1 = .ok (.istore_n 1, 1) := by decide +kernel
theorem d_G_countThere_2 : decode b_G_countThere 2 = .ok (.iconst 0, 1) := by decide +kernel
theorem d_G_countThere_3 : decode b_G_countThere 3 = .ok (.istore_n 2, 1) := by decide +kernel
theorem d_G_countThere_4 : decode b_G_countThere 4 = .ok (.iload_n 2, 1) := by decide +kernel
theorem d_G_countThere_5 : decode b_G_countThere 5 = .ok (.bipush 12, 2) := by decide +kernel
theorem d_G_countThere_7 : decode b_G_countThere 7 = .ok (.if_icmp .ge 21, 3) := by decide +kernel
theorem d_G_countThere_10 : decode b_G_countThere 10 = .ok (.aload_n 0, 1) := by decide +kernel
theorem d_G_countThere_11 : decode b_G_countThere 11 = .ok (.getfield 9, 3) := by decide +kernel
theorem d_G_countThere_14 : decode b_G_countThere 14 = .ok (.iload_n 2, 1) := by decide +kernel
theorem d_G_countThere_15 : decode b_G_countThere 15 = .ok (.baload, 1) := by decide +kernel
theorem d_G_countThere_16 : decode b_G_countThere 16 = .ok (.ifCond .eq 6, 3) := by decide +kernel
theorem d_G_countThere_19 : decode b_G_countThere 19 = .ok (.iinc 1 1, 3) := by decide +kernel
theorem d_G_countThere_22 : decode b_G_countThere 22 = .ok (.iinc 2 1, 3) := by decide +kernel
theorem d_G_countThere_25 : decode b_G_countThere 25 = .ok (.goto (-21), 3) := by decide +kernel
theorem d_G_countThere_28 : decode b_G_countThere 28 = .ok (.iload_n 1, 1) := by decide +kernel
theorem d_G_countThere_29 : decode b_G_countThere 29 = .ok (.ireturn, 1) := by decide +kernel
theorem d_G_join_0 : decode b_G_join 0 = .ok (.aload_n 0, 1) := by decide +kernel
theorem d_G_join_1 : decode b_G_join 1 = .ok (.iload_n 1, 1) := by decide +kernel
theorem d_G_join_2 : decode b_G_join 2 = .ok (.iload_n 2, 1) := by decide +kernel
theorem d_G_join_3 : decode b_G_join 3 = .ok (.invokevirtual 56, 3) := by decide +kernel
theorem d_G_join_6 : decode b_G_join 6 = .ok (.istore 5, 2) := by decide +kernel
theorem d_G_join_8 : decode b_G_join 8 = .ok (.aload_n 0, 1) := by decide +kernel
theorem d_G_join_9 : decode b_G_join 9 = .ok (.getfield 23, 3) := by decide +kernel
theorem d_G_join_12 : decode b_G_join 12 = .ok (.iload_n 1, 1) := by decide +kernel
theorem d_G_join_13 : decode b_G_join 13 = .ok (.bipush 12, 2) := by decide +kernel
theorem d_G_join_15 : decode b_G_join 15 = .ok (.imul, 1) := by decide +kernel
theorem d_G_join_16 : decode b_G_join 16 = .ok (.iload 5, 2) := by decide +kernel
theorem d_G_join_18 : decode b_G_join 18 = .ok (.iadd, 1) := by decide +kernel
theorem d_G_join_19 : decode b_G_join 19 = .ok (.iload_n 2, 1) := by decide +kernel
theorem d_G_join_20 : decode b_G_join 20 = .ok (.iastore, 1) := by decide +kernel
theorem d_G_join_21 : decode b_G_join 21 = .ok (.aload_n 0, 1) := by decide +kernel
theorem d_G_join_22 : decode b_G_join 22 = .ok (.getfield 26, 3) := by decide +kernel
theorem d_G_join_25 : decode b_G_join 25 = .ok (.iload_n 1, 1) := by decide +kernel
theorem d_G_join_26 : decode b_G_join 26 = .ok (.bipush 12, 2) := by decide +kernel
theorem d_G_join_28 : decode b_G_join 28 = .ok (.imul, 1) := by decide +kernel
theorem d_G_join_29 : decode b_G_join 29 = .ok (.iload 5, 2) := by decide +kernel
theorem d_G_join_31 : decode b_G_join 31 = .ok (.iadd, 1) := by decide +kernel
theorem d_G_join_32 : decode b_G_join 32 = .ok (.dload_n 3, 1) := by decide +kernel
theorem d_G_join_33 : decode b_G_join 33 = .ok (.dastore, 1) := by decide +kernel
theorem d_G_join_34 : decode b_G_join 34 = .ok (.iload 5, 2) := by decide +kernel
theorem d_G_join_36 : decode b_G_join 36 = .ok (.aload_n 0, 1) := by decide +kernel
theorem d_G_join_37 : decode b_G_join 37 = .ok (.getfield 19, 3) := by decide +kernel
theorem d_G_join_40 : decode b_G_join 40 = .ok (.iload_n 1, 1) := by decide +kernel
theorem d_G_join_41 : decode b_G_join 41 = .ok (.iaload, 1) := by decide +kernel
theorem d_G_join_42 : decode b_G_join 42 = .ok (.if_icmp .ne 13, 3) := by decide +kernel
theorem d_G_join_45 : decode b_G_join 45 = .ok (.aload_n 0, 1) := by decide +kernel
theorem d_G_join_46 : decode b_G_join 46 = .ok (.getfield 19, 3) := by decide +kernel
theorem d_G_join_49 : decode b_G_join 49 = .ok (.iload_n 1, 1) := by decide +kernel
theorem d_G_join_50 : decode b_G_join 50 = .ok (.dup2, 1) := by decide +kernel
theorem d_G_join_51 : decode b_G_join 51 = .ok (.iaload, 1) := by decide +kernel
theorem d_G_join_52 : decode b_G_join 52 = .ok (.iconst 1, 1) := by decide +kernel
theorem d_G_join_53 : decode b_G_join 53 = .ok (.iadd, 1) := by decide +kernel
theorem d_G_join_54 : decode b_G_join 54 = .ok (.iastore, 1) := by decide +kernel
theorem d_G_join_55 : decode b_G_join 55 = .ok (.return_, 1) := by decide +kernel
theorem d_G_placeOf_0 : decode b_G_placeOf 0 = .ok (.iconst 0, 1) := by decide +kernel
theorem d_G_placeOf_1 : decode b_G_placeOf 1 = .ok (.istore_n 3, 1) := by decide +kernel
theorem d_G_placeOf_2 : decode b_G_placeOf 2 = .ok (.iload_n 3, 1) := by decide +kernel
theorem d_G_placeOf_3 : decode b_G_placeOf 3 = .ok (.aload_n 0, 1) := by decide +kernel
theorem d_G_placeOf_4 : decode b_G_placeOf 4 = .ok (.getfield 19, 3) := by decide +kernel
theorem d_G_placeOf_7 : decode b_G_placeOf 7 = .ok (.iload_n 1, 1) := by decide +kernel
theorem d_G_placeOf_8 : decode b_G_placeOf 8 = .ok (.iaload, 1) := by decide +kernel
theorem d_G_placeOf_9 : decode b_G_placeOf 9 = .ok (.if_icmp .ge 24, 3) := by decide +kernel
theorem d_G_placeOf_12 : decode b_G_placeOf 12 = .ok (.aload_n 0, 1) := by decide +kernel
theorem d_G_placeOf_13 : decode b_G_placeOf 13 = .ok (.getfield 23, 3) := by decide +kernel
theorem d_G_placeOf_16 : decode b_G_placeOf 16 = .ok (.iload_n 1, 1) := by decide +kernel
theorem d_G_placeOf_17 : decode b_G_placeOf 17 = .ok (.bipush 12, 2) := by decide +kernel
theorem d_G_placeOf_19 : decode b_G_placeOf 19 = .ok (.imul, 1) := by decide +kernel
theorem d_G_placeOf_20 : decode b_G_placeOf 20 = .ok (.iload_n 3, 1) := by decide +kernel
theorem d_G_placeOf_21 : decode b_G_placeOf 21 = .ok (.iadd, 1) := by decide +kernel
theorem d_G_placeOf_22 : decode b_G_placeOf 22 = .ok (.iaload, 1) := by decide +kernel
theorem d_G_placeOf_23 : decode b_G_placeOf 23 = .ok (.iload_n 2, 1) := by decide +kernel
theorem d_G_placeOf_24 : decode b_G_placeOf 24 = .ok (.if_icmp .eq 9, 3) := by decide +kernel
theorem d_G_placeOf_27 : decode b_G_placeOf 27 = .ok (.iinc 3 1, 3) := by decide +kernel
theorem d_G_placeOf_30 : decode b_G_placeOf 30 = .ok (.goto (-28), 3) := by decide +kernel
theorem d_G_placeOf_33 : decode b_G_placeOf 33 = .ok (.iload_n 3, 1) := by decide +kernel
theorem d_G_placeOf_34 : decode b_G_placeOf 34 = .ok (.ireturn, 1) := by decide +kernel
theorem d_G_drop_0 : decode b_G_drop 0 = .ok (.aload_n 0, 1) := by decide +kernel
theorem d_G_drop_1 : decode b_G_drop 1 = .ok (.getfield 9, 3) := by decide +kernel
theorem d_G_drop_4 : decode b_G_drop 4 = .ok (.iload_n 1, 1) := by decide +kernel
theorem d_G_drop_5 : decode b_G_drop 5 = .ok (.iconst 0, 1) := by decide +kernel
theorem d_G_drop_6 : decode b_G_drop 6 = .ok (.bastore, 1) := by decide +kernel
theorem d_G_drop_7 : decode b_G_drop 7 = .ok (.aload_n 0, 1) := by decide +kernel
theorem d_G_drop_8 : decode b_G_drop 8 = .ok (.getfield 29, 3) := by decide +kernel
theorem d_G_drop_11 : decode b_G_drop 11 = .ok (.iload_n 1, 1) := by decide +kernel
theorem d_G_drop_12 : decode b_G_drop 12 = .ok (.iconst 0, 1) := by decide +kernel
theorem d_G_drop_13 : decode b_G_drop 13 = .ok (.bastore, 1) := by decide +kernel
theorem d_G_drop_14 : decode b_G_drop 14 = .ok (.aload_n 0, 1) := by decide +kernel
theorem d_G_drop_15 : decode b_G_drop 15 = .ok (.getfield 19, 3) := by decide +kernel
theorem d_G_drop_18 : decode b_G_drop 18 = .ok (.iload_n 1, 1) := by decide +kernel
theorem d_G_drop_19 : decode b_G_drop 19 = .ok (.iconst 0, 1) := by decide +kernel
theorem d_G_drop_20 : decode b_G_drop 20 = .ok (.iastore, 1) := by decide +kernel
theorem d_G_drop_21 : decode b_G_drop 21 = .ok (.aload_n 0, 1) := by decide +kernel
theorem d_G_drop_22 : decode b_G_drop 22 = .ok (.getfield 32, 3) := by decide +kernel
theorem d_G_drop_25 : decode b_G_drop 25 = .ok (.iload_n 1, 1) := by decide +kernel
theorem d_G_drop_26 : decode b_G_drop 26 = .ok (.iconst 0, 1) := by decide +kernel
theorem d_G_drop_27 : decode b_G_drop 27 = .ok (.iastore, 1) := by decide +kernel
theorem d_G_drop_28 : decode b_G_drop 28 = .ok (.iconst 0, 1) := by decide +kernel
theorem d_G_drop_29 : decode b_G_drop 29 = .ok (.istore_n 2, 1) := by decide +kernel
theorem d_G_drop_30 : decode b_G_drop 30 = .ok (.iconst 0, 1) := by decide +kernel
theorem d_G_drop_31 : decode b_G_drop 31 = .ok (.istore_n 3, 1) := by decide +kernel
theorem d_G_drop_32 : decode b_G_drop 32 = .ok (.iload_n 3, 1) := by decide +kernel
theorem d_G_drop_33 : decode b_G_drop 33 = .ok (.bipush 12, 2) := by decide +kernel
theorem d_G_drop_35 : decode b_G_drop 35 = .ok (.if_icmp .ge 21, 3) := by decide +kernel
theorem d_G_drop_38 : decode b_G_drop 38 = .ok (.aload_n 0, 1) := by decide +kernel
theorem d_G_drop_39 : decode b_G_drop 39 = .ok (.iload_n 3, 1) := by decide +kernel
theorem d_G_drop_40 : decode b_G_drop 40 = .ok (.iload_n 1, 1) := by decide +kernel
theorem d_G_drop_41 : decode b_G_drop 41 = .ok (.invokevirtual 60, 3) := by decide +kernel
theorem d_G_drop_44 : decode b_G_drop 44 = .ok (.ifCond .eq 6, 3) := by decide +kernel
theorem d_G_drop_47 : decode b_G_drop 47 = .ok (.iinc 2 1, 3) := by decide +kernel
theorem d_G_drop_50 : decode b_G_drop 50 = .ok (.iinc 3 1, 3) := by decide +kernel
theorem d_G_drop_53 : decode b_G_drop 53 = .ok (.goto (-21), 3) := by decide +kernel
theorem d_G_drop_56 : decode b_G_drop 56 = .ok (.iload_n 2, 1) := by decide +kernel
theorem d_G_drop_57 : decode b_G_drop 57 = .ok (.ireturn, 1) := by decide +kernel
theorem d_G_cutEdge_0 : decode b_G_cutEdge 0 = .ok (.aload_n 0, 1) := by decide +kernel
theorem d_G_cutEdge_1 : decode b_G_cutEdge 1 = .ok (.iload_n 1, 1) := by decide +kernel
theorem d_G_cutEdge_2 : decode b_G_cutEdge 2 = .ok (.iload_n 2, 1) := by decide +kernel
theorem d_G_cutEdge_3 : decode b_G_cutEdge 3 = .ok (.invokevirtual 56, 3) := by decide +kernel
theorem d_G_cutEdge_6 : decode b_G_cutEdge 6 = .ok (.istore_n 3, 1) := by decide +kernel
theorem d_G_cutEdge_7 : decode b_G_cutEdge 7 = .ok (.iload_n 3, 1) := by decide +kernel
theorem d_G_cutEdge_8 : decode b_G_cutEdge 8 = .ok (.aload_n 0, 1) := by decide +kernel
theorem d_G_cutEdge_9 : decode b_G_cutEdge 9 = .ok (.getfield 19, 3) := by decide +kernel
theorem d_G_cutEdge_12 : decode b_G_cutEdge 12 = .ok (.iload_n 1, 1) := by decide +kernel
theorem d_G_cutEdge_13 : decode b_G_cutEdge 13 = .ok (.iaload, 1) := by decide +kernel
theorem d_G_cutEdge_14 : decode b_G_cutEdge 14 = .ok (.if_icmp .ne 5, 3) := by decide +kernel
theorem d_G_cutEdge_17 : decode b_G_cutEdge 17 = .ok (.iconst 0, 1) := by decide +kernel
theorem d_G_cutEdge_18 : decode b_G_cutEdge 18 = .ok (.ireturn, 1) := by decide +kernel
theorem d_G_cutEdge_19 : decode b_G_cutEdge 19 = .ok (.aload_n 0, 1) := by decide +kernel
theorem d_G_cutEdge_20 : decode b_G_cutEdge 20 = .ok (.getfield 19, 3) := by decide +kernel
theorem d_G_cutEdge_23 : decode b_G_cutEdge 23 = .ok (.iload_n 1, 1) := by decide +kernel
theorem d_G_cutEdge_24 : decode b_G_cutEdge 24 = .ok (.dup2, 1) := by decide +kernel
theorem d_G_cutEdge_25 : decode b_G_cutEdge 25 = .ok (.iaload, 1) := by decide +kernel
theorem d_G_cutEdge_26 : decode b_G_cutEdge 26 = .ok (.iconst 1, 1) := by decide +kernel
theorem d_G_cutEdge_27 : decode b_G_cutEdge 27 = .ok (.isub, 1) := by decide +kernel
theorem d_G_cutEdge_28 : decode b_G_cutEdge 28 = .ok (.iastore, 1) := by decide +kernel
theorem d_G_cutEdge_29 : decode b_G_cutEdge 29 = .ok (.iload_n 1, 1) := by decide +kernel
theorem d_G_cutEdge_30 : decode b_G_cutEdge 30 = .ok (.bipush 12, 2) := by decide +kernel
theorem d_G_cutEdge_32 : decode b_G_cutEdge 32 = .ok (.imul, 1) := by decide +kernel
theorem d_G_cutEdge_33 : decode b_G_cutEdge 33 = .ok (.istore 4, 2) := by decide +kernel
theorem d_G_cutEdge_35 : decode b_G_cutEdge 35 = .ok (.iload_n 3, 1) := by decide +kernel
theorem d_G_cutEdge_36 : decode b_G_cutEdge 36 = .ok (.istore 5, 2) := by decide +kernel
theorem d_G_cutEdge_38 : decode b_G_cutEdge 38 = .ok (.iload 5, 2) := by decide +kernel
theorem d_G_cutEdge_40 : decode b_G_cutEdge 40 = .ok (.aload_n 0, 1) := by decide +kernel
theorem d_G_cutEdge_41 : decode b_G_cutEdge 41 = .ok (.getfield 19, 3) := by decide +kernel
theorem d_G_cutEdge_44 : decode b_G_cutEdge 44 = .ok (.iload_n 1, 1) := by decide +kernel
theorem d_G_cutEdge_45 : decode b_G_cutEdge 45 = .ok (.iaload, 1) := by decide +kernel
theorem d_G_cutEdge_46 : decode b_G_cutEdge 46 = .ok (.if_icmp .ge 53, 3) := by decide +kernel
theorem d_G_cutEdge_49 : decode b_G_cutEdge 49 = .ok (.aload_n 0, 1) := by decide +kernel
theorem d_G_cutEdge_50 : decode b_G_cutEdge 50 = .ok (.getfield 23, 3) := by decide +kernel
theorem d_G_cutEdge_53 : decode b_G_cutEdge 53 = .ok (.iload 4, 2) := by decide +kernel
theorem d_G_cutEdge_55 : decode b_G_cutEdge 55 = .ok (.iload 5, 2) := by decide +kernel
theorem d_G_cutEdge_57 : decode b_G_cutEdge 57 = .ok (.iadd, 1) := by decide +kernel
theorem d_G_cutEdge_58 : decode b_G_cutEdge 58 = .ok (.aload_n 0, 1) := by decide +kernel
theorem d_G_cutEdge_59 : decode b_G_cutEdge 59 = .ok (.getfield 23, 3) := by decide +kernel
theorem d_G_cutEdge_62 : decode b_G_cutEdge 62 = .ok (.iload 4, 2) := by decide +kernel
theorem d_G_cutEdge_64 : decode b_G_cutEdge 64 = .ok (.iload 5, 2) := by decide +kernel
theorem d_G_cutEdge_66 : decode b_G_cutEdge 66 = .ok (.iadd, 1) := by decide +kernel
theorem d_G_cutEdge_67 : decode b_G_cutEdge 67 = .ok (.iconst 1, 1) := by decide +kernel
theorem d_G_cutEdge_68 : decode b_G_cutEdge 68 = .ok (.iadd, 1) := by decide +kernel
theorem d_G_cutEdge_69 : decode b_G_cutEdge 69 = .ok (.iaload, 1) := by decide +kernel
theorem d_G_cutEdge_70 : decode b_G_cutEdge 70 = .ok (.iastore, 1) := by decide +kernel
theorem d_G_cutEdge_71 : decode b_G_cutEdge 71 = .ok (.aload_n 0, 1) := by decide +kernel
theorem d_G_cutEdge_72 : decode b_G_cutEdge 72 = .ok (.getfield 26, 3) := by decide +kernel
theorem d_G_cutEdge_75 : decode b_G_cutEdge 75 = .ok (.iload 4, 2) := by decide +kernel
theorem d_G_cutEdge_77 : decode b_G_cutEdge 77 = .ok (.iload 5, 2) := by decide +kernel
theorem d_G_cutEdge_79 : decode b_G_cutEdge 79 = .ok (.iadd, 1) := by decide +kernel
theorem d_G_cutEdge_80 : decode b_G_cutEdge 80 = .ok (.aload_n 0, 1) := by decide +kernel
theorem d_G_cutEdge_81 : decode b_G_cutEdge 81 = .ok (.getfield 26, 3) := by decide +kernel
theorem d_G_cutEdge_84 : decode b_G_cutEdge 84 = .ok (.iload 4, 2) := by decide +kernel
theorem d_G_cutEdge_86 : decode b_G_cutEdge 86 = .ok (.iload 5, 2) := by decide +kernel
theorem d_G_cutEdge_88 : decode b_G_cutEdge 88 = .ok (.iadd, 1) := by decide +kernel
theorem d_G_cutEdge_89 : decode b_G_cutEdge 89 = .ok (.iconst 1, 1) := by decide +kernel
theorem d_G_cutEdge_90 : decode b_G_cutEdge 90 = .ok (.iadd, 1) := by decide +kernel
theorem d_G_cutEdge_91 : decode b_G_cutEdge 91 = .ok (.daload, 1) := by decide +kernel
theorem d_G_cutEdge_92 : decode b_G_cutEdge 92 = .ok (.dastore, 1) := by decide +kernel
theorem d_G_cutEdge_93 : decode b_G_cutEdge 93 = .ok (.iinc 5 1, 3) := by decide +kernel
theorem d_G_cutEdge_96 : decode b_G_cutEdge 96 = .ok (.goto (-58), 3) := by decide +kernel
theorem d_G_cutEdge_99 : decode b_G_cutEdge 99 = .ok (.iconst 1, 1) := by decide +kernel
theorem d_G_cutEdge_100 : decode b_G_cutEdge 100 = .ok (.ireturn, 1) := by decide +kernel
theorem d_G_wakeAll_0 : decode b_G_wakeAll 0 = .ok (.iconst 0, 1) := by decide +kernel
theorem d_G_wakeAll_1 : decode b_G_wakeAll 1 = .ok (.istore_n 1, 1) := by decide +kernel
theorem d_G_wakeAll_2 : decode b_G_wakeAll 2 = .ok (.iload_n 1, 1) := by decide +kernel
theorem d_G_wakeAll_3 : decode b_G_wakeAll 3 = .ok (.bipush 12, 2) := by decide +kernel
theorem d_G_wakeAll_5 : decode b_G_wakeAll 5 = .ok (.if_icmp .ge 21, 3) := by decide +kernel
theorem d_G_wakeAll_8 : decode b_G_wakeAll 8 = .ok (.aload_n 0, 1) := by decide +kernel
theorem d_G_wakeAll_9 : decode b_G_wakeAll 9 = .ok (.getfield 29, 3) := by decide +kernel
theorem d_G_wakeAll_12 : decode b_G_wakeAll 12 = .ok (.iload_n 1, 1) := by decide +kernel
theorem d_G_wakeAll_13 : decode b_G_wakeAll 13 = .ok (.aload_n 0, 1) := by decide +kernel
theorem d_G_wakeAll_14 : decode b_G_wakeAll 14 = .ok (.getfield 9, 3) := by decide +kernel
theorem d_G_wakeAll_17 : decode b_G_wakeAll 17 = .ok (.iload_n 1, 1) := by decide +kernel
theorem d_G_wakeAll_18 : decode b_G_wakeAll 18 = .ok (.baload, 1) := by decide +kernel
theorem d_G_wakeAll_19 : decode b_G_wakeAll 19 = .ok (.bastore, 1) := by decide +kernel
theorem d_G_wakeAll_20 : decode b_G_wakeAll 20 = .ok (.iinc 1 1, 3) := by decide +kernel
theorem d_G_wakeAll_23 : decode b_G_wakeAll 23 = .ok (.goto (-21), 3) := by decide +kernel
theorem d_G_wakeAll_26 : decode b_G_wakeAll 26 = .ok (.return_, 1) := by decide +kernel
theorem d_G_clearMail_0 : decode b_G_clearMail 0 = .ok (.iconst 0, 1) := by decide +kernel
theorem d_G_clearMail_1 : decode b_G_clearMail 1 = .ok (.istore_n 1, 1) := by decide +kernel
theorem d_G_clearMail_2 : decode b_G_clearMail 2 = .ok (.iload_n 1, 1) := by decide +kernel
theorem d_G_clearMail_3 : decode b_G_clearMail 3 = .ok (.bipush 12, 2) := by decide +kernel
theorem d_G_clearMail_5 : decode b_G_clearMail 5 = .ok (.if_icmp .ge 16, 3) := by decide +kernel
theorem d_G_clearMail_8 : decode b_G_clearMail 8 = .ok (.aload_n 0, 1) := by decide +kernel
theorem d_G_clearMail_9 : decode b_G_clearMail 9 = .ok (.getfield 32, 3) := by decide +kernel
theorem d_G_clearMail_12 : decode b_G_clearMail 12 = .ok (.iload_n 1, 1) := by decide +kernel
theorem d_G_clearMail_13 : decode b_G_clearMail 13 = .ok (.iconst 0, 1) := by decide +kernel
theorem d_G_clearMail_14 : decode b_G_clearMail 14 = .ok (.iastore, 1) := by decide +kernel
theorem d_G_clearMail_15 : decode b_G_clearMail 15 = .ok (.iinc 1 1, 3) := by decide +kernel
theorem d_G_clearMail_18 : decode b_G_clearMail 18 = .ok (.goto (-16), 3) := by decide +kernel
theorem d_G_clearMail_21 : decode b_G_clearMail 21 = .ok (.return_, 1) := by decide +kernel
theorem d_G_copyFrom_0 : decode b_G_copyFrom 0 = .ok (.aload_n 1, 1) := by decide +kernel
theorem d_G_copyFrom_1 : decode b_G_copyFrom 1 = .ok (.getfield 9, 3) := by decide +kernel
theorem d_G_copyFrom_4 : decode b_G_copyFrom 4 = .ok (.iconst 0, 1) := by decide +kernel
theorem d_G_copyFrom_5 : decode b_G_copyFrom 5 = .ok (.aload_n 0, 1) := by decide +kernel
theorem d_G_copyFrom_6 : decode b_G_copyFrom 6 = .ok (.getfield 9, 3) := by decide +kernel
theorem d_G_copyFrom_9 : decode b_G_copyFrom 9 = .ok (.iconst 0, 1) := by decide +kernel
theorem d_G_copyFrom_10 : decode b_G_copyFrom 10 = .ok (.bipush 12, 2) := by decide +kernel
theorem d_G_copyFrom_12 : decode b_G_copyFrom 12 = .ok (.invokestatic 46, 3) := by decide +kernel
theorem d_G_copyFrom_15 : decode b_G_copyFrom 15 = .ok (.aload_n 1, 1) := by decide +kernel
theorem d_G_copyFrom_16 : decode b_G_copyFrom 16 = .ok (.getfield 15, 3) := by decide +kernel
theorem d_G_copyFrom_19 : decode b_G_copyFrom 19 = .ok (.iconst 0, 1) := by decide +kernel
theorem d_G_copyFrom_20 : decode b_G_copyFrom 20 = .ok (.aload_n 0, 1) := by decide +kernel
theorem d_G_copyFrom_21 : decode b_G_copyFrom 21 = .ok (.getfield 15, 3) := by decide +kernel
theorem d_G_copyFrom_24 : decode b_G_copyFrom 24 = .ok (.iconst 0, 1) := by decide +kernel
theorem d_G_copyFrom_25 : decode b_G_copyFrom 25 = .ok (.bipush 12, 2) := by decide +kernel
theorem d_G_copyFrom_27 : decode b_G_copyFrom 27 = .ok (.invokestatic 46, 3) := by decide +kernel
theorem d_G_copyFrom_30 : decode b_G_copyFrom 30 = .ok (.aload_n 1, 1) := by decide +kernel
theorem d_G_copyFrom_31 : decode b_G_copyFrom 31 = .ok (.getfield 19, 3) := by decide +kernel
theorem d_G_copyFrom_34 : decode b_G_copyFrom 34 = .ok (.iconst 0, 1) := by decide +kernel
theorem d_G_copyFrom_35 : decode b_G_copyFrom 35 = .ok (.aload_n 0, 1) := by decide +kernel
theorem d_G_copyFrom_36 : decode b_G_copyFrom 36 = .ok (.getfield 19, 3) := by decide +kernel
theorem d_G_copyFrom_39 : decode b_G_copyFrom 39 = .ok (.iconst 0, 1) := by decide +kernel
theorem d_G_copyFrom_40 : decode b_G_copyFrom 40 = .ok (.bipush 12, 2) := by decide +kernel
theorem d_G_copyFrom_42 : decode b_G_copyFrom 42 = .ok (.invokestatic 46, 3) := by decide +kernel
theorem d_G_copyFrom_45 : decode b_G_copyFrom 45 = .ok (.aload_n 1, 1) := by decide +kernel
theorem d_G_copyFrom_46 : decode b_G_copyFrom 46 = .ok (.getfield 23, 3) := by decide +kernel
theorem d_G_copyFrom_49 : decode b_G_copyFrom 49 = .ok (.iconst 0, 1) := by decide +kernel
theorem d_G_copyFrom_50 : decode b_G_copyFrom 50 = .ok (.aload_n 0, 1) := by decide +kernel
theorem d_G_copyFrom_51 : decode b_G_copyFrom 51 = .ok (.getfield 23, 3) := by decide +kernel
theorem d_G_copyFrom_54 : decode b_G_copyFrom 54 = .ok (.iconst 0, 1) := by decide +kernel
theorem d_G_copyFrom_55 : decode b_G_copyFrom 55 = .ok (.sipush 144, 3) := by decide +kernel
theorem d_G_copyFrom_58 : decode b_G_copyFrom 58 = .ok (.invokestatic 46, 3) := by decide +kernel
theorem d_G_copyFrom_61 : decode b_G_copyFrom 61 = .ok (.aload_n 1, 1) := by decide +kernel
theorem d_G_copyFrom_62 : decode b_G_copyFrom 62 = .ok (.getfield 26, 3) := by decide +kernel
theorem d_G_copyFrom_65 : decode b_G_copyFrom 65 = .ok (.iconst 0, 1) := by decide +kernel
theorem d_G_copyFrom_66 : decode b_G_copyFrom 66 = .ok (.aload_n 0, 1) := by decide +kernel
theorem d_G_copyFrom_67 : decode b_G_copyFrom 67 = .ok (.getfield 26, 3) := by decide +kernel
theorem d_G_copyFrom_70 : decode b_G_copyFrom 70 = .ok (.iconst 0, 1) := by decide +kernel
theorem d_G_copyFrom_71 : decode b_G_copyFrom 71 = .ok (.sipush 144, 3) := by decide +kernel
theorem d_G_copyFrom_74 : decode b_G_copyFrom 74 = .ok (.invokestatic 46, 3) := by decide +kernel
theorem d_G_copyFrom_77 : decode b_G_copyFrom 77 = .ok (.aload_n 1, 1) := by decide +kernel
theorem d_G_copyFrom_78 : decode b_G_copyFrom 78 = .ok (.getfield 29, 3) := by decide +kernel
theorem d_G_copyFrom_81 : decode b_G_copyFrom 81 = .ok (.iconst 0, 1) := by decide +kernel
theorem d_G_copyFrom_82 : decode b_G_copyFrom 82 = .ok (.aload_n 0, 1) := by decide +kernel
theorem d_G_copyFrom_83 : decode b_G_copyFrom 83 = .ok (.getfield 29, 3) := by decide +kernel
theorem d_G_copyFrom_86 : decode b_G_copyFrom 86 = .ok (.iconst 0, 1) := by decide +kernel
theorem d_G_copyFrom_87 : decode b_G_copyFrom 87 = .ok (.bipush 12, 2) := by decide +kernel
theorem d_G_copyFrom_89 : decode b_G_copyFrom 89 = .ok (.invokestatic 46, 3) := by decide +kernel
theorem d_G_copyFrom_92 : decode b_G_copyFrom 92 = .ok (.aload_n 1, 1) := by decide +kernel
theorem d_G_copyFrom_93 : decode b_G_copyFrom 93 = .ok (.getfield 32, 3) := by decide +kernel
theorem d_G_copyFrom_96 : decode b_G_copyFrom 96 = .ok (.iconst 0, 1) := by decide +kernel
theorem d_G_copyFrom_97 : decode b_G_copyFrom 97 = .ok (.aload_n 0, 1) := by decide +kernel
theorem d_G_copyFrom_98 : decode b_G_copyFrom 98 = .ok (.getfield 32, 3) := by decide +kernel
theorem d_G_copyFrom_101 : decode b_G_copyFrom 101 = .ok (.iconst 0, 1) := by decide +kernel
theorem d_G_copyFrom_102 : decode b_G_copyFrom 102 = .ok (.bipush 12, 2) := by decide +kernel
theorem d_G_copyFrom_104 : decode b_G_copyFrom 104 = .ok (.invokestatic 46, 3) := by decide +kernel
theorem d_G_copyFrom_107 : decode b_G_copyFrom 107 = .ok (.aload_n 1, 1) := by decide +kernel
theorem d_G_copyFrom_108 : decode b_G_copyFrom 108 = .ok (.getfield 35, 3) := by decide +kernel
theorem d_G_copyFrom_111 : decode b_G_copyFrom 111 = .ok (.iconst 0, 1) := by decide +kernel
theorem d_G_copyFrom_112 : decode b_G_copyFrom 112 = .ok (.aload_n 0, 1) := by decide +kernel
theorem d_G_copyFrom_113 : decode b_G_copyFrom 113 = .ok (.getfield 35, 3) := by decide +kernel
theorem d_G_copyFrom_116 : decode b_G_copyFrom 116 = .ok (.iconst 0, 1) := by decide +kernel
theorem d_G_copyFrom_117 : decode b_G_copyFrom 117 = .ok (.sipush 144, 3) := by decide +kernel
theorem d_G_copyFrom_120 : decode b_G_copyFrom 120 = .ok (.invokestatic 46, 3) := by decide +kernel
theorem d_G_copyFrom_123 : decode b_G_copyFrom 123 = .ok (.aload_n 0, 1) := by decide +kernel
theorem d_G_copyFrom_124 : decode b_G_copyFrom 124 = .ok (.aload_n 1, 1) := by decide +kernel
theorem d_G_copyFrom_125 : decode b_G_copyFrom 125 = .ok (.getfield 38, 3) := by decide +kernel
theorem d_G_copyFrom_128 : decode b_G_copyFrom 128 = .ok (.putfield 38, 3) := by decide +kernel
theorem d_G_copyFrom_131 : decode b_G_copyFrom 131 = .ok (.aload_n 0, 1) := by decide +kernel
theorem d_G_copyFrom_132 : decode b_G_copyFrom 132 = .ok (.aload_n 1, 1) := by decide +kernel
theorem d_G_copyFrom_133 : decode b_G_copyFrom 133 = .ok (.getfield 42, 3) := by decide +kernel
theorem d_G_copyFrom_136 : decode b_G_copyFrom 136 = .ok (.putfield 42, 3) := by decide +kernel
theorem d_G_copyFrom_139 : decode b_G_copyFrom 139 = .ok (.return_, 1) := by decide +kernel
theorem d_G_isActive_0 : decode b_G_isActive 0 = .ok (.aload_n 0, 1) := by decide +kernel
theorem d_G_isActive_1 : decode b_G_isActive 1 = .ok (.getfield 9, 3) := by decide +kernel
theorem d_G_isActive_4 : decode b_G_isActive 4 = .ok (.iload_n 1, 1) := by decide +kernel
theorem d_G_isActive_5 : decode b_G_isActive 5 = .ok (.baload, 1) := by decide +kernel
theorem d_G_isActive_6 : decode b_G_isActive 6 = .ok (.ifCond .eq 25, 3) := by decide +kernel
theorem d_G_isActive_9 : decode b_G_isActive 9 = .ok (.aload_n 0, 1) := by decide +kernel
theorem d_G_isActive_10 : decode b_G_isActive 10 = .ok (.getfield 29, 3) := by decide +kernel
theorem d_G_isActive_13 : decode b_G_isActive 13 = .ok (.iload_n 1, 1) := by decide +kernel
theorem d_G_isActive_14 : decode b_G_isActive 14 = .ok (.baload, 1) := by decide +kernel
theorem d_G_isActive_15 : decode b_G_isActive 15 = .ok (.ifCond .ne 12, 3) := by decide +kernel
theorem d_G_isActive_18 : decode b_G_isActive 18 = .ok (.aload_n 0, 1) := by decide +kernel
theorem d_G_isActive_19 : decode b_G_isActive 19 = .ok (.getfield 32, 3) := by decide +kernel
theorem d_G_isActive_22 : decode b_G_isActive 22 = .ok (.iload_n 1, 1) := by decide +kernel
theorem d_G_isActive_23 : decode b_G_isActive 23 = .ok (.iaload, 1) := by decide +kernel
theorem d_G_isActive_24 : decode b_G_isActive 24 = .ok (.ifCond .le 7, 3) := by decide +kernel
theorem d_G_isActive_27 : decode b_G_isActive 27 = .ok (.iconst 1, 1) := by decide +kernel
theorem d_G_isActive_28 : decode b_G_isActive 28 = .ok (.goto 4, 3) := by decide +kernel
theorem d_G_isActive_31 : decode b_G_isActive 31 = .ok (.iconst 0, 1) := by decide +kernel
theorem d_G_isActive_32 : decode b_G_isActive 32 = .ok (.ireturn, 1) := by decide +kernel
theorem d_G_addMail_0 : decode b_G_addMail 0 = .ok (.aload_n 0, 1) := by decide +kernel
theorem d_G_addMail_1 : decode b_G_addMail 1 = .ok (.getfield 35, 3) := by decide +kernel
theorem d_G_addMail_4 : decode b_G_addMail 4 = .ok (.iload_n 1, 1) := by decide +kernel
theorem d_G_addMail_5 : decode b_G_addMail 5 = .ok (.bipush 12, 2) := by decide +kernel
theorem d_G_addMail_7 : decode b_G_addMail 7 = .ok (.imul, 1) := by decide +kernel
theorem d_G_addMail_8 : decode b_G_addMail 8 = .ok (.aload_n 0, 1) := by decide +kernel
theorem d_G_addMail_9 : decode b_G_addMail 9 = .ok (.getfield 32, 3) := by decide +kernel
theorem d_G_addMail_12 : decode b_G_addMail 12 = .ok (.iload_n 1, 1) := by decide +kernel
theorem d_G_addMail_13 : decode b_G_addMail 13 = .ok (.iaload, 1) := by decide +kernel
theorem d_G_addMail_14 : decode b_G_addMail 14 = .ok (.iadd, 1) := by decide +kernel
theorem d_G_addMail_15 : decode b_G_addMail 15 = .ok (.dload_n 2, 1) := by decide +kernel
theorem d_G_addMail_16 : decode b_G_addMail 16 = .ok (.dastore, 1) := by decide +kernel
theorem d_G_addMail_17 : decode b_G_addMail 17 = .ok (.aload_n 0, 1) := by decide +kernel
theorem d_G_addMail_18 : decode b_G_addMail 18 = .ok (.getfield 32, 3) := by decide +kernel
theorem d_G_addMail_21 : decode b_G_addMail 21 = .ok (.iload_n 1, 1) := by decide +kernel
theorem d_G_addMail_22 : decode b_G_addMail 22 = .ok (.dup2, 1) := by decide +kernel
theorem d_G_addMail_23 : decode b_G_addMail 23 = .ok (.iaload, 1) := by decide +kernel
theorem d_G_addMail_24 : decode b_G_addMail 24 = .ok (.iconst 1, 1) := by decide +kernel
theorem d_G_addMail_25 : decode b_G_addMail 25 = .ok (.iadd, 1) := by decide +kernel
theorem d_G_addMail_26 : decode b_G_addMail 26 = .ok (.iastore, 1) := by decide +kernel
theorem d_G_addMail_27 : decode b_G_addMail 27 = .ok (.return_, 1) := by decide +kernel
theorem d_G_isQuiet_0 : decode b_G_isQuiet 0 = .ok (.iconst 0, 1) := by decide +kernel
theorem d_G_isQuiet_1 : decode b_G_isQuiet 1 = .ok (.istore_n 1, 1) := by decide +kernel
theorem d_G_isQuiet_2 : decode b_G_isQuiet 2 = .ok (.iload_n 1, 1) := by decide +kernel
theorem d_G_isQuiet_3 : decode b_G_isQuiet 3 = .ok (.bipush 12, 2) := by decide +kernel
theorem d_G_isQuiet_5 : decode b_G_isQuiet 5 = .ok (.if_icmp .ge 19, 3) := by decide +kernel
theorem d_G_isQuiet_8 : decode b_G_isQuiet 8 = .ok (.aload_n 0, 1) := by decide +kernel
theorem d_G_isQuiet_9 : decode b_G_isQuiet 9 = .ok (.iload_n 1, 1) := by decide +kernel
theorem d_G_isQuiet_10 : decode b_G_isQuiet 10 = .ok (.invokevirtual 52, 3) := by decide +kernel
theorem d_G_isQuiet_13 : decode b_G_isQuiet 13 = .ok (.ifCond .eq 5, 3) := by decide +kernel
theorem d_G_isQuiet_16 : decode b_G_isQuiet 16 = .ok (.iconst 0, 1) := by decide +kernel
theorem d_G_isQuiet_17 : decode b_G_isQuiet 17 = .ok (.ireturn, 1) := by decide +kernel
theorem d_G_isQuiet_18 : decode b_G_isQuiet 18 = .ok (.iinc 1 1, 3) := by decide +kernel
theorem d_G_isQuiet_21 : decode b_G_isQuiet 21 = .ok (.goto (-19), 3) := by decide +kernel
theorem d_G_isQuiet_24 : decode b_G_isQuiet 24 = .ok (.iconst 1, 1) := by decide +kernel
theorem d_G_isQuiet_25 : decode b_G_isQuiet 25 = .ok (.ireturn, 1) := by decide +kernel
theorem d_G_wipe_0 : decode b_G_wipe 0 = .ok (.iconst 0, 1) := by decide +kernel
theorem d_G_wipe_1 : decode b_G_wipe 1 = .ok (.istore_n 2, 1) := by decide +kernel
theorem d_G_wipe_2 : decode b_G_wipe 2 = .ok (.iload_n 1, 1) := by decide +kernel
theorem d_G_wipe_3 : decode b_G_wipe 3 = .ok (.istore_n 3, 1) := by decide +kernel
theorem d_G_wipe_4 : decode b_G_wipe 4 = .ok (.iload_n 3, 1) := by decide +kernel
theorem d_G_wipe_5 : decode b_G_wipe 5 = .ok (.bipush 12, 2) := by decide +kernel
theorem d_G_wipe_7 : decode b_G_wipe 7 = .ok (.if_icmp .ge 35, 3) := by decide +kernel
theorem d_G_wipe_10 : decode b_G_wipe 10 = .ok (.aload_n 0, 1) := by decide +kernel
theorem d_G_wipe_11 : decode b_G_wipe 11 = .ok (.getfield 9, 3) := by decide +kernel
theorem d_G_wipe_14 : decode b_G_wipe 14 = .ok (.iload_n 3, 1) := by decide +kernel
theorem d_G_wipe_15 : decode b_G_wipe 15 = .ok (.baload, 1) := by decide +kernel
theorem d_G_wipe_16 : decode b_G_wipe 16 = .ok (.ifCond .eq 20, 3) := by decide +kernel
theorem d_G_wipe_19 : decode b_G_wipe 19 = .ok (.aload_n 0, 1) := by decide +kernel
theorem d_G_wipe_20 : decode b_G_wipe 20 = .ok (.getfield 15, 3) := by decide +kernel
theorem d_G_wipe_23 : decode b_G_wipe 23 = .ok (.iload_n 3, 1) := by decide +kernel
theorem d_G_wipe_24 : decode b_G_wipe 24 = .ok (.dconst 0, 1) := by decide +kernel
theorem d_G_wipe_25 : decode b_G_wipe 25 = .ok (.dastore, 1) := by decide +kernel
theorem d_G_wipe_26 : decode b_G_wipe 26 = .ok (.aload_n 0, 1) := by decide +kernel
theorem d_G_wipe_27 : decode b_G_wipe 27 = .ok (.getfield 32, 3) := by decide +kernel
theorem d_G_wipe_30 : decode b_G_wipe 30 = .ok (.iload_n 3, 1) := by decide +kernel
theorem d_G_wipe_31 : decode b_G_wipe 31 = .ok (.iconst 0, 1) := by decide +kernel
theorem d_G_wipe_32 : decode b_G_wipe 32 = .ok (.iastore, 1) := by decide +kernel
theorem d_G_wipe_33 : decode b_G_wipe 33 = .ok (.iinc 2 1, 3) := by decide +kernel
theorem d_G_wipe_36 : decode b_G_wipe 36 = .ok (.iinc 3 3, 3) := by decide +kernel
theorem d_G_wipe_39 : decode b_G_wipe 39 = .ok (.goto (-35), 3) := by decide +kernel
theorem d_G_wipe_42 : decode b_G_wipe 42 = .ok (.iload_n 2, 1) := by decide +kernel
theorem d_G_wipe_43 : decode b_G_wipe 43 = .ok (.ireturn, 1) := by decide +kernel
theorem d_G_targetOf_0 : decode b_G_targetOf 0 = .ok (.iload_n 2, 1) := by decide +kernel
theorem d_G_targetOf_1 : decode b_G_targetOf 1 = .ok (.aload_n 0, 1) := by decide +kernel
theorem d_G_targetOf_2 : decode b_G_targetOf 2 = .ok (.getfield 19, 3) := by decide +kernel
theorem d_G_targetOf_5 : decode b_G_targetOf 5 = .ok (.iload_n 1, 1) := by decide +kernel
theorem d_G_targetOf_6 : decode b_G_targetOf 6 = .ok (.iaload, 1) := by decide +kernel
theorem d_G_targetOf_7 : decode b_G_targetOf 7 = .ok (.if_icmp .ge 17, 3) := by decide +kernel
theorem d_G_targetOf_10 : decode b_G_targetOf 10 = .ok (.aload_n 0, 1) := by decide +kernel
theorem d_G_targetOf_11 : decode b_G_targetOf 11 = .ok (.getfield 23, 3) := by decide +kernel
theorem d_G_targetOf_14 : decode b_G_targetOf 14 = .ok (.iload_n 1, 1) := by decide +kernel
theorem d_G_targetOf_15 : decode b_G_targetOf 15 = .ok (.bipush 12, 2) := by decide +kernel
theorem d_G_targetOf_17 : decode b_G_targetOf 17 = .ok (.imul, 1) := by decide +kernel
theorem d_G_targetOf_18 : decode b_G_targetOf 18 = .ok (.iload_n 2, 1) := by decide +kernel
theorem d_G_targetOf_19 : decode b_G_targetOf 19 = .ok (.iadd, 1) := by decide +kernel
theorem d_G_targetOf_20 : decode b_G_targetOf 20 = .ok (.iaload, 1) := by decide +kernel
theorem d_G_targetOf_21 : decode b_G_targetOf 21 = .ok (.goto 4, 3) := by decide +kernel
theorem d_G_targetOf_24 : decode b_G_targetOf 24 = .ok (.iconst (-1), 1) := by decide +kernel
theorem d_G_targetOf_25 : decode b_G_targetOf 25 = .ok (.ireturn, 1) := by decide +kernel
