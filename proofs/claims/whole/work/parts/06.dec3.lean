theorem d_S_init_0 : decode b_S_init 0 = .ok (.aload_n 0, 1) := by decide +kernel
theorem d_S_init_1 : decode b_S_init 1 = .ok (.invokespecial 1, 3) := by decide +kernel
theorem d_S_init_4 : decode b_S_init 4 = .ok (.aload_n 0, 1) := by decide +kernel
theorem d_S_init_5 : decode b_S_init 5 = .ok (.iconst 0, 1) := by decide +kernel
theorem d_S_init_6 : decode b_S_init 6 = .ok (.putfield 9, 3) := by decide +kernel
theorem d_S_init_9 : decode b_S_init 9 = .ok (.aload_n 0, 1) := by decide +kernel
theorem d_S_init_10 : decode b_S_init 10 = .ok (.iconst 0, 1) := by decide +kernel
theorem d_S_init_11 : decode b_S_init 11 = .ok (.putfield 13, 3) := by decide +kernel
theorem d_S_init_14 : decode b_S_init 14 = .ok (.aload_n 0, 1) := by decide +kernel
theorem d_S_init_15 : decode b_S_init 15 = .ok (.new 17, 3) := by decide +kernel
theorem d_S_init_18 : decode b_S_init 18 = .ok (.dup, 1) := by decide +kernel
theorem d_S_init_19 : decode b_S_init 19 = .ok (.invokespecial 19, 3) := by decide +kernel
theorem d_S_init_22 : decode b_S_init 22 = .ok (.putfield 20, 3) := by decide +kernel
theorem d_S_init_25 : decode b_S_init 25 = .ok (.aload_n 0, 1) := by decide +kernel
theorem d_S_init_26 : decode b_S_init 26 = .ok (.new 17, 3) := by decide +kernel
theorem d_S_init_29 : decode b_S_init 29 = .ok (.dup, 1) := by decide +kernel
theorem d_S_init_30 : decode b_S_init 30 = .ok (.invokespecial 19, 3) := by decide +kernel
theorem d_S_init_33 : decode b_S_init 33 = .ok (.putfield 24, 3) := by decide +kernel
theorem d_S_init_36 : decode b_S_init 36 = .ok (.aload_n 0, 1) := by decide +kernel
theorem d_S_init_37 : decode b_S_init 37 = .ok (.new 17, 3) := by decide +kernel
theorem d_S_init_40 : decode b_S_init 40 = .ok (.dup, 1) := by decide +kernel
theorem d_S_init_41 : decode b_S_init 41 = .ok (.invokespecial 19, 3) := by decide +kernel
theorem d_S_init_44 : decode b_S_init 44 = .ok (.putfield 27, 3) := by decide +kernel
theorem d_S_init_47 : decode b_S_init 47 = .ok (.aload_n 0, 1) := by decide +kernel
theorem d_S_init_48 : decode b_S_init 48 = .ok (.new 30, 3) := by decide +kernel
theorem d_S_init_51 : decode b_S_init 51 = .ok (.dup, 1) := by decide +kernel
theorem d_S_init_52 : decode b_S_init 52 = .ok (.invokespecial 32, 3) := by decide +kernel
theorem d_S_init_55 : decode b_S_init 55 = .ok (.putfield 33, 3) := by decide +kernel
theorem d_S_init_58 : decode b_S_init 58 = .ok (.return_, 1) := by decide +kernel
theorem d_S_aggregate_0 : decode b_S_aggregate 0 = .ok (.aload_n 0, 1) := by decide +kernel
theorem d_S_aggregate_1 : decode b_S_aggregate 1 = .ok (.getfield 20, 3) := by decide +kernel
theorem d_S_aggregate_4 : decode b_S_aggregate 4 = .ok (.getfield 94, 3) := by decide +kernel
theorem d_S_aggregate_7 : decode b_S_aggregate 7 = .ok (.dreturn, 1) := by decide +kernel
theorem d_S_vertex_0 : decode b_S_vertex 0 = .ok (.iload_n 1, 1) := by decide +kernel
theorem d_S_vertex_1 : decode b_S_vertex 1 = .ok (.iconst 0, 1) := by decide +kernel
theorem d_S_vertex_2 : decode b_S_vertex 2 = .ok (.bipush 11, 2) := by decide +kernel
theorem d_S_vertex_4 : decode b_S_vertex 4 = .ok (.invokestatic 37, 3) := by decide +kernel
theorem d_S_vertex_7 : decode b_S_vertex 7 = .ok (.dload_n 2, 1) := by decide +kernel
theorem d_S_vertex_8 : decode b_S_vertex 8 = .ok (.ldc 41, 2) := by decide +kernel
theorem d_S_vertex_10 : decode b_S_vertex 10 = .ok (.ldc 42, 2) := by decide +kernel
theorem d_S_vertex_12 : decode b_S_vertex 12 = .ok (.invokestatic 43, 3) := by decide +kernel
theorem d_S_vertex_15 : decode b_S_vertex 15 = .ok (.aload_n 0, 1) := by decide +kernel
theorem d_S_vertex_16 : decode b_S_vertex 16 = .ok (.invokevirtual 47, 3) := by decide +kernel
theorem d_S_vertex_19 : decode b_S_vertex 19 = .ok (.aload_n 0, 1) := by decide +kernel
theorem d_S_vertex_20 : decode b_S_vertex 20 = .ok (.getfield 20, 3) := by decide +kernel
theorem d_S_vertex_23 : decode b_S_vertex 23 = .ok (.getfield 50, 3) := by decide +kernel
theorem d_S_vertex_26 : decode b_S_vertex 26 = .ok (.iload_n 1, 1) := by decide +kernel
theorem d_S_vertex_27 : decode b_S_vertex 27 = .ok (.iconst 1, 1) := by decide +kernel
theorem d_S_vertex_28 : decode b_S_vertex 28 = .ok (.bastore, 1) := by decide +kernel
theorem d_S_vertex_29 : decode b_S_vertex 29 = .ok (.aload_n 0, 1) := by decide +kernel
theorem d_S_vertex_30 : decode b_S_vertex 30 = .ok (.getfield 20, 3) := by decide +kernel
theorem d_S_vertex_33 : decode b_S_vertex 33 = .ok (.getfield 54, 3) := by decide +kernel
theorem d_S_vertex_36 : decode b_S_vertex 36 = .ok (.iload_n 1, 1) := by decide +kernel
theorem d_S_vertex_37 : decode b_S_vertex 37 = .ok (.dload_n 2, 1) := by decide +kernel
theorem d_S_vertex_38 : decode b_S_vertex 38 = .ok (.dastore, 1) := by decide +kernel
theorem d_S_vertex_39 : decode b_S_vertex 39 = .ok (.aload_n 0, 1) := by decide +kernel
theorem d_S_vertex_40 : decode b_S_vertex 40 = .ok (.getfield 20, 3) := by decide +kernel
theorem d_S_vertex_43 : decode b_S_vertex 43 = .ok (.invokevirtual 58, 3) := by decide +kernel
theorem d_S_vertex_46 : decode b_S_vertex 46 = .ok (.ireturn, 1) := by decide +kernel
theorem d_S_requireRange_0 : decode b_S_requireRange 0 = .ok (.iload_n 0, 1) := by decide +kernel
theorem d_S_requireRange_1 : decode b_S_requireRange 1 = .ok (.iload_n 1, 1) := by decide +kernel
theorem d_S_requireRange_2 : decode b_S_requireRange 2 = .ok (.if_icmp .lt 8, 3) := by decide +kernel
theorem d_S_requireRange_5 : decode b_S_requireRange 5 = .ok (.iload_n 0, 1) := by decide +kernel
theorem d_S_requireRange_6 : decode b_S_requireRange 6 = .ok (.iload_n 2, 1) := by decide +kernel
theorem d_S_requireRange_7 : decode b_S_requireRange 7 = .ok (.if_icmp .le 13, 3) := by decide +kernel
theorem d_S_requireRange_10 : decode b_S_requireRange 10 = .ok (.new 155, 3) := by decide +kernel
theorem d_S_requireRange_13 : decode b_S_requireRange 13 = .ok (.dup, 1) := by decide +kernel
theorem d_S_requireRange_14 : decode b_S_requireRange 14 = .ok (.ldc 157, 2) := by decide +kernel
theorem d_S_requireRange_16 : decode b_S_requireRange 16 = .ok (.invokespecial 159, 3) := by decide +kernel
theorem d_S_requireRange_19 : decode b_S_requireRange 19 = .ok (.athrow, 1) := by decide +kernel
theorem d_S_requireRange_20 : decode b_S_requireRange 20 = .ok (.return_, 1) := by decide +kernel
theorem d_S_requireAmount_0 : decode b_S_requireAmount 0 = .ok (.dload_n 0, 1) := by decide +kernel
theorem d_S_requireAmount_1 : decode b_S_requireAmount 1 = .ok (.iload_n 2, 1) := by decide +kernel
theorem d_S_requireAmount_2 : decode b_S_requireAmount 2 = .ok (.i2d, 1) := by decide +kernel
theorem d_S_requireAmount_3 : decode b_S_requireAmount 3 = .ok (.dcmp .l, 1) := by decide +kernel
theorem d_S_requireAmount_4 : decode b_S_requireAmount 4 = .ok (.ifCond .lt 14, 3) := by decide +kernel
theorem d_S_requireAmount_7 : decode b_S_requireAmount 7 = .ok (.dload_n 0, 1) := by decide +kernel
theorem d_S_requireAmount_8 : decode b_S_requireAmount 8 = .ok (.iload_n 3, 1) := by decide +kernel
theorem d_S_requireAmount_9 : decode b_S_requireAmount 9 = .ok (.i2d, 1) := by decide +kernel
theorem d_S_requireAmount_10 : decode b_S_requireAmount 10 = .ok (.dcmp .g, 1) := by decide +kernel
theorem d_S_requireAmount_11 : decode b_S_requireAmount 11 = .ok (.ifCond .gt 7, 3) := by decide +kernel
theorem d_S_requireAmount_14 : decode b_S_requireAmount 14 = .ok (.iconst 1, 1) := by decide +kernel
theorem d_S_requireAmount_15 : decode b_S_requireAmount 15 = .ok (.goto 4, 3) := by decide +kernel
theorem d_S_requireAmount_18 : decode b_S_requireAmount 18 = .ok (.iconst 0, 1) := by decide +kernel
theorem d_S_requireAmount_19 : decode b_S_requireAmount 19 = .ok (.istore 4, 2) := by decide +kernel
theorem d_S_requireAmount_21 : decode b_S_requireAmount 21 = .ok (.iload 4, 2) := by decide +kernel
theorem d_S_requireAmount_23 : decode b_S_requireAmount 23 = .ok (.ifCond .ne 13, 3) := by decide +kernel
theorem d_S_requireAmount_26 : decode b_S_requireAmount 26 = .ok (.new 155, 3) := by decide +kernel
theorem d_S_requireAmount_29 : decode b_S_requireAmount 29 = .ok (.dup, 1) := by decide +kernel
theorem d_S_requireAmount_30 : decode b_S_requireAmount 30 = .ok (.ldc 160, 2) := by decide +kernel
theorem d_S_requireAmount_32 : decode b_S_requireAmount 32 = .ok (.invokespecial 159, 3) := by decide +kernel
theorem d_S_requireAmount_35 : decode b_S_requireAmount 35 = .ok (.athrow, 1) := by decide +kernel
theorem d_S_requireAmount_36 : decode b_S_requireAmount 36 = .ok (.return_, 1) := by decide +kernel
theorem d_S_requireIdle_0 : decode b_S_requireIdle 0 = .ok (.aload_n 0, 1) := by decide +kernel
theorem d_S_requireIdle_1 : decode b_S_requireIdle 1 = .ok (.getfield 9, 3) := by decide +kernel
theorem d_S_requireIdle_4 : decode b_S_requireIdle 4 = .ok (.ifCond .eq 13, 3) := by decide +kernel
theorem d_S_requireIdle_7 : decode b_S_requireIdle 7 = .ok (.new 167, 3) := by decide +kernel
theorem d_S_requireIdle_10 : decode b_S_requireIdle 10 = .ok (.dup, 1) := by decide +kernel
theorem d_S_requireIdle_11 : decode b_S_requireIdle 11 = .ok (.ldc 172, 2) := by decide +kernel
theorem d_S_requireIdle_13 : decode b_S_requireIdle 13 = .ok (.invokespecial 171, 3) := by decide +kernel
theorem d_S_requireIdle_16 : decode b_S_requireIdle 16 = .ok (.athrow, 1) := by decide +kernel
theorem d_S_requireIdle_17 : decode b_S_requireIdle 17 = .ok (.return_, 1) := by decide +kernel
theorem d_S_edge_0 : decode b_S_edge 0 = .ok (.iload_n 1, 1) := by decide +kernel
theorem d_S_edge_1 : decode b_S_edge 1 = .ok (.iconst 0, 1) := by decide +kernel
theorem d_S_edge_2 : decode b_S_edge 2 = .ok (.bipush 11, 2) := by decide +kernel
theorem d_S_edge_4 : decode b_S_edge 4 = .ok (.invokestatic 37, 3) := by decide +kernel
theorem d_S_edge_7 : decode b_S_edge 7 = .ok (.iload_n 2, 1) := by decide +kernel
theorem d_S_edge_8 : decode b_S_edge 8 = .ok (.iconst 0, 1) := by decide +kernel
theorem d_S_edge_9 : decode b_S_edge 9 = .ok (.bipush 11, 2) := by decide +kernel
theorem d_S_edge_11 : decode b_S_edge 11 = .ok (.invokestatic 37, 3) := by decide +kernel
theorem d_S_edge_14 : decode b_S_edge 14 = .ok (.dload_n 3, 1) := by decide +kernel
theorem d_S_edge_15 : decode b_S_edge 15 = .ok (.iconst 0, 1) := by decide +kernel
theorem d_S_edge_16 : decode b_S_edge 16 = .ok (.sipush 1000, 3) := by decide +kernel
theorem d_S_edge_19 : decode b_S_edge 19 = .ok (.invokestatic 43, 3) := by decide +kernel
theorem d_S_edge_22 : decode b_S_edge 22 = .ok (.aload_n 0, 1) := by decide +kernel
theorem d_S_edge_23 : decode b_S_edge 23 = .ok (.iload_n 1, 1) := by decide +kernel
theorem d_S_edge_24 : decode b_S_edge 24 = .ok (.invokevirtual 62, 3) := by decide +kernel
theorem d_S_edge_27 : decode b_S_edge 27 = .ok (.aload_n 0, 1) := by decide +kernel
theorem d_S_edge_28 : decode b_S_edge 28 = .ok (.iload_n 2, 1) := by decide +kernel
theorem d_S_edge_29 : decode b_S_edge 29 = .ok (.invokevirtual 62, 3) := by decide +kernel
theorem d_S_edge_32 : decode b_S_edge 32 = .ok (.aload_n 0, 1) := by decide +kernel
theorem d_S_edge_33 : decode b_S_edge 33 = .ok (.invokevirtual 47, 3) := by decide +kernel
theorem d_S_edge_36 : decode b_S_edge 36 = .ok (.aload_n 0, 1) := by decide +kernel
theorem d_S_edge_37 : decode b_S_edge 37 = .ok (.getfield 20, 3) := by decide +kernel
theorem d_S_edge_40 : decode b_S_edge 40 = .ok (.iload_n 1, 1) := by decide +kernel
theorem d_S_edge_41 : decode b_S_edge 41 = .ok (.iload_n 2, 1) := by decide +kernel
theorem d_S_edge_42 : decode b_S_edge 42 = .ok (.dload_n 3, 1) := by decide +kernel
theorem d_S_edge_43 : decode b_S_edge 43 = .ok (.invokevirtual 66, 3) := by decide +kernel
theorem d_S_edge_46 : decode b_S_edge 46 = .ok (.aload_n 0, 1) := by decide +kernel
theorem d_S_edge_47 : decode b_S_edge 47 = .ok (.getfield 20, 3) := by decide +kernel
theorem d_S_edge_50 : decode b_S_edge 50 = .ok (.getfield 70, 3) := by decide +kernel
theorem d_S_edge_53 : decode b_S_edge 53 = .ok (.iload_n 1, 1) := by decide +kernel
theorem d_S_edge_54 : decode b_S_edge 54 = .ok (.iaload, 1) := by decide +kernel
theorem d_S_edge_55 : decode b_S_edge 55 = .ok (.ireturn, 1) := by decide +kernel
theorem d_S_requireThere_0 : decode b_S_requireThere 0 = .ok (.aload_n 0, 1) := by decide +kernel
theorem d_S_requireThere_1 : decode b_S_requireThere 1 = .ok (.getfield 20, 3) := by decide +kernel
theorem d_S_requireThere_4 : decode b_S_requireThere 4 = .ok (.getfield 50, 3) := by decide +kernel
theorem d_S_requireThere_7 : decode b_S_requireThere 7 = .ok (.iload_n 1, 1) := by decide +kernel
theorem d_S_requireThere_8 : decode b_S_requireThere 8 = .ok (.baload, 1) := by decide +kernel
theorem d_S_requireThere_9 : decode b_S_requireThere 9 = .ok (.ifCond .ne 13, 3) := by decide +kernel
theorem d_S_requireThere_12 : decode b_S_requireThere 12 = .ok (.new 162, 3) := by decide +kernel
theorem d_S_requireThere_15 : decode b_S_requireThere 15 = .ok (.dup, 1) := by decide +kernel
theorem d_S_requireThere_16 : decode b_S_requireThere 16 = .ok (.ldc 164, 2) := by decide +kernel
theorem d_S_requireThere_18 : decode b_S_requireThere 18 = .ok (.invokespecial 166, 3) := by decide +kernel
theorem d_S_requireThere_21 : decode b_S_requireThere 21 = .ok (.athrow, 1) := by decide +kernel
theorem d_S_requireThere_22 : decode b_S_requireThere 22 = .ok (.return_, 1) := by decide +kernel
theorem d_S_remove_0 : decode b_S_remove 0 = .ok (.iload_n 1, 1) := by decide +kernel
theorem d_S_remove_1 : decode b_S_remove 1 = .ok (.iconst 0, 1) := by decide +kernel
theorem d_S_remove_2 : decode b_S_remove 2 = .ok (.bipush 11, 2) := by decide +kernel
theorem d_S_remove_4 : decode b_S_remove 4 = .ok (.invokestatic 37, 3) := by decide +kernel
theorem d_S_remove_7 : decode b_S_remove 7 = .ok (.aload_n 0, 1) := by decide +kernel
theorem d_S_remove_8 : decode b_S_remove 8 = .ok (.iload_n 1, 1) := by decide +kernel
theorem d_S_remove_9 : decode b_S_remove 9 = .ok (.invokevirtual 62, 3) := by decide +kernel
theorem d_S_remove_12 : decode b_S_remove 12 = .ok (.aload_n 0, 1) := by decide +kernel
theorem d_S_remove_13 : decode b_S_remove 13 = .ok (.invokevirtual 47, 3) := by decide +kernel
theorem d_S_remove_16 : decode b_S_remove 16 = .ok (.aload_n 0, 1) := by decide +kernel
theorem d_S_remove_17 : decode b_S_remove 17 = .ok (.getfield 20, 3) := by decide +kernel
theorem d_S_remove_20 : decode b_S_remove 20 = .ok (.iload_n 1, 1) := by decide +kernel
theorem d_S_remove_21 : decode b_S_remove 21 = .ok (.invokevirtual 74, 3) := by decide +kernel
theorem d_S_remove_24 : decode b_S_remove 24 = .ok (.ireturn, 1) := by decide +kernel
theorem d_S_start_0 : decode b_S_start 0 = .ok (.iload_n 1, 1) := by decide +kernel
theorem d_S_start_1 : decode b_S_start 1 = .ok (.iconst 0, 1) := by decide +kernel
theorem d_S_start_2 : decode b_S_start 2 = .ok (.iconst 3, 1) := by decide +kernel
theorem d_S_start_3 : decode b_S_start 3 = .ok (.invokestatic 37, 3) := by decide +kernel
theorem d_S_start_6 : decode b_S_start 6 = .ok (.iload_n 2, 1) := by decide +kernel
theorem d_S_start_7 : decode b_S_start 7 = .ok (.iconst 0, 1) := by decide +kernel
theorem d_S_start_8 : decode b_S_start 8 = .ok (.bipush 30, 2) := by decide +kernel
theorem d_S_start_10 : decode b_S_start 10 = .ok (.invokestatic 37, 3) := by decide +kernel
theorem d_S_start_13 : decode b_S_start 13 = .ok (.aload_n 0, 1) := by decide +kernel
theorem d_S_start_14 : decode b_S_start 14 = .ok (.invokevirtual 47, 3) := by decide +kernel
theorem d_S_start_17 : decode b_S_start 17 = .ok (.aload_n 0, 1) := by decide +kernel
theorem d_S_start_18 : decode b_S_start 18 = .ok (.invokevirtual 78, 3) := by decide +kernel
theorem d_S_start_21 : decode b_S_start 21 = .ok (.aload_n 0, 1) := by decide +kernel
theorem d_S_start_22 : decode b_S_start 22 = .ok (.getfield 33, 3) := by decide +kernel
theorem d_S_start_25 : decode b_S_start 25 = .ok (.iload_n 1, 1) := by decide +kernel
theorem d_S_start_26 : decode b_S_start 26 = .ok (.iload_n 2, 1) := by decide +kernel
theorem d_S_start_27 : decode b_S_start 27 = .ok (.iload_n 3, 1) := by decide +kernel
theorem d_S_start_28 : decode b_S_start 28 = .ok (.invokevirtual 81, 3) := by decide +kernel
theorem d_S_start_31 : decode b_S_start 31 = .ok (.aload_n 0, 1) := by decide +kernel
theorem d_S_start_32 : decode b_S_start 32 = .ok (.getfield 20, 3) := by decide +kernel
theorem d_S_start_35 : decode b_S_start 35 = .ok (.invokevirtual 85, 3) := by decide +kernel
theorem d_S_start_38 : decode b_S_start 38 = .ok (.aload_n 0, 1) := by decide +kernel
theorem d_S_start_39 : decode b_S_start 39 = .ok (.getfield 20, 3) := by decide +kernel
theorem d_S_start_42 : decode b_S_start 42 = .ok (.invokevirtual 88, 3) := by decide +kernel
theorem d_S_start_45 : decode b_S_start 45 = .ok (.aload_n 0, 1) := by decide +kernel
theorem d_S_start_46 : decode b_S_start 46 = .ok (.getfield 20, 3) := by decide +kernel
theorem d_S_start_49 : decode b_S_start 49 = .ok (.iconst 0, 1) := by decide +kernel
theorem d_S_start_50 : decode b_S_start 50 = .ok (.putfield 91, 3) := by decide +kernel
theorem d_S_start_53 : decode b_S_start 53 = .ok (.aload_n 0, 1) := by decide +kernel
theorem d_S_start_54 : decode b_S_start 54 = .ok (.getfield 20, 3) := by decide +kernel
theorem d_S_start_57 : decode b_S_start 57 = .ok (.iload_n 1, 1) := by decide +kernel
theorem d_S_start_58 : decode b_S_start 58 = .ok (.iconst 3, 1) := by decide +kernel
theorem d_S_start_59 : decode b_S_start 59 = .ok (.if_icmp .ne 7, 3) := by decide +kernel
theorem d_S_start_62 : decode b_S_start 62 = .ok (.dconst 1, 1) := by decide +kernel
theorem d_S_start_63 : decode b_S_start 63 = .ok (.goto 4, 3) := by decide +kernel
theorem d_S_start_66 : decode b_S_start 66 = .ok (.dconst 0, 1) := by decide +kernel
theorem d_S_start_67 : decode b_S_start 67 = .ok (.putfield 94, 3) := by decide +kernel
theorem d_S_start_70 : decode b_S_start 70 = .ok (.aload_n 0, 1) := by decide +kernel
theorem d_S_start_71 : decode b_S_start 71 = .ok (.iconst 0, 1) := by decide +kernel
theorem d_S_start_72 : decode b_S_start 72 = .ok (.putfield 13, 3) := by decide +kernel
theorem d_S_start_75 : decode b_S_start 75 = .ok (.aload_n 0, 1) := by decide +kernel
theorem d_S_start_76 : decode b_S_start 76 = .ok (.iconst 1, 1) := by decide +kernel
theorem d_S_start_77 : decode b_S_start 77 = .ok (.putfield 9, 3) := by decide +kernel
theorem d_S_start_80 : decode b_S_start 80 = .ok (.aload_n 0, 1) := by decide +kernel
theorem d_S_start_81 : decode b_S_start 81 = .ok (.getfield 20, 3) := by decide +kernel
theorem d_S_start_84 : decode b_S_start 84 = .ok (.invokevirtual 58, 3) := by decide +kernel
theorem d_S_start_87 : decode b_S_start 87 = .ok (.ireturn, 1) := by decide +kernel
theorem d_S_requireAnyVertex_0 : decode b_S_requireAnyVertex 0 = .ok (.aload_n 0, 1) := by decide +kernel
theorem d_S_requireAnyVertex_1 : decode b_S_requireAnyVertex 1 = .ok (.getfield 20, 3) := by decide +kernel
theorem d_S_requireAnyVertex_4 : decode b_S_requireAnyVertex 4 = .ok (.invokevirtual 58, 3) := by decide +kernel
theorem d_S_requireAnyVertex_7 : decode b_S_requireAnyVertex 7 = .ok (.ifCond .ne 13, 3) := by decide +kernel
theorem d_S_requireAnyVertex_10 : decode b_S_requireAnyVertex 10 = .ok (.new 167, 3) := by decide +kernel
theorem d_S_requireAnyVertex_13 : decode b_S_requireAnyVertex 13 = .ok (.dup, 1) := by decide +kernel
theorem d_S_requireAnyVertex_14 : decode b_S_requireAnyVertex 14 = .ok (.ldc 169, 2) := by decide +kernel
theorem d_S_requireAnyVertex_16 : decode b_S_requireAnyVertex 16 = .ok (.invokespecial 171, 3) := by decide +kernel
theorem d_S_requireAnyVertex_19 : decode b_S_requireAnyVertex 19 = .ok (.athrow, 1) := by decide +kernel
theorem d_S_requireAnyVertex_20 : decode b_S_requireAnyVertex 20 = .ok (.return_, 1) := by decide +kernel
theorem d_S_step_0 : decode b_S_step 0 = .ok (.iload_n 1, 1) := by decide +kernel
theorem d_S_step_1 : decode b_S_step 1 = .ok (.iconst 1, 1) := by decide +kernel
theorem d_S_step_2 : decode b_S_step 2 = .ok (.bipush 10, 2) := by decide +kernel
theorem d_S_step_4 : decode b_S_step 4 = .ok (.invokestatic 37, 3) := by decide +kernel
theorem d_S_step_7 : decode b_S_step 7 = .ok (.aload_n 0, 1) := by decide +kernel
theorem d_S_step_8 : decode b_S_step 8 = .ok (.invokevirtual 98, 3) := by decide +kernel
theorem d_S_step_11 : decode b_S_step 11 = .ok (.iconst 0, 1) := by decide +kernel
theorem d_S_step_12 : decode b_S_step 12 = .ok (.istore_n 2, 1) := by decide +kernel
theorem d_S_step_13 : decode b_S_step 13 = .ok (.iload_n 2, 1) := by decide +kernel
theorem d_S_step_14 : decode b_S_step 14 = .ok (.iload_n 1, 1) := by decide +kernel
theorem d_S_step_15 : decode b_S_step 15 = .ok (.if_icmp .ge 21, 3) := by decide +kernel
theorem d_S_step_18 : decode b_S_step 18 = .ok (.aload_n 0, 1) := by decide +kernel
theorem d_S_step_19 : decode b_S_step 19 = .ok (.getfield 9, 3) := by decide +kernel
theorem d_S_step_22 : decode b_S_step 22 = .ok (.iconst 1, 1) := by decide +kernel
theorem d_S_step_23 : decode b_S_step 23 = .ok (.if_icmp .ne 13, 3) := by decide +kernel
theorem d_S_step_26 : decode b_S_step 26 = .ok (.aload_n 0, 1) := by decide +kernel
theorem d_S_step_27 : decode b_S_step 27 = .ok (.invokevirtual 101, 3) := by decide +kernel
theorem d_S_step_30 : decode b_S_step 30 = .ok (.iinc 2 1, 3) := by decide +kernel
theorem d_S_step_33 : decode b_S_step 33 = .ok (.goto (-20), 3) := by decide +kernel
theorem d_S_step_36 : decode b_S_step 36 = .ok (.iload_n 2, 1) := by decide +kernel
theorem d_S_step_37 : decode b_S_step 37 = .ok (.ireturn, 1) := by decide +kernel
theorem d_S_requireRunning_0 : decode b_S_requireRunning 0 = .ok (.aload_n 0, 1) := by decide +kernel
theorem d_S_requireRunning_1 : decode b_S_requireRunning 1 = .ok (.getfield 9, 3) := by decide +kernel
theorem d_S_requireRunning_4 : decode b_S_requireRunning 4 = .ok (.iconst 1, 1) := by decide +kernel
theorem d_S_requireRunning_5 : decode b_S_requireRunning 5 = .ok (.if_icmp .eq 13, 3) := by decide +kernel
theorem d_S_requireRunning_8 : decode b_S_requireRunning 8 = .ok (.new 167, 3) := by decide +kernel
theorem d_S_requireRunning_11 : decode b_S_requireRunning 11 = .ok (.dup, 1) := by decide +kernel
theorem d_S_requireRunning_12 : decode b_S_requireRunning 12 = .ok (.ldc 174, 2) := by decide +kernel
theorem d_S_requireRunning_14 : decode b_S_requireRunning 14 = .ok (.invokespecial 171, 3) := by decide +kernel
theorem d_S_requireRunning_17 : decode b_S_requireRunning 17 = .ok (.athrow, 1) := by decide +kernel
theorem d_S_requireRunning_18 : decode b_S_requireRunning 18 = .ok (.return_, 1) := by decide +kernel
theorem d_S_takeStep_0 : decode b_S_takeStep 0 = .ok (.aload_n 0, 1) := by decide +kernel
theorem d_S_takeStep_1 : decode b_S_takeStep 1 = .ok (.getfield 24, 3) := by decide +kernel
theorem d_S_takeStep_4 : decode b_S_takeStep 4 = .ok (.aload_n 0, 1) := by decide +kernel
theorem d_S_takeStep_5 : decode b_S_takeStep 5 = .ok (.getfield 20, 3) := by decide +kernel
theorem d_S_takeStep_8 : decode b_S_takeStep 8 = .ok (.invokevirtual 104, 3) := by decide +kernel
theorem d_S_takeStep_11 : decode b_S_takeStep 11 = .ok (.aload_n 0, 1) := by decide +kernel
theorem d_S_takeStep_12 : decode b_S_takeStep 12 = .ok (.getfield 33, 3) := by decide +kernel
theorem d_S_takeStep_15 : decode b_S_takeStep 15 = .ok (.aload_n 0, 1) := by decide +kernel
theorem d_S_takeStep_16 : decode b_S_takeStep 16 = .ok (.getfield 24, 3) := by decide +kernel
theorem d_S_takeStep_19 : decode b_S_takeStep 19 = .ok (.invokevirtual 142, 3) := by decide +kernel
theorem d_S_takeStep_22 : decode b_S_takeStep 22 = .ok (.ifCond .ne 18, 3) := by decide +kernel
theorem d_S_takeStep_25 : decode b_S_takeStep 25 = .ok (.aload_n 0, 1) := by decide +kernel
theorem d_S_takeStep_26 : decode b_S_takeStep 26 = .ok (.iconst 2, 1) := by decide +kernel
theorem d_S_takeStep_27 : decode b_S_takeStep 27 = .ok (.putfield 9, 3) := by decide +kernel
theorem d_S_takeStep_30 : decode b_S_takeStep 30 = .ok (.new 114, 3) := by decide +kernel
theorem d_S_takeStep_33 : decode b_S_takeStep 33 = .ok (.dup, 1) := by decide +kernel
theorem d_S_takeStep_34 : decode b_S_takeStep 34 = .ok (.ldc 146, 2) := by decide +kernel
theorem d_S_takeStep_36 : decode b_S_takeStep 36 = .ok (.invokespecial 118, 3) := by decide +kernel
theorem d_S_takeStep_39 : decode b_S_takeStep 39 = .ok (.athrow, 1) := by decide +kernel
theorem d_S_takeStep_40 : decode b_S_takeStep 40 = .ok (.aload_n 0, 1) := by decide +kernel
theorem d_S_takeStep_41 : decode b_S_takeStep 41 = .ok (.getfield 20, 3) := by decide +kernel
theorem d_S_takeStep_44 : decode b_S_takeStep 44 = .ok (.astore_n 1, 1) := by decide +kernel
theorem d_S_takeStep_45 : decode b_S_takeStep 45 = .ok (.aload_n 0, 1) := by decide +kernel
theorem d_S_takeStep_46 : decode b_S_takeStep 46 = .ok (.aload_n 0, 1) := by decide +kernel
theorem d_S_takeStep_47 : decode b_S_takeStep 47 = .ok (.getfield 24, 3) := by decide +kernel
theorem d_S_takeStep_50 : decode b_S_takeStep 50 = .ok (.putfield 20, 3) := by decide +kernel
theorem d_S_takeStep_53 : decode b_S_takeStep 53 = .ok (.aload_n 0, 1) := by decide +kernel
theorem d_S_takeStep_54 : decode b_S_takeStep 54 = .ok (.aload_n 1, 1) := by decide +kernel
theorem d_S_takeStep_55 : decode b_S_takeStep 55 = .ok (.putfield 24, 3) := by decide +kernel
theorem d_S_takeStep_58 : decode b_S_takeStep 58 = .ok (.aload_n 0, 1) := by decide +kernel
theorem d_S_takeStep_59 : decode b_S_takeStep 59 = .ok (.getfield 20, 3) := by decide +kernel
theorem d_S_takeStep_62 : decode b_S_takeStep 62 = .ok (.invokevirtual 148, 3) := by decide +kernel
theorem d_S_takeStep_65 : decode b_S_takeStep 65 = .ok (.ifCond .eq 8, 3) := by decide +kernel
theorem d_S_takeStep_68 : decode b_S_takeStep 68 = .ok (.aload_n 0, 1) := by decide +kernel
theorem d_S_takeStep_69 : decode b_S_takeStep 69 = .ok (.iconst 0, 1) := by decide +kernel
theorem d_S_takeStep_70 : decode b_S_takeStep 70 = .ok (.putfield 9, 3) := by decide +kernel
theorem d_S_takeStep_73 : decode b_S_takeStep 73 = .ok (.return_, 1) := by decide +kernel
theorem d_S_merge_0 : decode b_S_merge 0 = .ok (.iload_n 0, 1) := by decide +kernel
theorem d_S_merge_1 : decode b_S_merge 1 = .ok (.lookupswitch 51 #[(1, 27), (2, 39)], 27) := by decide +kernel
theorem d_S_merge_28 : decode b_S_merge 28 = .ok (.dload_n 3, 1) := by decide +kernel
theorem d_S_merge_29 : decode b_S_merge 29 = .ok (.dload_n 1, 1) := by decide +kernel
theorem d_S_merge_30 : decode b_S_merge 30 = .ok (.dcmp .g, 1) := by decide +kernel
theorem d_S_merge_31 : decode b_S_merge 31 = .ok (.ifCond .ge 7, 3) := by decide +kernel
theorem d_S_merge_34 : decode b_S_merge 34 = .ok (.dload_n 3, 1) := by decide +kernel
theorem d_S_merge_35 : decode b_S_merge 35 = .ok (.goto 4, 3) := by decide +kernel
theorem d_S_merge_38 : decode b_S_merge 38 = .ok (.dload_n 1, 1) := by decide +kernel
theorem d_S_merge_39 : decode b_S_merge 39 = .ok (.dreturn, 1) := by decide +kernel
theorem d_S_merge_40 : decode b_S_merge 40 = .ok (.dload_n 3, 1) := by decide +kernel
theorem d_S_merge_41 : decode b_S_merge 41 = .ok (.dload_n 1, 1) := by decide +kernel
theorem d_S_merge_42 : decode b_S_merge 42 = .ok (.dcmp .l, 1) := by decide +kernel
theorem d_S_merge_43 : decode b_S_merge 43 = .ok (.ifCond .le 7, 3) := by decide +kernel
theorem d_S_merge_46 : decode b_S_merge 46 = .ok (.dload_n 3, 1) := by decide +kernel
theorem d_S_merge_47 : decode b_S_merge 47 = .ok (.goto 4, 3) := by decide +kernel
theorem d_S_merge_50 : decode b_S_merge 50 = .ok (.dload_n 1, 1) := by decide +kernel
theorem d_S_merge_51 : decode b_S_merge 51 = .ok (.dreturn, 1) := by decide +kernel
theorem d_S_merge_52 : decode b_S_merge 52 = .ok (.dload_n 1, 1) := by decide +kernel
theorem d_S_merge_53 : decode b_S_merge 53 = .ok (.dload_n 3, 1) := by decide +kernel
theorem d_S_merge_54 : decode b_S_merge 54 = .ok (.dadd, 1) := by decide +kernel
theorem d_S_merge_55 : decode b_S_merge 55 = .ok (.dreturn, 1) := by decide +kernel
theorem d_S_save_0 : decode b_S_save 0 = .ok (.aload_n 0, 1) := by decide +kernel
theorem d_S_save_1 : decode b_S_save 1 = .ok (.invokevirtual 98, 3) := by decide +kernel
theorem d_S_save_4 : decode b_S_save 4 = .ok (.aload_n 0, 1) := by decide +kernel
theorem d_S_save_5 : decode b_S_save 5 = .ok (.getfield 27, 3) := by decide +kernel
theorem d_S_save_8 : decode b_S_save 8 = .ok (.aload_n 0, 1) := by decide +kernel
theorem d_S_save_9 : decode b_S_save 9 = .ok (.getfield 20, 3) := by decide +kernel
theorem d_S_save_12 : decode b_S_save 12 = .ok (.invokevirtual 104, 3) := by decide +kernel
theorem d_S_save_15 : decode b_S_save 15 = .ok (.aload_n 0, 1) := by decide +kernel
theorem d_S_save_16 : decode b_S_save 16 = .ok (.iconst 1, 1) := by decide +kernel
theorem d_S_save_17 : decode b_S_save 17 = .ok (.putfield 13, 3) := by decide +kernel
theorem d_S_save_20 : decode b_S_save 20 = .ok (.aload_n 0, 1) := by decide +kernel
theorem d_S_save_21 : decode b_S_save 21 = .ok (.getfield 20, 3) := by decide +kernel
theorem d_S_save_24 : decode b_S_save 24 = .ok (.getfield 91, 3) := by decide +kernel
theorem d_S_save_27 : decode b_S_save 27 = .ok (.ireturn, 1) := by decide +kernel
theorem d_S_lose_0 : decode b_S_lose 0 = .ok (.iload_n 1, 1) := by decide +kernel
theorem d_S_lose_1 : decode b_S_lose 1 = .ok (.iconst 0, 1) := by decide +kernel
theorem d_S_lose_2 : decode b_S_lose 2 = .ok (.iconst 2, 1) := by decide +kernel
theorem d_S_lose_3 : decode b_S_lose 3 = .ok (.invokestatic 37, 3) := by decide +kernel
theorem d_S_lose_6 : decode b_S_lose 6 = .ok (.aload_n 0, 1) := by decide +kernel
theorem d_S_lose_7 : decode b_S_lose 7 = .ok (.invokevirtual 98, 3) := by decide +kernel
theorem d_S_lose_10 : decode b_S_lose 10 = .ok (.aload_n 0, 1) := by decide +kernel
theorem d_S_lose_11 : decode b_S_lose 11 = .ok (.iconst 2, 1) := by decide +kernel
theorem d_S_lose_12 : decode b_S_lose 12 = .ok (.putfield 9, 3) := by decide +kernel
theorem d_S_lose_15 : decode b_S_lose 15 = .ok (.aload_n 0, 1) := by decide +kernel
theorem d_S_lose_16 : decode b_S_lose 16 = .ok (.getfield 20, 3) := by decide +kernel
theorem d_S_lose_19 : decode b_S_lose 19 = .ok (.iload_n 1, 1) := by decide +kernel
theorem d_S_lose_20 : decode b_S_lose 20 = .ok (.invokevirtual 108, 3) := by decide +kernel
theorem d_S_lose_23 : decode b_S_lose 23 = .ok (.ireturn, 1) := by decide +kernel
theorem d_S_recover_0 : decode b_S_recover 0 = .ok (.aload_n 0, 1) := by decide +kernel
theorem d_S_recover_1 : decode b_S_recover 1 = .ok (.invokevirtual 111, 3) := by decide +kernel
theorem d_S_recover_4 : decode b_S_recover 4 = .ok (.aload_n 0, 1) := by decide +kernel
theorem d_S_recover_5 : decode b_S_recover 5 = .ok (.getfield 13, 3) := by decide +kernel
theorem d_S_recover_8 : decode b_S_recover 8 = .ok (.ifCond .ne 18, 3) := by decide +kernel
theorem d_S_recover_11 : decode b_S_recover 11 = .ok (.aload_n 0, 1) := by decide +kernel
theorem d_S_recover_12 : decode b_S_recover 12 = .ok (.iconst 0, 1) := by decide +kernel
theorem d_S_recover_13 : decode b_S_recover 13 = .ok (.putfield 9, 3) := by decide +kernel
theorem d_S_recover_16 : decode b_S_recover 16 = .ok (.new 114, 3) := by decide +kernel
theorem d_S_recover_19 : decode b_S_recover 19 = .ok (.dup, 1) := by decide +kernel
theorem d_S_recover_20 : decode b_S_recover 20 = .ok (.ldc 116, 2) := by decide +kernel
theorem d_S_recover_22 : decode b_S_recover 22 = .ok (.invokespecial 118, 3) := by decide +kernel
theorem d_S_recover_25 : decode b_S_recover 25 = .ok (.athrow, 1) := by decide +kernel
theorem d_S_recover_26 : decode b_S_recover 26 = .ok (.aload_n 0, 1) := by decide +kernel
theorem d_S_recover_27 : decode b_S_recover 27 = .ok (.getfield 20, 3) := by decide +kernel
theorem d_S_recover_30 : decode b_S_recover 30 = .ok (.aload_n 0, 1) := by decide +kernel
theorem d_S_recover_31 : decode b_S_recover 31 = .ok (.getfield 27, 3) := by decide +kernel
theorem d_S_recover_34 : decode b_S_recover 34 = .ok (.invokevirtual 104, 3) := by decide +kernel
theorem d_S_recover_37 : decode b_S_recover 37 = .ok (.aload_n 0, 1) := by decide +kernel
theorem d_S_recover_38 : decode b_S_recover 38 = .ok (.iconst 1, 1) := by decide +kernel
theorem d_S_recover_39 : decode b_S_recover 39 = .ok (.putfield 9, 3) := by decide +kernel
theorem d_S_recover_42 : decode b_S_recover 42 = .ok (.aload_n 0, 1) := by decide +kernel
theorem d_S_recover_43 : decode b_S_recover 43 = .ok (.getfield 20, 3) := by decide +kernel
theorem d_S_recover_46 : decode b_S_recover 46 = .ok (.getfield 91, 3) := by decide +kernel
theorem d_S_recover_49 : decode b_S_recover 49 = .ok (.ireturn, 1) := by decide +kernel
theorem d_S_requireBusy_0 : decode b_S_requireBusy 0 = .ok (.aload_n 0, 1) := by decide +kernel
theorem d_S_requireBusy_1 : decode b_S_requireBusy 1 = .ok (.getfield 9, 3) := by decide +kernel
theorem d_S_requireBusy_4 : decode b_S_requireBusy 4 = .ok (.ifCond .ne 13, 3) := by decide +kernel
theorem d_S_requireBusy_7 : decode b_S_requireBusy 7 = .ok (.new 167, 3) := by decide +kernel
theorem d_S_requireBusy_10 : decode b_S_requireBusy 10 = .ok (.dup, 1) := by decide +kernel
theorem d_S_requireBusy_11 : decode b_S_requireBusy 11 = .ok (.ldc 176, 2) := by decide +kernel
theorem d_S_requireBusy_13 : decode b_S_requireBusy 13 = .ok (.invokespecial 171, 3) := by decide +kernel
theorem d_S_requireBusy_16 : decode b_S_requireBusy 16 = .ok (.athrow, 1) := by decide +kernel
theorem d_S_requireBusy_17 : decode b_S_requireBusy 17 = .ok (.return_, 1) := by decide +kernel
theorem d_S_stop_0 : decode b_S_stop 0 = .ok (.aload_n 0, 1) := by decide +kernel
theorem d_S_stop_1 : decode b_S_stop 1 = .ok (.invokevirtual 111, 3) := by decide +kernel
theorem d_S_stop_4 : decode b_S_stop 4 = .ok (.aload_n 0, 1) := by decide +kernel
theorem d_S_stop_5 : decode b_S_stop 5 = .ok (.iconst 0, 1) := by decide +kernel
theorem d_S_stop_6 : decode b_S_stop 6 = .ok (.putfield 9, 3) := by decide +kernel
theorem d_S_stop_9 : decode b_S_stop 9 = .ok (.aload_n 0, 1) := by decide +kernel
theorem d_S_stop_10 : decode b_S_stop 10 = .ok (.getfield 20, 3) := by decide +kernel
theorem d_S_stop_13 : decode b_S_stop 13 = .ok (.getfield 91, 3) := by decide +kernel
theorem d_S_stop_16 : decode b_S_stop 16 = .ok (.ireturn, 1) := by decide +kernel
theorem d_S_value_0 : decode b_S_value 0 = .ok (.iload_n 1, 1) := by decide +kernel
theorem d_S_value_1 : decode b_S_value 1 = .ok (.iconst 0, 1) := by decide +kernel
theorem d_S_value_2 : decode b_S_value 2 = .ok (.bipush 11, 2) := by decide +kernel
theorem d_S_value_4 : decode b_S_value 4 = .ok (.invokestatic 37, 3) := by decide +kernel
theorem d_S_value_7 : decode b_S_value 7 = .ok (.aload_n 0, 1) := by decide +kernel
theorem d_S_value_8 : decode b_S_value 8 = .ok (.iload_n 1, 1) := by decide +kernel
theorem d_S_value_9 : decode b_S_value 9 = .ok (.invokevirtual 62, 3) := by decide +kernel
theorem d_S_value_12 : decode b_S_value 12 = .ok (.aload_n 0, 1) := by decide +kernel
theorem d_S_value_13 : decode b_S_value 13 = .ok (.getfield 20, 3) := by decide +kernel
theorem d_S_value_16 : decode b_S_value 16 = .ok (.getfield 54, 3) := by decide +kernel
theorem d_S_value_19 : decode b_S_value 19 = .ok (.iload_n 1, 1) := by decide +kernel
theorem d_S_value_20 : decode b_S_value 20 = .ok (.daload, 1) := by decide +kernel
theorem d_S_value_21 : decode b_S_value 21 = .ok (.dreturn, 1) := by decide +kernel
theorem d_S_message_0 : decode b_S_message 0 = .ok (.iload_n 1, 1) := by decide +kernel
theorem d_S_message_1 : decode b_S_message 1 = .ok (.iconst 0, 1) := by decide +kernel
theorem d_S_message_2 : decode b_S_message 2 = .ok (.bipush 11, 2) := by decide +kernel
theorem d_S_message_4 : decode b_S_message 4 = .ok (.invokestatic 37, 3) := by decide +kernel
theorem d_S_message_7 : decode b_S_message 7 = .ok (.aload_n 0, 1) := by decide +kernel
theorem d_S_message_8 : decode b_S_message 8 = .ok (.iload_n 1, 1) := by decide +kernel
theorem d_S_message_9 : decode b_S_message 9 = .ok (.invokevirtual 62, 3) := by decide +kernel
theorem d_S_message_12 : decode b_S_message 12 = .ok (.iload_n 2, 1) := by decide +kernel
theorem d_S_message_13 : decode b_S_message 13 = .ok (.ifCond .lt 12, 3) := by decide +kernel
theorem d_S_message_16 : decode b_S_message 16 = .ok (.iload_n 2, 1) := by decide +kernel
theorem d_S_message_17 : decode b_S_message 17 = .ok (.aload_n 0, 1) := by decide +kernel
theorem d_S_message_18 : decode b_S_message 18 = .ok (.iload_n 1, 1) := by decide +kernel
theorem d_S_message_19 : decode b_S_message 19 = .ok (.invokevirtual 121, 3) := by decide +kernel
theorem d_S_message_22 : decode b_S_message 22 = .ok (.if_icmp .lt 13, 3) := by decide +kernel
theorem d_S_message_25 : decode b_S_message 25 = .ok (.new 124, 3) := by decide +kernel
theorem d_S_message_28 : decode b_S_message 28 = .ok (.dup, 1) := by decide +kernel
theorem d_S_message_29 : decode b_S_message 29 = .ok (.ldc 126, 2) := by decide +kernel
theorem d_S_message_31 : decode b_S_message 31 = .ok (.invokespecial 128, 3) := by decide +kernel
theorem d_S_message_34 : decode b_S_message 34 = .ok (.athrow, 1) := by decide +kernel
theorem d_S_message_35 : decode b_S_message 35 = .ok (.aload_n 0, 1) := by decide +kernel
theorem d_S_message_36 : decode b_S_message 36 = .ok (.getfield 20, 3) := by decide +kernel
theorem d_S_message_39 : decode b_S_message 39 = .ok (.getfield 129, 3) := by decide +kernel
theorem d_S_message_42 : decode b_S_message 42 = .ok (.iload_n 1, 1) := by decide +kernel
theorem d_S_message_43 : decode b_S_message 43 = .ok (.bipush 12, 2) := by decide +kernel
theorem d_S_message_45 : decode b_S_message 45 = .ok (.imul, 1) := by decide +kernel
theorem d_S_message_46 : decode b_S_message 46 = .ok (.iload_n 2, 1) := by decide +kernel
theorem d_S_message_47 : decode b_S_message 47 = .ok (.iadd, 1) := by decide +kernel
theorem d_S_message_48 : decode b_S_message 48 = .ok (.daload, 1) := by decide +kernel
theorem d_S_message_49 : decode b_S_message 49 = .ok (.dreturn, 1) := by decide +kernel
theorem d_S_mailFor_0 : decode b_S_mailFor 0 = .ok (.aload_n 0, 1) := by decide +kernel
theorem d_S_mailFor_1 : decode b_S_mailFor 1 = .ok (.getfield 9, 3) := by decide +kernel
theorem d_S_mailFor_4 : decode b_S_mailFor 4 = .ok (.ifCond .ne 7, 3) := by decide +kernel
theorem d_S_mailFor_7 : decode b_S_mailFor 7 = .ok (.iconst 0, 1) := by decide +kernel
theorem d_S_mailFor_8 : decode b_S_mailFor 8 = .ok (.goto 12, 3) := by decide +kernel
theorem d_S_mailFor_11 : decode b_S_mailFor 11 = .ok (.aload_n 0, 1) := by decide +kernel
theorem d_S_mailFor_12 : decode b_S_mailFor 12 = .ok (.getfield 20, 3) := by decide +kernel
theorem d_S_mailFor_15 : decode b_S_mailFor 15 = .ok (.getfield 152, 3) := by decide +kernel
theorem d_S_mailFor_18 : decode b_S_mailFor 18 = .ok (.iload_n 1, 1) := by decide +kernel
theorem d_S_mailFor_19 : decode b_S_mailFor 19 = .ok (.iaload, 1) := by decide +kernel
theorem d_S_mailFor_20 : decode b_S_mailFor 20 = .ok (.ireturn, 1) := by decide +kernel
theorem d_S_about_0 : decode b_S_about 0 = .ok (.iload_n 1, 1) := by decide +kernel
theorem d_S_about_1 : decode b_S_about 1 = .ok (.iconst 0, 1) := by decide +kernel
theorem d_S_about_2 : decode b_S_about 2 = .ok (.bipush 11, 2) := by decide +kernel
theorem d_S_about_4 : decode b_S_about 4 = .ok (.invokestatic 37, 3) := by decide +kernel
theorem d_S_about_7 : decode b_S_about 7 = .ok (.iload_n 2, 1) := by decide +kernel
theorem d_S_about_8 : decode b_S_about 8 = .ok (.iconst 0, 1) := by decide +kernel
theorem d_S_about_9 : decode b_S_about 9 = .ok (.bipush 14, 2) := by decide +kernel
theorem d_S_about_11 : decode b_S_about 11 = .ok (.invokestatic 37, 3) := by decide +kernel
theorem d_S_about_14 : decode b_S_about 14 = .ok (.aload_n 0, 1) := by decide +kernel
theorem d_S_about_15 : decode b_S_about 15 = .ok (.iload_n 1, 1) := by decide +kernel
theorem d_S_about_16 : decode b_S_about 16 = .ok (.invokevirtual 62, 3) := by decide +kernel
theorem d_S_about_19 : decode b_S_about 19 = .ok (.iload_n 2, 1) := by decide +kernel
theorem d_S_about_20 : decode b_S_about 20 = .ok (.tableswitch 69 0 2 #[28, 38, 44], 28) := by decide +kernel
theorem d_S_about_48 : decode b_S_about 48 = .ok (.aload_n 0, 1) := by decide +kernel
theorem d_S_about_49 : decode b_S_about 49 = .ok (.getfield 20, 3) := by decide +kernel
theorem d_S_about_52 : decode b_S_about 52 = .ok (.getfield 70, 3) := by decide +kernel
theorem d_S_about_55 : decode b_S_about 55 = .ok (.iload_n 1, 1) := by decide +kernel
theorem d_S_about_56 : decode b_S_about 56 = .ok (.iaload, 1) := by decide +kernel
theorem d_S_about_57 : decode b_S_about 57 = .ok (.ireturn, 1) := by decide +kernel
theorem d_S_about_58 : decode b_S_about 58 = .ok (.aload_n 0, 1) := by decide +kernel
theorem d_S_about_59 : decode b_S_about 59 = .ok (.iload_n 1, 1) := by decide +kernel
theorem d_S_about_60 : decode b_S_about 60 = .ok (.invokevirtual 121, 3) := by decide +kernel
theorem d_S_about_63 : decode b_S_about 63 = .ok (.ireturn, 1) := by decide +kernel
theorem d_S_about_64 : decode b_S_about 64 = .ok (.aload_n 0, 1) := by decide +kernel
theorem d_S_about_65 : decode b_S_about 65 = .ok (.getfield 9, 3) := by decide +kernel
theorem d_S_about_68 : decode b_S_about 68 = .ok (.ifCond .eq 19, 3) := by decide +kernel
theorem d_S_about_71 : decode b_S_about 71 = .ok (.aload_n 0, 1) := by decide +kernel
theorem d_S_about_72 : decode b_S_about 72 = .ok (.getfield 20, 3) := by decide +kernel
theorem d_S_about_75 : decode b_S_about 75 = .ok (.getfield 132, 3) := by decide +kernel
theorem d_S_about_78 : decode b_S_about 78 = .ok (.iload_n 1, 1) := by decide +kernel
theorem d_S_about_79 : decode b_S_about 79 = .ok (.baload, 1) := by decide +kernel
theorem d_S_about_80 : decode b_S_about 80 = .ok (.ifCond .eq 7, 3) := by decide +kernel
theorem d_S_about_83 : decode b_S_about 83 = .ok (.iconst 1, 1) := by decide +kernel
theorem d_S_about_84 : decode b_S_about 84 = .ok (.goto 4, 3) := by decide +kernel
theorem d_S_about_87 : decode b_S_about 87 = .ok (.iconst 0, 1) := by decide +kernel
theorem d_S_about_88 : decode b_S_about 88 = .ok (.ireturn, 1) := by decide +kernel
theorem d_S_about_89 : decode b_S_about 89 = .ok (.aload_n 0, 1) := by decide +kernel
theorem d_S_about_90 : decode b_S_about 90 = .ok (.getfield 20, 3) := by decide +kernel
theorem d_S_about_93 : decode b_S_about 93 = .ok (.iload_n 1, 1) := by decide +kernel
theorem d_S_about_94 : decode b_S_about 94 = .ok (.iload_n 2, 1) := by decide +kernel
theorem d_S_about_95 : decode b_S_about 95 = .ok (.iconst 3, 1) := by decide +kernel
theorem d_S_about_96 : decode b_S_about 96 = .ok (.isub, 1) := by decide +kernel
theorem d_S_about_97 : decode b_S_about 97 = .ok (.invokevirtual 135, 3) := by decide +kernel
theorem d_S_about_100 : decode b_S_about 100 = .ok (.ireturn, 1) := by decide +kernel
theorem d_S_count_0 : decode b_S_count 0 = .ok (.iload_n 1, 1) := by decide +kernel
theorem d_S_count_1 : decode b_S_count 1 = .ok (.iconst 0, 1) := by decide +kernel
theorem d_S_count_2 : decode b_S_count 2 = .ok (.iconst 4, 1) := by decide +kernel
theorem d_S_count_3 : decode b_S_count 3 = .ok (.invokestatic 37, 3) := by decide +kernel
theorem d_S_count_6 : decode b_S_count 6 = .ok (.iload_n 1, 1) := by decide +kernel
theorem d_S_count_7 : decode b_S_count 7 = .ok (.tableswitch 63 0 3 #[29, 34, 42, 50], 29) := by decide +kernel
theorem d_S_count_36 : decode b_S_count 36 = .ok (.aload_n 0, 1) := by decide +kernel
theorem d_S_count_37 : decode b_S_count 37 = .ok (.getfield 9, 3) := by decide +kernel
theorem d_S_count_40 : decode b_S_count 40 = .ok (.ireturn, 1) := by decide +kernel
theorem d_S_count_41 : decode b_S_count 41 = .ok (.aload_n 0, 1) := by decide +kernel
theorem d_S_count_42 : decode b_S_count 42 = .ok (.getfield 20, 3) := by decide +kernel
theorem d_S_count_45 : decode b_S_count 45 = .ok (.getfield 91, 3) := by decide +kernel
theorem d_S_count_48 : decode b_S_count 48 = .ok (.ireturn, 1) := by decide +kernel
theorem d_S_count_49 : decode b_S_count 49 = .ok (.aload_n 0, 1) := by decide +kernel
theorem d_S_count_50 : decode b_S_count 50 = .ok (.getfield 20, 3) := by decide +kernel
theorem d_S_count_53 : decode b_S_count 53 = .ok (.invokevirtual 58, 3) := by decide +kernel
theorem d_S_count_56 : decode b_S_count 56 = .ok (.ireturn, 1) := by decide +kernel
theorem d_S_count_57 : decode b_S_count 57 = .ok (.aload_n 0, 1) := by decide +kernel
theorem d_S_count_58 : decode b_S_count 58 = .ok (.getfield 13, 3) := by decide +kernel
theorem d_S_count_61 : decode b_S_count 61 = .ok (.ifCond .eq 7, 3) := by decide +kernel
theorem d_S_count_64 : decode b_S_count 64 = .ok (.iconst 1, 1) := by decide +kernel
theorem d_S_count_65 : decode b_S_count 65 = .ok (.goto 4, 3) := by decide +kernel
theorem d_S_count_68 : decode b_S_count 68 = .ok (.iconst 0, 1) := by decide +kernel
theorem d_S_count_69 : decode b_S_count 69 = .ok (.ireturn, 1) := by decide +kernel
theorem d_S_count_70 : decode b_S_count 70 = .ok (.aload_n 0, 1) := by decide +kernel
theorem d_S_count_71 : decode b_S_count 71 = .ok (.invokevirtual 139, 3) := by decide +kernel
theorem d_S_count_74 : decode b_S_count 74 = .ok (.ireturn, 1) := by decide +kernel
theorem d_S_mailForAll_0 : decode b_S_mailForAll 0 = .ok (.iconst 0, 1) := by decide +kernel
theorem d_S_mailForAll_1 : decode b_S_mailForAll 1 = .ok (.istore_n 1, 1) := by decide +kernel
theorem d_S_mailForAll_2 : decode b_S_mailForAll 2 = .ok (.iconst 0, 1) := by decide +kernel
theorem d_S_mailForAll_3 : decode b_S_mailForAll 3 = .ok (.istore_n 2, 1) := by decide +kernel
theorem d_S_mailForAll_4 : decode b_S_mailForAll 4 = .ok (.iload_n 2, 1) := by decide +kernel
theorem d_S_mailForAll_5 : decode b_S_mailForAll 5 = .ok (.bipush 12, 2) := by decide +kernel
theorem d_S_mailForAll_7 : decode b_S_mailForAll 7 = .ok (.if_icmp .ge 17, 3) := by decide +kernel
theorem d_S_mailForAll_10 : decode b_S_mailForAll 10 = .ok (.iload_n 1, 1) := by decide +kernel
theorem d_S_mailForAll_11 : decode b_S_mailForAll 11 = .ok (.aload_n 0, 1) := by decide +kernel
theorem d_S_mailForAll_12 : decode b_S_mailForAll 12 = .ok (.iload_n 2, 1) := by decide +kernel
theorem d_S_mailForAll_13 : decode b_S_mailForAll 13 = .ok (.invokevirtual 121, 3) := by decide +kernel
theorem d_S_mailForAll_16 : decode b_S_mailForAll 16 = .ok (.iadd, 1) := by decide +kernel
theorem d_S_mailForAll_17 : decode b_S_mailForAll 17 = .ok (.istore_n 1, 1) := by decide +kernel
theorem d_S_mailForAll_18 : decode b_S_mailForAll 18 = .ok (.iinc 2 1, 3) := by decide +kernel
theorem d_S_mailForAll_21 : decode b_S_mailForAll 21 = .ok (.goto (-17), 3) := by decide +kernel
theorem d_S_mailForAll_24 : decode b_S_mailForAll 24 = .ok (.iload_n 1, 1) := by decide +kernel
theorem d_S_mailForAll_25 : decode b_S_mailForAll 25 = .ok (.ireturn, 1) := by decide +kernel
