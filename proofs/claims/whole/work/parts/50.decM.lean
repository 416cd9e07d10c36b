theorem d_M_init_0 : decode b_M_init 0 = .ok (.aload_n 0, 1) := by decide +kernel
theorem d_M_init_1 : decode b_M_init 1 = .ok (.invokespecial 1, 3) := by decide +kernel
theorem d_M_init_4 : decode b_M_init 4 = .ok (.aload_n 0, 1) := by decide +kernel
theorem d_M_init_5 : decode b_M_init 5 = .ok (.bipush 24, 2) := by decide +kernel
theorem d_M_init_7 : decode b_M_init 7 = .ok (.newarray .boolean, 2) := by decide +kernel
theorem d_M_init_9 : decode b_M_init 9 = .ok (.putfield 7, 3) := by decide +kernel
theorem d_M_init_12 : decode b_M_init 12 = .ok (.aload_n 0, 1) := by decide +kernel
theorem d_M_init_13 : decode b_M_init 13 = .ok (.bipush 24, 2) := by decide +kernel
theorem d_M_init_15 : decode b_M_init 15 = .ok (.newarray .double, 2) := by decide +kernel
theorem d_M_init_17 : decode b_M_init 17 = .ok (.putfield 13, 3) := by decide +kernel
theorem d_M_init_20 : decode b_M_init 20 = .ok (.aload_n 0, 1) := by decide +kernel
theorem d_M_init_21 : decode b_M_init 21 = .ok (.bipush 24, 2) := by decide +kernel
theorem d_M_init_23 : decode b_M_init 23 = .ok (.newarray .int, 2) := by decide +kernel
theorem d_M_init_25 : decode b_M_init 25 = .ok (.putfield 17, 3) := by decide +kernel
theorem d_M_init_28 : decode b_M_init 28 = .ok (.aload_n 0, 1) := by decide +kernel
theorem d_M_init_29 : decode b_M_init 29 = .ok (.sipush 288, 3) := by decide +kernel
theorem d_M_init_32 : decode b_M_init 32 = .ok (.newarray .int, 2) := by decide +kernel
theorem d_M_init_34 : decode b_M_init 34 = .ok (.putfield 21, 3) := by decide +kernel
theorem d_M_init_37 : decode b_M_init 37 = .ok (.aload_n 0, 1) := by decide +kernel
theorem d_M_init_38 : decode b_M_init 38 = .ok (.sipush 288, 3) := by decide +kernel
theorem d_M_init_41 : decode b_M_init 41 = .ok (.newarray .double, 2) := by decide +kernel
theorem d_M_init_43 : decode b_M_init 43 = .ok (.putfield 24, 3) := by decide +kernel
theorem d_M_init_46 : decode b_M_init 46 = .ok (.aload_n 0, 1) := by decide +kernel
theorem d_M_init_47 : decode b_M_init 47 = .ok (.bipush 24, 2) := by decide +kernel
theorem d_M_init_49 : decode b_M_init 49 = .ok (.newarray .boolean, 2) := by decide +kernel
theorem d_M_init_51 : decode b_M_init 51 = .ok (.putfield 27, 3) := by decide +kernel
theorem d_M_init_54 : decode b_M_init 54 = .ok (.aload_n 0, 1) := by decide +kernel
theorem d_M_init_55 : decode b_M_init 55 = .ok (.bipush 24, 2) := by decide +kernel
theorem d_M_init_57 : decode b_M_init 57 = .ok (.newarray .int, 2) := by decide +kernel
theorem d_M_init_59 : decode b_M_init 59 = .ok (.putfield 30, 3) := by decide +kernel
theorem d_M_init_62 : decode b_M_init 62 = .ok (.aload_n 0, 1) := by decide +kernel
theorem d_M_init_63 : decode b_M_init 63 = .ok (.sipush 288, 3) := by decide +kernel
theorem d_M_init_66 : decode b_M_init 66 = .ok (.newarray .double, 2) := by decide +kernel
theorem d_M_init_68 : decode b_M_init 68 = .ok (.putfield 33, 3) := by decide +kernel
theorem d_M_init_71 : decode b_M_init 71 = .ok (.aload_n 0, 1) := by decide +kernel
theorem d_M_init_72 : decode b_M_init 72 = .ok (.iconst 2, 1) := by decide +kernel
theorem d_M_init_73 : decode b_M_init 73 = .ok (.newarray .int, 2) := by decide +kernel
theorem d_M_init_75 : decode b_M_init 75 = .ok (.putfield 36, 3) := by decide +kernel
theorem d_M_init_78 : decode b_M_init 78 = .ok (.aload_n 0, 1) := by decide +kernel
theorem d_M_init_79 : decode b_M_init 79 = .ok (.iconst 2, 1) := by decide +kernel
theorem d_M_init_80 : decode b_M_init 80 = .ok (.newarray .double, 2) := by decide +kernel
theorem d_M_init_82 : decode b_M_init 82 = .ok (.putfield 39, 3) := by decide +kernel
theorem d_M_init_85 : decode b_M_init 85 = .ok (.aload_n 0, 1) := by decide +kernel
theorem d_M_init_86 : decode b_M_init 86 = .ok (.sipush 144, 3) := by decide +kernel
theorem d_M_init_89 : decode b_M_init 89 = .ok (.newarray .double, 2) := by decide +kernel
theorem d_M_init_91 : decode b_M_init 91 = .ok (.putfield 42, 3) := by decide +kernel
theorem d_M_init_94 : decode b_M_init 94 = .ok (.aload_n 0, 1) := by decide +kernel
theorem d_M_init_95 : decode b_M_init 95 = .ok (.sipush 144, 3) := by decide +kernel
theorem d_M_init_98 : decode b_M_init 98 = .ok (.newarray .boolean, 2) := by decide +kernel
theorem d_M_init_100 : decode b_M_init 100 = .ok (.putfield 45, 3) := by decide +kernel
theorem d_M_init_103 : decode b_M_init 103 = .ok (.aload_n 0, 1) := by decide +kernel
theorem d_M_init_104 : decode b_M_init 104 = .ok (.bipush 12, 2) := by decide +kernel
theorem d_M_init_106 : decode b_M_init 106 = .ok (.newarray .double, 2) := by decide +kernel
theorem d_M_init_108 : decode b_M_init 108 = .ok (.putfield 48, 3) := by decide +kernel
theorem d_M_init_111 : decode b_M_init 111 = .ok (.aload_n 0, 1) := by decide +kernel
theorem d_M_init_112 : decode b_M_init 112 = .ok (.bipush 12, 2) := by decide +kernel
theorem d_M_init_114 : decode b_M_init 114 = .ok (.newarray .boolean, 2) := by decide +kernel
theorem d_M_init_116 : decode b_M_init 116 = .ok (.putfield 51, 3) := by decide +kernel
theorem d_M_init_119 : decode b_M_init 119 = .ok (.aload_n 0, 1) := by decide +kernel
theorem d_M_init_120 : decode b_M_init 120 = .ok (.bipush 12, 2) := by decide +kernel
theorem d_M_init_122 : decode b_M_init 122 = .ok (.newarray .boolean, 2) := by decide +kernel
theorem d_M_init_124 : decode b_M_init 124 = .ok (.putfield 54, 3) := by decide +kernel
theorem d_M_init_127 : decode b_M_init 127 = .ok (.return_, 1) := by decide +kernel
theorem d_M_thrown_0 : decode b_M_thrown 0 = .ok (.aload_n 0, 1) := by decide +kernel
theorem d_M_thrown_1 : decode b_M_thrown 1 = .ok (.getfield 57, 3) := by decide +kernel
theorem d_M_thrown_4 : decode b_M_thrown 4 = .ok (.ireturn, 1) := by decide +kernel
theorem d_M_vertex_0 : decode b_M_vertex 0 = .ok (.aload_n 0, 1) := by decide +kernel
theorem d_M_vertex_1 : decode b_M_vertex 1 = .ok (.iload_n 1, 1) := by decide +kernel
theorem d_M_vertex_2 : decode b_M_vertex 2 = .ok (.iconst 0, 1) := by decide +kernel
theorem d_M_vertex_3 : decode b_M_vertex 3 = .ok (.bipush 11, 2) := by decide +kernel
theorem d_M_vertex_5 : decode b_M_vertex 5 = .ok (.invokestatic 61, 3) := by decide +kernel
theorem d_M_vertex_8 : decode b_M_vertex 8 = .ok (.ifCond .eq 23, 3) := by decide +kernel
theorem d_M_vertex_11 : decode b_M_vertex 11 = .ok (.dload_n 2, 1) := by decide +kernel
theorem d_M_vertex_12 : decode b_M_vertex 12 = .ok (.ldc2_w 65, 3) := by decide +kernel
theorem d_M_vertex_15 : decode b_M_vertex 15 = .ok (.dcmp .l, 1) := by decide +kernel
theorem d_M_vertex_16 : decode b_M_vertex 16 = .ok (.ifCond .lt 15, 3) := by decide +kernel
theorem d_M_vertex_19 : decode b_M_vertex 19 = .ok (.dload_n 2, 1) := by decide +kernel
theorem d_M_vertex_20 : decode b_M_vertex 20 = .ok (.ldc2_w 67, 3) := by decide +kernel
theorem d_M_vertex_23 : decode b_M_vertex 23 = .ok (.dcmp .g, 1) := by decide +kernel
theorem d_M_vertex_24 : decode b_M_vertex 24 = .ok (.ifCond .gt 7, 3) := by decide +kernel
theorem d_M_vertex_27 : decode b_M_vertex 27 = .ok (.iconst 1, 1) := by decide +kernel
theorem d_M_vertex_28 : decode b_M_vertex 28 = .ok (.goto 4, 3) := by decide +kernel
theorem d_M_vertex_31 : decode b_M_vertex 31 = .ok (.iconst 0, 1) := by decide +kernel
theorem d_M_vertex_32 : decode b_M_vertex 32 = .ok (.iconst 1, 1) := by decide +kernel
theorem d_M_vertex_33 : decode b_M_vertex 33 = .ok (.invokevirtual 69, 3) := by decide +kernel
theorem d_M_vertex_36 : decode b_M_vertex 36 = .ok (.ifCond .ne 5, 3) := by decide +kernel
theorem d_M_vertex_39 : decode b_M_vertex 39 = .ok (.iconst 0, 1) := by decide +kernel
theorem d_M_vertex_40 : decode b_M_vertex 40 = .ok (.ireturn, 1) := by decide +kernel
theorem d_M_vertex_41 : decode b_M_vertex 41 = .ok (.aload_n 0, 1) := by decide +kernel
theorem d_M_vertex_42 : decode b_M_vertex 42 = .ok (.aload_n 0, 1) := by decide +kernel
theorem d_M_vertex_43 : decode b_M_vertex 43 = .ok (.getfield 73, 3) := by decide +kernel
theorem d_M_vertex_46 : decode b_M_vertex 46 = .ok (.ifCond .ne 7, 3) := by decide +kernel
theorem d_M_vertex_49 : decode b_M_vertex 49 = .ok (.iconst 1, 1) := by decide +kernel
theorem d_M_vertex_50 : decode b_M_vertex 50 = .ok (.goto 4, 3) := by decide +kernel
theorem d_M_vertex_53 : decode b_M_vertex 53 = .ok (.iconst 0, 1) := by decide +kernel
theorem d_M_vertex_54 : decode b_M_vertex 54 = .ok (.iconst 2, 1) := by decide +kernel
theorem d_M_vertex_55 : decode b_M_vertex 55 = .ok (.invokevirtual 69, 3) := by decide +kernel
theorem d_M_vertex_58 : decode b_M_vertex 58 = .ok (.ifCond .ne 5, 3) := by decide +kernel
theorem d_M_vertex_61 : decode b_M_vertex 61 = .ok (.iconst 0, 1) := by decide +kernel
theorem d_M_vertex_62 : decode b_M_vertex 62 = .ok (.ireturn, 1) := by decide +kernel
theorem d_M_vertex_63 : decode b_M_vertex 63 = .ok (.aload_n 0, 1) := by decide +kernel
theorem d_M_vertex_64 : decode b_M_vertex 64 = .ok (.getfield 7, 3) := by decide +kernel
theorem d_M_vertex_67 : decode b_M_vertex 67 = .ok (.iload_n 1, 1) := by decide +kernel
theorem d_M_vertex_68 : decode b_M_vertex 68 = .ok (.baload, 1) := by decide +kernel
theorem d_M_vertex_69 : decode b_M_vertex 69 = .ok (.ifCond .ne 10, 3) := by decide +kernel
theorem d_M_vertex_72 : decode b_M_vertex 72 = .ok (.aload_n 0, 1) := by decide +kernel
theorem d_M_vertex_73 : decode b_M_vertex 73 = .ok (.getfield 17, 3) := by decide +kernel
theorem d_M_vertex_76 : decode b_M_vertex 76 = .ok (.iload_n 1, 1) := by decide +kernel
theorem d_M_vertex_77 : decode b_M_vertex 77 = .ok (.iconst 0, 1) := by decide +kernel
theorem d_M_vertex_78 : decode b_M_vertex 78 = .ok (.iastore, 1) := by decide +kernel
theorem d_M_vertex_79 : decode b_M_vertex 79 = .ok (.aload_n 0, 1) := by decide +kernel
theorem d_M_vertex_80 : decode b_M_vertex 80 = .ok (.getfield 7, 3) := by decide +kernel
theorem d_M_vertex_83 : decode b_M_vertex 83 = .ok (.iload_n 1, 1) := by decide +kernel
theorem d_M_vertex_84 : decode b_M_vertex 84 = .ok (.iconst 1, 1) := by decide +kernel
theorem d_M_vertex_85 : decode b_M_vertex 85 = .ok (.bastore, 1) := by decide +kernel
theorem d_M_vertex_86 : decode b_M_vertex 86 = .ok (.aload_n 0, 1) := by decide +kernel
theorem d_M_vertex_87 : decode b_M_vertex 87 = .ok (.getfield 13, 3) := by decide +kernel
theorem d_M_vertex_90 : decode b_M_vertex 90 = .ok (.iload_n 1, 1) := by decide +kernel
theorem d_M_vertex_91 : decode b_M_vertex 91 = .ok (.dload_n 2, 1) := by decide +kernel
theorem d_M_vertex_92 : decode b_M_vertex 92 = .ok (.dastore, 1) := by decide +kernel
theorem d_M_vertex_93 : decode b_M_vertex 93 = .ok (.aload_n 0, 1) := by decide +kernel
theorem d_M_vertex_94 : decode b_M_vertex 94 = .ok (.invokevirtual 76, 3) := by decide +kernel
theorem d_M_vertex_97 : decode b_M_vertex 97 = .ok (.ireturn, 1) := by decide +kernel
theorem d_M_in_0 : decode b_M_in 0 = .ok (.iload_n 0, 1) := by decide +kernel
theorem d_M_in_1 : decode b_M_in 1 = .ok (.iload_n 1, 1) := by decide +kernel
theorem d_M_in_2 : decode b_M_in 2 = .ok (.if_icmp .lt 12, 3) := by decide +kernel
theorem d_M_in_5 : decode b_M_in 5 = .ok (.iload_n 0, 1) := by decide +kernel
theorem d_M_in_6 : decode b_M_in 6 = .ok (.iload_n 2, 1) := by decide +kernel
theorem d_M_in_7 : decode b_M_in 7 = .ok (.if_icmp .gt 7, 3) := by decide +kernel
theorem d_M_in_10 : decode b_M_in 10 = .ok (.iconst 1, 1) := by decide +kernel
theorem d_M_in_11 : decode b_M_in 11 = .ok (.goto 4, 3) := by decide +kernel
theorem d_M_in_14 : decode b_M_in 14 = .ok (.iconst 0, 1) := by decide +kernel
theorem d_M_in_15 : decode b_M_in 15 = .ok (.ireturn, 1) := by decide +kernel
theorem d_M_good_0 : decode b_M_good 0 = .ok (.aload_n 0, 1) := by decide +kernel
theorem d_M_good_1 : decode b_M_good 1 = .ok (.iload_n 1, 1) := by decide +kernel
theorem d_M_good_2 : decode b_M_good 2 = .ok (.ifCond .eq 7, 3) := by decide +kernel
theorem d_M_good_5 : decode b_M_good 5 = .ok (.iconst 0, 1) := by decide +kernel
theorem d_M_good_6 : decode b_M_good 6 = .ok (.goto 4, 3) := by decide +kernel
theorem d_M_good_9 : decode b_M_good 9 = .ok (.iload_n 2, 1) := by decide +kernel
theorem d_M_good_10 : decode b_M_good 10 = .ok (.putfield 57, 3) := by decide +kernel
theorem d_M_good_13 : decode b_M_good 13 = .ok (.iload_n 1, 1) := by decide +kernel
theorem d_M_good_14 : decode b_M_good 14 = .ok (.ireturn, 1) := by decide +kernel
theorem d_M_vertices_0 : decode b_M_vertices 0 = .ok (.iconst 0, 1) := by decide +kernel
theorem d_M_vertices_1 : decode b_M_vertices 1 = .ok (.istore_n 1, 1) := by decide +kernel
theorem d_M_vertices_2 : decode b_M_vertices 2 = .ok (.iconst 0, 1) := by decide +kernel
theorem d_M_vertices_3 : decode b_M_vertices 3 = .ok (.istore_n 2, 1) := by decide +kernel
theorem d_M_vertices_4 : decode b_M_vertices 4 = .ok (.iload_n 2, 1) := by decide +kernel
theorem d_M_vertices_5 : decode b_M_vertices 5 = .ok (.bipush 12, 2) := by decide +kernel
theorem d_M_vertices_7 : decode b_M_vertices 7 = .ok (.if_icmp .ge 21, 3) := by decide +kernel
theorem d_M_vertices_10 : decode b_M_vertices 10 = .ok (.aload_n 0, 1) := by decide +kernel
theorem d_M_vertices_11 : decode b_M_vertices 11 = .ok (.getfield 7, 3) := by decide +kernel
theorem d_M_vertices_14 : decode b_M_vertices 14 = .ok (.iload_n 2, 1) := by decide +kernel
theorem d_M_vertices_15 : decode b_M_vertices 15 = .ok (.baload, 1) := by decide +kernel
theorem d_M_vertices_16 : decode b_M_vertices 16 = .ok (.ifCond .eq 6, 3) := by decide +kernel
theorem d_M_vertices_19 : decode b_M_vertices 19 = .ok (.iinc 1 1, 3) := by decide +kernel
theorem d_M_vertices_22 : decode b_M_vertices 22 = .ok (.iinc 2 1, 3) := by decide +kernel
theorem d_M_vertices_25 : decode b_M_vertices 25 = .ok (.goto (-21), 3) := by decide +kernel
theorem d_M_vertices_28 : decode b_M_vertices 28 = .ok (.iload_n 1, 1) := by decide +kernel
theorem d_M_vertices_29 : decode b_M_vertices 29 = .ok (.ireturn, 1) := by decide +kernel
theorem d_M_edge_0 : decode b_M_edge 0 = .ok (.aload_n 0, 1) := by decide +kernel
theorem d_M_edge_1 : decode b_M_edge 1 = .ok (.iload_n 1, 1) := by decide +kernel
theorem d_M_edge_2 : decode b_M_edge 2 = .ok (.iconst 0, 1) := by decide +kernel
theorem d_M_edge_3 : decode b_M_edge 3 = .ok (.bipush 11, 2) := by decide +kernel
theorem d_M_edge_5 : decode b_M_edge 5 = .ok (.invokestatic 61, 3) := by decide +kernel
theorem d_M_edge_8 : decode b_M_edge 8 = .ok (.ifCond .eq 31, 3) := by decide +kernel
theorem d_M_edge_11 : decode b_M_edge 11 = .ok (.iload_n 2, 1) := by decide +kernel
theorem d_M_edge_12 : decode b_M_edge 12 = .ok (.iconst 0, 1) := by decide +kernel
theorem d_M_edge_13 : decode b_M_edge 13 = .ok (.bipush 11, 2) := by decide +kernel
theorem d_M_edge_15 : decode b_M_edge 15 = .ok (.invokestatic 61, 3) := by decide +kernel
theorem d_M_edge_18 : decode b_M_edge 18 = .ok (.ifCond .eq 21, 3) := by decide +kernel
theorem d_M_edge_21 : decode b_M_edge 21 = .ok (.dload_n 3, 1) := by decide +kernel
theorem d_M_edge_22 : decode b_M_edge 22 = .ok (.dconst 0, 1) := by decide +kernel
theorem d_M_edge_23 : decode b_M_edge 23 = .ok (.dcmp .l, 1) := by decide +kernel
theorem d_M_edge_24 : decode b_M_edge 24 = .ok (.ifCond .lt 15, 3) := by decide +kernel
theorem d_M_edge_27 : decode b_M_edge 27 = .ok (.dload_n 3, 1) := by decide +kernel
theorem d_M_edge_28 : decode b_M_edge 28 = .ok (.ldc2_w 80, 3) := by decide +kernel
theorem d_M_edge_31 : decode b_M_edge 31 = .ok (.dcmp .g, 1) := by decide +kernel
theorem d_M_edge_32 : decode b_M_edge 32 = .ok (.ifCond .gt 7, 3) := by decide +kernel
theorem d_M_edge_35 : decode b_M_edge 35 = .ok (.iconst 1, 1) := by decide +kernel
theorem d_M_edge_36 : decode b_M_edge 36 = .ok (.goto 4, 3) := by decide +kernel
theorem d_M_edge_39 : decode b_M_edge 39 = .ok (.iconst 0, 1) := by decide +kernel
theorem d_M_edge_40 : decode b_M_edge 40 = .ok (.iconst 1, 1) := by decide +kernel
theorem d_M_edge_41 : decode b_M_edge 41 = .ok (.invokevirtual 69, 3) := by decide +kernel
theorem d_M_edge_44 : decode b_M_edge 44 = .ok (.ifCond .ne 5, 3) := by decide +kernel
theorem d_M_edge_47 : decode b_M_edge 47 = .ok (.iconst 0, 1) := by decide +kernel
theorem d_M_edge_48 : decode b_M_edge 48 = .ok (.ireturn, 1) := by decide +kernel
theorem d_M_edge_49 : decode b_M_edge 49 = .ok (.aload_n 0, 1) := by decide +kernel
theorem d_M_edge_50 : decode b_M_edge 50 = .ok (.aload_n 0, 1) := by decide +kernel
theorem d_M_edge_51 : decode b_M_edge 51 = .ok (.getfield 7, 3) := by decide +kernel
theorem d_M_edge_54 : decode b_M_edge 54 = .ok (.iload_n 1, 1) := by decide +kernel
theorem d_M_edge_55 : decode b_M_edge 55 = .ok (.baload, 1) := by decide +kernel
theorem d_M_edge_56 : decode b_M_edge 56 = .ok (.ifCond .eq 16, 3) := by decide +kernel
theorem d_M_edge_59 : decode b_M_edge 59 = .ok (.aload_n 0, 1) := by decide +kernel
theorem d_M_edge_60 : decode b_M_edge 60 = .ok (.getfield 7, 3) := by decide +kernel
theorem d_M_edge_63 : decode b_M_edge 63 = .ok (.iload_n 2, 1) := by decide +kernel
theorem d_M_edge_64 : decode b_M_edge 64 = .ok (.baload, 1) := by decide +kernel
theorem d_M_edge_65 : decode b_M_edge 65 = .ok (.ifCond .eq 7, 3) := by decide +kernel
theorem d_M_edge_68 : decode b_M_edge 68 = .ok (.iconst 1, 1) := by decide +kernel
theorem d_M_edge_69 : decode b_M_edge 69 = .ok (.goto 4, 3) := by decide +kernel
theorem d_M_edge_72 : decode b_M_edge 72 = .ok (.iconst 0, 1) := by decide +kernel
theorem d_M_edge_73 : decode b_M_edge 73 = .ok (.iconst 2, 1) := by decide +kernel
theorem d_M_edge_74 : decode b_M_edge 74 = .ok (.invokevirtual 69, 3) := by decide +kernel
theorem d_M_edge_77 : decode b_M_edge 77 = .ok (.ifCond .ne 5, 3) := by decide +kernel
theorem d_M_edge_80 : decode b_M_edge 80 = .ok (.iconst 0, 1) := by decide +kernel
theorem d_M_edge_81 : decode b_M_edge 81 = .ok (.ireturn, 1) := by decide +kernel
theorem d_M_edge_82 : decode b_M_edge 82 = .ok (.aload_n 0, 1) := by decide +kernel
theorem d_M_edge_83 : decode b_M_edge 83 = .ok (.aload_n 0, 1) := by decide +kernel
theorem d_M_edge_84 : decode b_M_edge 84 = .ok (.getfield 73, 3) := by decide +kernel
theorem d_M_edge_87 : decode b_M_edge 87 = .ok (.ifCond .ne 7, 3) := by decide +kernel
theorem d_M_edge_90 : decode b_M_edge 90 = .ok (.iconst 1, 1) := by decide +kernel
theorem d_M_edge_91 : decode b_M_edge 91 = .ok (.goto 4, 3) := by decide +kernel
theorem d_M_edge_94 : decode b_M_edge 94 = .ok (.iconst 0, 1) := by decide +kernel
theorem d_M_edge_95 : decode b_M_edge 95 = .ok (.iconst 3, 1) := by decide +kernel
theorem d_M_edge_96 : decode b_M_edge 96 = .ok (.invokevirtual 69, 3) := by decide +kernel
theorem d_M_edge_99 : decode b_M_edge 99 = .ok (.ifCond .ne 5, 3) := by decide +kernel
theorem d_M_edge_102 : decode b_M_edge 102 = .ok (.iconst 0, 1) := by decide +kernel
theorem d_M_edge_103 : decode b_M_edge 103 = .ok (.ireturn, 1) := by decide +kernel
theorem d_M_edge_104 : decode b_M_edge 104 = .ok (.aload_n 0, 1) := by decide +kernel
theorem d_M_edge_105 : decode b_M_edge 105 = .ok (.iload_n 1, 1) := by decide +kernel
theorem d_M_edge_106 : decode b_M_edge 106 = .ok (.iload_n 2, 1) := by decide +kernel
theorem d_M_edge_107 : decode b_M_edge 107 = .ok (.invokevirtual 82, 3) := by decide +kernel
theorem d_M_edge_110 : decode b_M_edge 110 = .ok (.istore 5, 2) := by decide +kernel
theorem d_M_edge_112 : decode b_M_edge 112 = .ok (.iload 5, 2) := by decide +kernel
theorem d_M_edge_114 : decode b_M_edge 114 = .ok (.aload_n 0, 1) := by decide +kernel
theorem d_M_edge_115 : decode b_M_edge 115 = .ok (.getfield 17, 3) := by decide +kernel
theorem d_M_edge_118 : decode b_M_edge 118 = .ok (.iload_n 1, 1) := by decide +kernel
theorem d_M_edge_119 : decode b_M_edge 119 = .ok (.iaload, 1) := by decide +kernel
theorem d_M_edge_120 : decode b_M_edge 120 = .ok (.if_icmp .ne 13, 3) := by decide +kernel
theorem d_M_edge_123 : decode b_M_edge 123 = .ok (.aload_n 0, 1) := by decide +kernel
theorem d_M_edge_124 : decode b_M_edge 124 = .ok (.getfield 17, 3) := by decide +kernel
theorem d_M_edge_127 : decode b_M_edge 127 = .ok (.iload_n 1, 1) := by decide +kernel
theorem d_M_edge_128 : decode b_M_edge 128 = .ok (.dup2, 1) := by decide +kernel
theorem d_M_edge_129 : decode b_M_edge 129 = .ok (.iaload, 1) := by decide +kernel
theorem d_M_edge_130 : decode b_M_edge 130 = .ok (.iconst 1, 1) := by decide +kernel
theorem d_M_edge_131 : decode b_M_edge 131 = .ok (.iadd, 1) := by decide +kernel
theorem d_M_edge_132 : decode b_M_edge 132 = .ok (.iastore, 1) := by decide +kernel
theorem d_M_edge_133 : decode b_M_edge 133 = .ok (.aload_n 0, 1) := by decide +kernel
theorem d_M_edge_134 : decode b_M_edge 134 = .ok (.getfield 21, 3) := by decide +kernel
theorem d_M_edge_137 : decode b_M_edge 137 = .ok (.bipush 12, 2) := by decide +kernel
theorem d_M_edge_139 : decode b_M_edge 139 = .ok (.iload_n 1, 1) := by decide +kernel
theorem d_M_edge_140 : decode b_M_edge 140 = .ok (.imul, 1) := by decide +kernel
theorem d_M_edge_141 : decode b_M_edge 141 = .ok (.iload 5, 2) := by decide +kernel
theorem d_M_edge_143 : decode b_M_edge 143 = .ok (.iadd, 1) := by decide +kernel
theorem d_M_edge_144 : decode b_M_edge 144 = .ok (.iload_n 2, 1) := by decide +kernel
theorem d_M_edge_145 : decode b_M_edge 145 = .ok (.iastore, 1) := by decide +kernel
theorem d_M_edge_146 : decode b_M_edge 146 = .ok (.aload_n 0, 1) := by decide +kernel
theorem d_M_edge_147 : decode b_M_edge 147 = .ok (.getfield 24, 3) := by decide +kernel
theorem d_M_edge_150 : decode b_M_edge 150 = .ok (.bipush 12, 2) := by decide +kernel
theorem d_M_edge_152 : decode b_M_edge 152 = .ok (.iload_n 1, 1) := by decide +kernel
theorem d_M_edge_153 : decode b_M_edge 153 = .ok (.imul, 1) := by decide +kernel
theorem d_M_edge_154 : decode b_M_edge 154 = .ok (.iload 5, 2) := by decide +kernel
theorem d_M_edge_156 : decode b_M_edge 156 = .ok (.iadd, 1) := by decide +kernel
theorem d_M_edge_157 : decode b_M_edge 157 = .ok (.dload_n 3, 1) := by decide +kernel
theorem d_M_edge_158 : decode b_M_edge 158 = .ok (.dastore, 1) := by decide +kernel
theorem d_M_edge_159 : decode b_M_edge 159 = .ok (.aload_n 0, 1) := by decide +kernel
theorem d_M_edge_160 : decode b_M_edge 160 = .ok (.getfield 17, 3) := by decide +kernel
theorem d_M_edge_163 : decode b_M_edge 163 = .ok (.iload_n 1, 1) := by decide +kernel
theorem d_M_edge_164 : decode b_M_edge 164 = .ok (.iaload, 1) := by decide +kernel
theorem d_M_edge_165 : decode b_M_edge 165 = .ok (.ireturn, 1) := by decide +kernel
theorem d_M_find_0 : decode b_M_find 0 = .ok (.iconst 0, 1) := by decide +kernel
theorem d_M_find_1 : decode b_M_find 1 = .ok (.istore_n 3, 1) := by decide +kernel
theorem d_M_find_2 : decode b_M_find 2 = .ok (.iload_n 3, 1) := by decide +kernel
theorem d_M_find_3 : decode b_M_find 3 = .ok (.aload_n 0, 1) := by decide +kernel
theorem d_M_find_4 : decode b_M_find 4 = .ok (.getfield 17, 3) := by decide +kernel
theorem d_M_find_7 : decode b_M_find 7 = .ok (.iload_n 1, 1) := by decide +kernel
theorem d_M_find_8 : decode b_M_find 8 = .ok (.iaload, 1) := by decide +kernel
theorem d_M_find_9 : decode b_M_find 9 = .ok (.if_icmp .ge 24, 3) := by decide +kernel
theorem d_M_find_12 : decode b_M_find 12 = .ok (.aload_n 0, 1) := by decide +kernel
theorem d_M_find_13 : decode b_M_find 13 = .ok (.getfield 21, 3) := by decide +kernel
theorem d_M_find_16 : decode b_M_find 16 = .ok (.bipush 12, 2) := by decide +kernel
theorem d_M_find_18 : decode b_M_find 18 = .ok (.iload_n 1, 1) := by decide +kernel
theorem d_M_find_19 : decode b_M_find 19 = .ok (.imul, 1) := by decide +kernel
theorem d_M_find_20 : decode b_M_find 20 = .ok (.iload_n 3, 1) := by decide +kernel
theorem d_M_find_21 : decode b_M_find 21 = .ok (.iadd, 1) := by decide +kernel
theorem d_M_find_22 : decode b_M_find 22 = .ok (.iaload, 1) := by decide +kernel
theorem d_M_find_23 : decode b_M_find 23 = .ok (.iload_n 2, 1) := by decide +kernel
theorem d_M_find_24 : decode b_M_find 24 = .ok (.if_icmp .eq 9, 3) := by decide +kernel
theorem d_M_find_27 : decode b_M_find 27 = .ok (.iinc 3 1, 3) := by decide +kernel
theorem d_M_find_30 : decode b_M_find 30 = .ok (.goto (-28), 3) := by decide +kernel
theorem d_M_find_33 : decode b_M_find 33 = .ok (.iload_n 3, 1) := by decide +kernel
theorem d_M_find_34 : decode b_M_find 34 = .ok (.ireturn, 1) := by decide +kernel
theorem d_M_remove_0 : decode b_M_remove 0 = .ok (.aload_n 0, 1) := by decide +kernel
theorem d_M_remove_1 : decode b_M_remove 1 = .ok (.iload_n 1, 1) := by decide +kernel
theorem d_M_remove_2 : decode b_M_remove 2 = .ok (.iconst 0, 1) := by decide +kernel
theorem d_M_remove_3 : decode b_M_remove 3 = .ok (.bipush 11, 2) := by decide +kernel
theorem d_M_remove_5 : decode b_M_remove 5 = .ok (.invokestatic 61, 3) := by decide +kernel
theorem d_M_remove_8 : decode b_M_remove 8 = .ok (.iconst 1, 1) := by decide +kernel
theorem d_M_remove_9 : decode b_M_remove 9 = .ok (.invokevirtual 69, 3) := by decide +kernel
theorem d_M_remove_12 : decode b_M_remove 12 = .ok (.ifCond .ne 5, 3) := by decide +kernel
theorem d_M_remove_15 : decode b_M_remove 15 = .ok (.iconst 0, 1) := by decide +kernel
theorem d_M_remove_16 : decode b_M_remove 16 = .ok (.ireturn, 1) := by decide +kernel
theorem d_M_remove_17 : decode b_M_remove 17 = .ok (.aload_n 0, 1) := by decide +kernel
theorem d_M_remove_18 : decode b_M_remove 18 = .ok (.aload_n 0, 1) := by decide +kernel
theorem d_M_remove_19 : decode b_M_remove 19 = .ok (.getfield 7, 3) := by decide +kernel
theorem d_M_remove_22 : decode b_M_remove 22 = .ok (.iload_n 1, 1) := by decide +kernel
theorem d_M_remove_23 : decode b_M_remove 23 = .ok (.baload, 1) := by decide +kernel
theorem d_M_remove_24 : decode b_M_remove 24 = .ok (.iconst 2, 1) := by decide +kernel
theorem d_M_remove_25 : decode b_M_remove 25 = .ok (.invokevirtual 69, 3) := by decide +kernel
theorem d_M_remove_28 : decode b_M_remove 28 = .ok (.ifCond .ne 5, 3) := by decide +kernel
theorem d_M_remove_31 : decode b_M_remove 31 = .ok (.iconst 0, 1) := by decide +kernel
theorem d_M_remove_32 : decode b_M_remove 32 = .ok (.ireturn, 1) := by decide +kernel
theorem d_M_remove_33 : decode b_M_remove 33 = .ok (.aload_n 0, 1) := by decide +kernel
theorem d_M_remove_34 : decode b_M_remove 34 = .ok (.aload_n 0, 1) := by decide +kernel
theorem d_M_remove_35 : decode b_M_remove 35 = .ok (.getfield 73, 3) := by decide +kernel
theorem d_M_remove_38 : decode b_M_remove 38 = .ok (.ifCond .ne 7, 3) := by decide +kernel
theorem d_M_remove_41 : decode b_M_remove 41 = .ok (.iconst 1, 1) := by decide +kernel
theorem d_M_remove_42 : decode b_M_remove 42 = .ok (.goto 4, 3) := by decide +kernel
theorem d_M_remove_45 : decode b_M_remove 45 = .ok (.iconst 0, 1) := by decide +kernel
theorem d_M_remove_46 : decode b_M_remove 46 = .ok (.iconst 3, 1) := by decide +kernel
theorem d_M_remove_47 : decode b_M_remove 47 = .ok (.invokevirtual 69, 3) := by decide +kernel
theorem d_M_remove_50 : decode b_M_remove 50 = .ok (.ifCond .eq 11, 3) := by decide +kernel
theorem d_M_remove_53 : decode b_M_remove 53 = .ok (.aload_n 0, 1) := by decide +kernel
theorem d_M_remove_54 : decode b_M_remove 54 = .ok (.iload_n 1, 1) := by decide +kernel
theorem d_M_remove_55 : decode b_M_remove 55 = .ok (.invokevirtual 90, 3) := by decide +kernel
theorem d_M_remove_58 : decode b_M_remove 58 = .ok (.goto 4, 3) := by decide +kernel
theorem d_M_remove_61 : decode b_M_remove 61 = .ok (.iconst 0, 1) := by decide +kernel
theorem d_M_remove_62 : decode b_M_remove 62 = .ok (.ireturn, 1) := by decide +kernel
theorem d_M_take_0 : decode b_M_take 0 = .ok (.aload_n 0, 1) := by decide +kernel
theorem d_M_take_1 : decode b_M_take 1 = .ok (.getfield 7, 3) := by decide +kernel
theorem d_M_take_4 : decode b_M_take 4 = .ok (.iload_n 1, 1) := by decide +kernel
theorem d_M_take_5 : decode b_M_take 5 = .ok (.iconst 0, 1) := by decide +kernel
theorem d_M_take_6 : decode b_M_take 6 = .ok (.bastore, 1) := by decide +kernel
theorem d_M_take_7 : decode b_M_take 7 = .ok (.aload_n 0, 1) := by decide +kernel
theorem d_M_take_8 : decode b_M_take 8 = .ok (.getfield 27, 3) := by decide +kernel
theorem d_M_take_11 : decode b_M_take 11 = .ok (.iload_n 1, 1) := by decide +kernel
theorem d_M_take_12 : decode b_M_take 12 = .ok (.iconst 0, 1) := by decide +kernel
theorem d_M_take_13 : decode b_M_take 13 = .ok (.bastore, 1) := by decide +kernel
theorem d_M_take_14 : decode b_M_take 14 = .ok (.aload_n 0, 1) := by decide +kernel
theorem d_M_take_15 : decode b_M_take 15 = .ok (.getfield 30, 3) := by decide +kernel
theorem d_M_take_18 : decode b_M_take 18 = .ok (.iload_n 1, 1) := by decide +kernel
theorem d_M_take_19 : decode b_M_take 19 = .ok (.iconst 0, 1) := by decide +kernel
theorem d_M_take_20 : decode b_M_take 20 = .ok (.iastore, 1) := by decide +kernel
theorem d_M_take_21 : decode b_M_take 21 = .ok (.iconst 0, 1) := by decide +kernel
theorem d_M_take_22 : decode b_M_take 22 = .ok (.istore_n 2, 1) := by decide +kernel
theorem d_M_take_23 : decode b_M_take 23 = .ok (.iconst 0, 1) := by decide +kernel
theorem d_M_take_24 : decode b_M_take 24 = .ok (.istore_n 3, 1) := by decide +kernel
theorem d_M_take_25 : decode b_M_take 25 = .ok (.iload_n 3, 1) := by decide +kernel
theorem d_M_take_26 : decode b_M_take 26 = .ok (.bipush 12, 2) := by decide +kernel
theorem d_M_take_28 : decode b_M_take 28 = .ok (.if_icmp .ge 35, 3) := by decide +kernel
theorem d_M_take_31 : decode b_M_take 31 = .ok (.iload_n 3, 1) := by decide +kernel
theorem d_M_take_32 : decode b_M_take 32 = .ok (.iload_n 1, 1) := by decide +kernel
theorem d_M_take_33 : decode b_M_take 33 = .ok (.if_icmp .eq 24, 3) := by decide +kernel
theorem d_M_take_36 : decode b_M_take 36 = .ok (.aload_n 0, 1) := by decide +kernel
theorem d_M_take_37 : decode b_M_take 37 = .ok (.getfield 7, 3) := by decide +kernel
theorem d_M_take_40 : decode b_M_take 40 = .ok (.iload_n 3, 1) := by decide +kernel
theorem d_M_take_41 : decode b_M_take 41 = .ok (.baload, 1) := by decide +kernel
theorem d_M_take_42 : decode b_M_take 42 = .ok (.ifCond .eq 15, 3) := by decide +kernel
theorem d_M_take_45 : decode b_M_take 45 = .ok (.aload_n 0, 1) := by decide +kernel
theorem d_M_take_46 : decode b_M_take 46 = .ok (.iload_n 3, 1) := by decide +kernel
theorem d_M_take_47 : decode b_M_take 47 = .ok (.iload_n 1, 1) := by decide +kernel
theorem d_M_take_48 : decode b_M_take 48 = .ok (.invokevirtual 86, 3) := by decide +kernel
theorem d_M_take_51 : decode b_M_take 51 = .ok (.ifCond .eq 6, 3) := by decide +kernel
theorem d_M_take_54 : decode b_M_take 54 = .ok (.iinc 2 1, 3) := by decide +kernel
theorem d_M_take_57 : decode b_M_take 57 = .ok (.iinc 3 1, 3) := by decide +kernel
theorem d_M_take_60 : decode b_M_take 60 = .ok (.goto (-35), 3) := by decide +kernel
theorem d_M_take_63 : decode b_M_take 63 = .ok (.iload_n 2, 1) := by decide +kernel
theorem d_M_take_64 : decode b_M_take 64 = .ok (.ireturn, 1) := by decide +kernel
theorem d_M_drop_0 : decode b_M_drop 0 = .ok (.aload_n 0, 1) := by decide +kernel
theorem d_M_drop_1 : decode b_M_drop 1 = .ok (.iload_n 1, 1) := by decide +kernel
theorem d_M_drop_2 : decode b_M_drop 2 = .ok (.iload_n 2, 1) := by decide +kernel
theorem d_M_drop_3 : decode b_M_drop 3 = .ok (.invokevirtual 82, 3) := by decide +kernel
theorem d_M_drop_6 : decode b_M_drop 6 = .ok (.istore_n 3, 1) := by decide +kernel
theorem d_M_drop_7 : decode b_M_drop 7 = .ok (.iload_n 3, 1) := by decide +kernel
theorem d_M_drop_8 : decode b_M_drop 8 = .ok (.aload_n 0, 1) := by decide +kernel
theorem d_M_drop_9 : decode b_M_drop 9 = .ok (.getfield 17, 3) := by decide +kernel
theorem d_M_drop_12 : decode b_M_drop 12 = .ok (.iload_n 1, 1) := by decide +kernel
theorem d_M_drop_13 : decode b_M_drop 13 = .ok (.iaload, 1) := by decide +kernel
theorem d_M_drop_14 : decode b_M_drop 14 = .ok (.if_icmp .ne 5, 3) := by decide +kernel
theorem d_M_drop_17 : decode b_M_drop 17 = .ok (.iconst 0, 1) := by decide +kernel
theorem d_M_drop_18 : decode b_M_drop 18 = .ok (.ireturn, 1) := by decide +kernel
theorem d_M_drop_19 : decode b_M_drop 19 = .ok (.aload_n 0, 1) := by decide +kernel
theorem d_M_drop_20 : decode b_M_drop 20 = .ok (.getfield 17, 3) := by decide +kernel
theorem d_M_drop_23 : decode b_M_drop 23 = .ok (.iload_n 1, 1) := by decide +kernel
theorem d_M_drop_24 : decode b_M_drop 24 = .ok (.dup2, 1) := by decide +kernel
theorem d_M_drop_25 : decode b_M_drop 25 = .ok (.iaload, 1) := by decide +kernel
theorem d_M_drop_26 : decode b_M_drop 26 = .ok (.iconst 1, 1) := by decide +kernel
theorem d_M_drop_27 : decode b_M_drop 27 = .ok (.isub, 1) := by decide +kernel
theorem d_M_drop_28 : decode b_M_drop 28 = .ok (.iastore, 1) := by decide +kernel
theorem d_M_drop_29 : decode b_M_drop 29 = .ok (.bipush 12, 2) := by decide +kernel
theorem d_M_drop_31 : decode b_M_drop 31 = .ok (.iload_n 1, 1) := by decide +kernel
theorem d_M_drop_32 : decode b_M_drop 32 = .ok (.imul, 1) := by decide +kernel
theorem d_M_drop_33 : decode b_M_drop 33 = .ok (.iload_n 3, 1) := by decide +kernel
theorem d_M_drop_34 : decode b_M_drop 34 = .ok (.iadd, 1) := by decide +kernel
theorem d_M_drop_35 : decode b_M_drop 35 = .ok (.istore 4, 2) := by decide +kernel
theorem d_M_drop_37 : decode b_M_drop 37 = .ok (.iload 4, 2) := by decide +kernel
theorem d_M_drop_39 : decode b_M_drop 39 = .ok (.bipush 12, 2) := by decide +kernel
theorem d_M_drop_41 : decode b_M_drop 41 = .ok (.iload_n 1, 1) := by decide +kernel
theorem d_M_drop_42 : decode b_M_drop 42 = .ok (.imul, 1) := by decide +kernel
theorem d_M_drop_43 : decode b_M_drop 43 = .ok (.aload_n 0, 1) := by decide +kernel
theorem d_M_drop_44 : decode b_M_drop 44 = .ok (.getfield 17, 3) := by decide +kernel
theorem d_M_drop_47 : decode b_M_drop 47 = .ok (.iload_n 1, 1) := by decide +kernel
theorem d_M_drop_48 : decode b_M_drop 48 = .ok (.iaload, 1) := by decide +kernel
theorem d_M_drop_49 : decode b_M_drop 49 = .ok (.iadd, 1) := by decide +kernel
theorem d_M_drop_50 : decode b_M_drop 50 = .ok (.if_icmp .ge 41, 3) := by decide +kernel
theorem d_M_drop_53 : decode b_M_drop 53 = .ok (.aload_n 0, 1) := by decide +kernel
theorem d_M_drop_54 : decode b_M_drop 54 = .ok (.getfield 21, 3) := by decide +kernel
theorem d_M_drop_57 : decode b_M_drop 57 = .ok (.iload 4, 2) := by decide +kernel
theorem d_M_drop_59 : decode b_M_drop 59 = .ok (.aload_n 0, 1) := by decide +kernel
theorem d_M_drop_60 : decode b_M_drop 60 = .ok (.getfield 21, 3) := by decide +kernel
theorem d_M_drop_63 : decode b_M_drop 63 = .ok (.iload 4, 2) := by decide +kernel
theorem d_M_drop_65 : decode b_M_drop 65 = .ok (.iconst 1, 1) := by decide +kernel
theorem d_M_drop_66 : decode b_M_drop 66 = .ok (.iadd, 1) := by decide +kernel
theorem d_M_drop_67 : decode b_M_drop 67 = .ok (.iaload, 1) := by decide +kernel
theorem d_M_drop_68 : decode b_M_drop 68 = .ok (.iastore, 1) := by decide +kernel
theorem d_M_drop_69 : decode b_M_drop 69 = .ok (.aload_n 0, 1) := by decide +kernel
theorem d_M_drop_70 : decode b_M_drop 70 = .ok (.getfield 24, 3) := by decide +kernel
theorem d_M_drop_73 : decode b_M_drop 73 = .ok (.iload 4, 2) := by decide +kernel
theorem d_M_drop_75 : decode b_M_drop 75 = .ok (.aload_n 0, 1) := by decide +kernel
theorem d_M_drop_76 : decode b_M_drop 76 = .ok (.getfield 24, 3) := by decide +kernel
theorem d_M_drop_79 : decode b_M_drop 79 = .ok (.iload 4, 2) := by decide +kernel
theorem d_M_drop_81 : decode b_M_drop 81 = .ok (.iconst 1, 1) := by decide +kernel
theorem d_M_drop_82 : decode b_M_drop 82 = .ok (.iadd, 1) := by decide +kernel
theorem d_M_drop_83 : decode b_M_drop 83 = .ok (.daload, 1) := by decide +kernel
theorem d_M_drop_84 : decode b_M_drop 84 = .ok (.dastore, 1) := by decide +kernel
theorem d_M_drop_85 : decode b_M_drop 85 = .ok (.iinc 4 1, 3) := by decide +kernel
theorem d_M_drop_88 : decode b_M_drop 88 = .ok (.goto (-51), 3) := by decide +kernel
theorem d_M_drop_91 : decode b_M_drop 91 = .ok (.iconst 1, 1) := by decide +kernel
theorem d_M_drop_92 : decode b_M_drop 92 = .ok (.ireturn, 1) := by decide +kernel
theorem d_M_start_0 : decode b_M_start 0 = .ok (.aload_n 0, 1) := by decide +kernel
theorem d_M_start_1 : decode b_M_start 1 = .ok (.iload_n 1, 1) := by decide +kernel
theorem d_M_start_2 : decode b_M_start 2 = .ok (.iconst 0, 1) := by decide +kernel
theorem d_M_start_3 : decode b_M_start 3 = .ok (.iconst 3, 1) := by decide +kernel
theorem d_M_start_4 : decode b_M_start 4 = .ok (.invokestatic 61, 3) := by decide +kernel
theorem d_M_start_7 : decode b_M_start 7 = .ok (.ifCond .eq 17, 3) := by decide +kernel
theorem d_M_start_10 : decode b_M_start 10 = .ok (.iload_n 2, 1) := by decide +kernel
theorem d_M_start_11 : decode b_M_start 11 = .ok (.iconst 0, 1) := by decide +kernel
theorem d_M_start_12 : decode b_M_start 12 = .ok (.bipush 30, 2) := by decide +kernel
theorem d_M_start_14 : decode b_M_start 14 = .ok (.invokestatic 61, 3) := by decide +kernel
theorem d_M_start_17 : decode b_M_start 17 = .ok (.ifCond .eq 7, 3) := by decide +kernel
theorem d_M_start_20 : decode b_M_start 20 = .ok (.iconst 1, 1) := by decide +kernel
theorem d_M_start_21 : decode b_M_start 21 = .ok (.goto 4, 3) := by decide +kernel
theorem d_M_start_24 : decode b_M_start 24 = .ok (.iconst 0, 1) := by decide +kernel
theorem d_M_start_25 : decode b_M_start 25 = .ok (.iconst 1, 1) := by decide +kernel
theorem d_M_start_26 : decode b_M_start 26 = .ok (.invokevirtual 69, 3) := by decide +kernel
theorem d_M_start_29 : decode b_M_start 29 = .ok (.ifCond .ne 5, 3) := by decide +kernel
theorem d_M_start_32 : decode b_M_start 32 = .ok (.iconst 0, 1) := by decide +kernel
theorem d_M_start_33 : decode b_M_start 33 = .ok (.ireturn, 1) := by decide +kernel
theorem d_M_start_34 : decode b_M_start 34 = .ok (.aload_n 0, 1) := by decide +kernel
theorem d_M_start_35 : decode b_M_start 35 = .ok (.aload_n 0, 1) := by decide +kernel
theorem d_M_start_36 : decode b_M_start 36 = .ok (.getfield 73, 3) := by decide +kernel
theorem d_M_start_39 : decode b_M_start 39 = .ok (.ifCond .ne 14, 3) := by decide +kernel
theorem d_M_start_42 : decode b_M_start 42 = .ok (.aload_n 0, 1) := by decide +kernel
theorem d_M_start_43 : decode b_M_start 43 = .ok (.invokevirtual 76, 3) := by decide +kernel
theorem d_M_start_46 : decode b_M_start 46 = .ok (.ifCond .le 7, 3) := by decide +kernel
theorem d_M_start_49 : decode b_M_start 49 = .ok (.iconst 1, 1) := by decide +kernel
theorem d_M_start_50 : decode b_M_start 50 = .ok (.goto 4, 3) := by decide +kernel
theorem d_M_start_53 : decode b_M_start 53 = .ok (.iconst 0, 1) := by decide +kernel
theorem d_M_start_54 : decode b_M_start 54 = .ok (.iconst 2, 1) := by decide +kernel
theorem d_M_start_55 : decode b_M_start 55 = .ok (.invokevirtual 69, 3) := by decide +kernel
theorem d_M_start_58 : decode b_M_start 58 = .ok (.ifCond .ne 5, 3) := by decide +kernel
theorem d_M_start_61 : decode b_M_start 61 = .ok (.iconst 0, 1) := by decide +kernel
theorem d_M_start_62 : decode b_M_start 62 = .ok (.ireturn, 1) := by decide +kernel
theorem d_M_start_63 : decode b_M_start 63 = .ok (.aload_n 0, 1) := by decide +kernel
theorem d_M_start_64 : decode b_M_start 64 = .ok (.iconst 1, 1) := by decide +kernel
theorem d_M_start_65 : decode b_M_start 65 = .ok (.putfield 73, 3) := by decide +kernel
theorem d_M_start_68 : decode b_M_start 68 = .ok (.aload_n 0, 1) := by decide +kernel
theorem d_M_start_69 : decode b_M_start 69 = .ok (.iload_n 1, 1) := by decide +kernel
theorem d_M_start_70 : decode b_M_start 70 = .ok (.putfield 94, 3) := by decide +kernel
theorem d_M_start_73 : decode b_M_start 73 = .ok (.aload_n 0, 1) := by decide +kernel
theorem d_M_start_74 : decode b_M_start 74 = .ok (.iload_n 2, 1) := by decide +kernel
theorem d_M_start_75 : decode b_M_start 75 = .ok (.putfield 97, 3) := by decide +kernel
theorem d_M_start_78 : decode b_M_start 78 = .ok (.aload_n 0, 1) := by decide +kernel
theorem d_M_start_79 : decode b_M_start 79 = .ok (.iload_n 3, 1) := by decide +kernel
theorem d_M_start_80 : decode b_M_start 80 = .ok (.putfield 100, 3) := by decide +kernel
theorem d_M_start_83 : decode b_M_start 83 = .ok (.aload_n 0, 1) := by decide +kernel
theorem d_M_start_84 : decode b_M_start 84 = .ok (.iconst 0, 1) := by decide +kernel
theorem d_M_start_85 : decode b_M_start 85 = .ok (.putfield 104, 3) := by decide +kernel
theorem d_M_start_88 : decode b_M_start 88 = .ok (.aload_n 0, 1) := by decide +kernel
theorem d_M_start_89 : decode b_M_start 89 = .ok (.getfield 36, 3) := by decide +kernel
theorem d_M_start_92 : decode b_M_start 92 = .ok (.iconst 0, 1) := by decide +kernel
theorem d_M_start_93 : decode b_M_start 93 = .ok (.iconst 0, 1) := by decide +kernel
theorem d_M_start_94 : decode b_M_start 94 = .ok (.iastore, 1) := by decide +kernel
theorem d_M_start_95 : decode b_M_start 95 = .ok (.aload_n 0, 1) := by decide +kernel
theorem d_M_start_96 : decode b_M_start 96 = .ok (.getfield 39, 3) := by decide +kernel
theorem d_M_start_99 : decode b_M_start 99 = .ok (.iconst 0, 1) := by decide +kernel
theorem d_M_start_100 : decode b_M_start 100 = .ok (.iload_n 1, 1) := by decide +kernel
theorem d_M_start_101 : decode b_M_start 101 = .ok (.iconst 3, 1) := by decide +kernel
theorem d_M_start_102 : decode b_M_start 102 = .ok (.if_icmp .ne 7, 3) := by decide +kernel
theorem d_M_start_105 : decode b_M_start 105 = .ok (.dconst 1, 1) := by decide +kernel
theorem d_M_start_106 : decode b_M_start 106 = .ok (.goto 4, 3) := by decide +kernel
theorem d_M_start_109 : decode b_M_start 109 = .ok (.dconst 0, 1) := by decide +kernel
theorem d_M_start_110 : decode b_M_start 110 = .ok (.dastore, 1) := by decide +kernel
theorem d_M_start_111 : decode b_M_start 111 = .ok (.iconst 0, 1) := by decide +kernel
theorem d_M_start_112 : decode b_M_start 112 = .ok (.istore 4, 2) := by decide +kernel
theorem d_M_start_114 : decode b_M_start 114 = .ok (.iload 4, 2) := by decide +kernel
theorem d_M_start_116 : decode b_M_start 116 = .ok (.bipush 12, 2) := by decide +kernel
theorem d_M_start_118 : decode b_M_start 118 = .ok (.if_icmp .ge 31, 3) := by decide +kernel
theorem d_M_start_121 : decode b_M_start 121 = .ok (.aload_n 0, 1) := by decide +kernel
theorem d_M_start_122 : decode b_M_start 122 = .ok (.getfield 27, 3) := by decide +kernel
theorem d_M_start_125 : decode b_M_start 125 = .ok (.iload 4, 2) := by decide +kernel
theorem d_M_start_127 : decode b_M_start 127 = .ok (.aload_n 0, 1) := by decide +kernel
theorem d_M_start_128 : decode b_M_start 128 = .ok (.getfield 7, 3) := by decide +kernel
theorem d_M_start_131 : decode b_M_start 131 = .ok (.iload 4, 2) := by decide +kernel
theorem d_M_start_133 : decode b_M_start 133 = .ok (.baload, 1) := by decide +kernel
theorem d_M_start_134 : decode b_M_start 134 = .ok (.bastore, 1) := by decide +kernel
theorem d_M_start_135 : decode b_M_start 135 = .ok (.aload_n 0, 1) := by decide +kernel
theorem d_M_start_136 : decode b_M_start 136 = .ok (.getfield 30, 3) := by decide +kernel
theorem d_M_start_139 : decode b_M_start 139 = .ok (.iload 4, 2) := by decide +kernel
theorem d_M_start_141 : decode b_M_start 141 = .ok (.iconst 0, 1) := by decide +kernel
theorem d_M_start_142 : decode b_M_start 142 = .ok (.iastore, 1) := by decide +kernel
theorem d_M_start_143 : decode b_M_start 143 = .ok (.iinc 4 1, 3) := by decide +kernel
theorem d_M_start_146 : decode b_M_start 146 = .ok (.goto (-32), 3) := by decide +kernel
theorem d_M_start_149 : decode b_M_start 149 = .ok (.aload_n 0, 1) := by decide +kernel
theorem d_M_start_150 : decode b_M_start 150 = .ok (.invokevirtual 76, 3) := by decide +kernel
theorem d_M_start_153 : decode b_M_start 153 = .ok (.ireturn, 1) := by decide +kernel
theorem d_M_step_0 : decode b_M_step 0 = .ok (.aload_n 0, 1) := by decide +kernel
theorem d_M_step_1 : decode b_M_step 1 = .ok (.iload_n 1, 1) := by decide +kernel
theorem d_M_step_2 : decode b_M_step 2 = .ok (.iconst 1, 1) := by decide +kernel
theorem d_M_step_3 : decode b_M_step 3 = .ok (.bipush 10, 2) := by decide +kernel
theorem d_M_step_5 : decode b_M_step 5 = .ok (.invokestatic 61, 3) := by decide +kernel
theorem d_M_step_8 : decode b_M_step 8 = .ok (.iconst 1, 1) := by decide +kernel
theorem d_M_step_9 : decode b_M_step 9 = .ok (.invokevirtual 69, 3) := by decide +kernel
theorem d_M_step_12 : decode b_M_step 12 = .ok (.ifCond .ne 5, 3) := by decide +kernel
theorem d_M_step_15 : decode b_M_step 15 = .ok (.iconst 0, 1) := by decide +kernel
theorem d_M_step_16 : decode b_M_step 16 = .ok (.ireturn, 1) := by decide +kernel
theorem d_M_step_17 : decode b_M_step 17 = .ok (.aload_n 0, 1) := by decide +kernel
theorem d_M_step_18 : decode b_M_step 18 = .ok (.aload_n 0, 1) := by decide +kernel
theorem d_M_step_19 : decode b_M_step 19 = .ok (.getfield 73, 3) := by decide +kernel
theorem d_M_step_22 : decode b_M_step 22 = .ok (.iconst 1, 1) := by decide +kernel
theorem d_M_step_23 : decode b_M_step 23 = .ok (.if_icmp .ne 7, 3) := by decide +kernel
theorem d_M_step_26 : decode b_M_step 26 = .ok (.iconst 1, 1) := by decide +kernel
theorem d_M_step_27 : decode b_M_step 27 = .ok (.goto 4, 3) := by decide +kernel
theorem d_M_step_30 : decode b_M_step 30 = .ok (.iconst 0, 1) := by decide +kernel
theorem d_M_step_31 : decode b_M_step 31 = .ok (.iconst 2, 1) := by decide +kernel
theorem d_M_step_32 : decode b_M_step 32 = .ok (.invokevirtual 69, 3) := by decide +kernel
theorem d_M_step_35 : decode b_M_step 35 = .ok (.ifCond .ne 5, 3) := by decide +kernel
theorem d_M_step_38 : decode b_M_step 38 = .ok (.iconst 0, 1) := by decide +kernel
theorem d_M_step_39 : decode b_M_step 39 = .ok (.ireturn, 1) := by decide +kernel
theorem d_M_step_40 : decode b_M_step 40 = .ok (.iconst 0, 1) := by decide +kernel
theorem d_M_step_41 : decode b_M_step 41 = .ok (.istore_n 2, 1) := by decide +kernel
theorem d_M_step_42 : decode b_M_step 42 = .ok (.iload_n 2, 1) := by decide +kernel
theorem d_M_step_43 : decode b_M_step 43 = .ok (.iload_n 1, 1) := by decide +kernel
theorem d_M_step_44 : decode b_M_step 44 = .ok (.if_icmp .ge 35, 3) := by decide +kernel
theorem d_M_step_47 : decode b_M_step 47 = .ok (.aload_n 0, 1) := by decide +kernel
theorem d_M_step_48 : decode b_M_step 48 = .ok (.getfield 73, 3) := by decide +kernel
theorem d_M_step_51 : decode b_M_step 51 = .ok (.iconst 1, 1) := by decide +kernel
theorem d_M_step_52 : decode b_M_step 52 = .ok (.if_icmp .ne 27, 3) := by decide +kernel
theorem d_M_step_55 : decode b_M_step 55 = .ok (.aload_n 0, 1) := by decide +kernel
theorem d_M_step_56 : decode b_M_step 56 = .ok (.invokevirtual 161, 3) := by decide +kernel
theorem d_M_step_59 : decode b_M_step 59 = .ok (.aload_n 0, 1) := by decide +kernel
theorem d_M_step_60 : decode b_M_step 60 = .ok (.getfield 73, 3) := by decide +kernel
theorem d_M_step_63 : decode b_M_step 63 = .ok (.iconst 2, 1) := by decide +kernel
theorem d_M_step_64 : decode b_M_step 64 = .ok (.if_icmp .ne 9, 3) := by decide +kernel
theorem d_M_step_67 : decode b_M_step 67 = .ok (.aload_n 0, 1) := by decide +kernel
theorem d_M_step_68 : decode b_M_step 68 = .ok (.iconst 3, 1) := by decide +kernel
theorem d_M_step_69 : decode b_M_step 69 = .ok (.invokevirtual 164, 3) := by decide +kernel
theorem d_M_step_72 : decode b_M_step 72 = .ok (.ireturn, 1) := by decide +kernel
theorem d_M_step_73 : decode b_M_step 73 = .ok (.iinc 2 1, 3) := by decide +kernel
theorem d_M_step_76 : decode b_M_step 76 = .ok (.goto (-34), 3) := by decide +kernel
theorem d_M_step_79 : decode b_M_step 79 = .ok (.iload_n 2, 1) := by decide +kernel
theorem d_M_step_80 : decode b_M_step 80 = .ok (.ireturn, 1) := by decide +kernel
theorem d_M_stepOnce_0 : decode b_M_stepOnce 0 = .ok (.aload_n 0, 1) := by decide +kernel
theorem d_M_stepOnce_1 : decode b_M_stepOnce 1 = .ok (.invokevirtual 76, 3) := by decide +kernel
theorem d_M_stepOnce_4 : decode b_M_stepOnce 4 = .ok (.istore_n 1, 1) := by decide +kernel
theorem d_M_stepOnce_5 : decode b_M_stepOnce 5 = .ok (.aload_n 0, 1) := by decide +kernel
theorem d_M_stepOnce_6 : decode b_M_stepOnce 6 = .ok (.iconst 0, 1) := by decide +kernel
theorem d_M_stepOnce_7 : decode b_M_stepOnce 7 = .ok (.putfield 107, 3) := by decide +kernel
theorem d_M_stepOnce_10 : decode b_M_stepOnce 10 = .ok (.aload_n 0, 1) := by decide +kernel
theorem d_M_stepOnce_11 : decode b_M_stepOnce 11 = .ok (.iconst 0, 1) := by decide +kernel
theorem d_M_stepOnce_12 : decode b_M_stepOnce 12 = .ok (.putfield 138, 3) := by decide +kernel
theorem d_M_stepOnce_15 : decode b_M_stepOnce 15 = .ok (.iconst 0, 1) := by decide +kernel
theorem d_M_stepOnce_16 : decode b_M_stepOnce 16 = .ok (.istore_n 2, 1) := by decide +kernel
theorem d_M_stepOnce_17 : decode b_M_stepOnce 17 = .ok (.iload_n 2, 1) := by decide +kernel
theorem d_M_stepOnce_18 : decode b_M_stepOnce 18 = .ok (.sipush 144, 3) := by decide +kernel
theorem d_M_stepOnce_21 : decode b_M_stepOnce 21 = .ok (.if_icmp .ge 16, 3) := by decide +kernel
theorem d_M_stepOnce_24 : decode b_M_stepOnce 24 = .ok (.aload_n 0, 1) := by decide +kernel
theorem d_M_stepOnce_25 : decode b_M_stepOnce 25 = .ok (.getfield 45, 3) := by decide +kernel
theorem d_M_stepOnce_28 : decode b_M_stepOnce 28 = .ok (.iload_n 2, 1) := by decide +kernel
theorem d_M_stepOnce_29 : decode b_M_stepOnce 29 = .ok (.iconst 0, 1) := by decide +kernel
theorem d_M_stepOnce_30 : decode b_M_stepOnce 30 = .ok (.bastore, 1) := by decide +kernel
theorem d_M_stepOnce_31 : decode b_M_stepOnce 31 = .ok (.iinc 2 1, 3) := by decide +kernel
theorem d_M_stepOnce_34 : decode b_M_stepOnce 34 = .ok (.goto (-17), 3) := by decide +kernel
theorem d_M_stepOnce_37 : decode b_M_stepOnce 37 = .ok (.iconst 0, 1) := by decide +kernel
theorem d_M_stepOnce_38 : decode b_M_stepOnce 38 = .ok (.istore_n 2, 1) := by decide +kernel
theorem d_M_stepOnce_39 : decode b_M_stepOnce 39 = .ok (.iload_n 2, 1) := by decide +kernel
theorem d_M_stepOnce_40 : decode b_M_stepOnce 40 = .ok (.bipush 12, 2) := by decide +kernel
theorem d_M_stepOnce_42 : decode b_M_stepOnce 42 = .ok (.if_icmp .ge 40, 3) := by decide +kernel
theorem d_M_stepOnce_45 : decode b_M_stepOnce 45 = .ok (.aload_n 0, 1) := by decide +kernel
theorem d_M_stepOnce_46 : decode b_M_stepOnce 46 = .ok (.getfield 48, 3) := by decide +kernel
theorem d_M_stepOnce_49 : decode b_M_stepOnce 49 = .ok (.iload_n 2, 1) := by decide +kernel
theorem d_M_stepOnce_50 : decode b_M_stepOnce 50 = .ok (.aload_n 0, 1) := by decide +kernel
theorem d_M_stepOnce_51 : decode b_M_stepOnce 51 = .ok (.getfield 13, 3) := by decide +kernel
theorem d_M_stepOnce_54 : decode b_M_stepOnce 54 = .ok (.iload_n 2, 1) := by decide +kernel
theorem d_M_stepOnce_55 : decode b_M_stepOnce 55 = .ok (.daload, 1) := by decide +kernel
theorem d_M_stepOnce_56 : decode b_M_stepOnce 56 = .ok (.dastore, 1) := by decide +kernel
theorem d_M_stepOnce_57 : decode b_M_stepOnce 57 = .ok (.aload_n 0, 1) := by decide +kernel
theorem d_M_stepOnce_58 : decode b_M_stepOnce 58 = .ok (.getfield 51, 3) := by decide +kernel
theorem d_M_stepOnce_61 : decode b_M_stepOnce 61 = .ok (.iload_n 2, 1) := by decide +kernel
theorem d_M_stepOnce_62 : decode b_M_stepOnce 62 = .ok (.aload_n 0, 1) := by decide +kernel
theorem d_M_stepOnce_63 : decode b_M_stepOnce 63 = .ok (.getfield 27, 3) := by decide +kernel
theorem d_M_stepOnce_66 : decode b_M_stepOnce 66 = .ok (.iload_n 2, 1) := by decide +kernel
theorem d_M_stepOnce_67 : decode b_M_stepOnce 67 = .ok (.baload, 1) := by decide +kernel
theorem d_M_stepOnce_68 : decode b_M_stepOnce 68 = .ok (.bastore, 1) := by decide +kernel
theorem d_M_stepOnce_69 : decode b_M_stepOnce 69 = .ok (.aload_n 0, 1) := by decide +kernel
theorem d_M_stepOnce_70 : decode b_M_stepOnce 70 = .ok (.getfield 54, 3) := by decide +kernel
theorem d_M_stepOnce_73 : decode b_M_stepOnce 73 = .ok (.iload_n 2, 1) := by decide +kernel
theorem d_M_stepOnce_74 : decode b_M_stepOnce 74 = .ok (.iconst 0, 1) := by decide +kernel
theorem d_M_stepOnce_75 : decode b_M_stepOnce 75 = .ok (.bastore, 1) := by decide +kernel
theorem d_M_stepOnce_76 : decode b_M_stepOnce 76 = .ok (.iinc 2 1, 3) := by decide +kernel
theorem d_M_stepOnce_79 : decode b_M_stepOnce 79 = .ok (.goto (-40), 3) := by decide +kernel
theorem d_M_stepOnce_82 : decode b_M_stepOnce 82 = .ok (.iconst 0, 1) := by decide +kernel
theorem d_M_stepOnce_83 : decode b_M_stepOnce 83 = .ok (.istore_n 2, 1) := by decide +kernel
theorem d_M_stepOnce_84 : decode b_M_stepOnce 84 = .ok (.iload_n 2, 1) := by decide +kernel
theorem d_M_stepOnce_85 : decode b_M_stepOnce 85 = .ok (.bipush 12, 2) := by decide +kernel
theorem d_M_stepOnce_87 : decode b_M_stepOnce 87 = .ok (.if_icmp .ge 96, 3) := by decide +kernel
theorem d_M_stepOnce_90 : decode b_M_stepOnce 90 = .ok (.aload_n 0, 1) := by decide +kernel
theorem d_M_stepOnce_91 : decode b_M_stepOnce 91 = .ok (.getfield 7, 3) := by decide +kernel
theorem d_M_stepOnce_94 : decode b_M_stepOnce 94 = .ok (.iload_n 2, 1) := by decide +kernel
theorem d_M_stepOnce_95 : decode b_M_stepOnce 95 = .ok (.baload, 1) := by decide +kernel
theorem d_M_stepOnce_96 : decode b_M_stepOnce 96 = .ok (.ifCond .eq 81, 3) := by decide +kernel
theorem d_M_stepOnce_99 : decode b_M_stepOnce 99 = .ok (.aload_n 0, 1) := by decide +kernel
theorem d_M_stepOnce_100 : decode b_M_stepOnce 100 = .ok (.getfield 27, 3) := by decide +kernel
theorem d_M_stepOnce_103 : decode b_M_stepOnce 103 = .ok (.iload_n 2, 1) := by decide +kernel
theorem d_M_stepOnce_104 : decode b_M_stepOnce 104 = .ok (.baload, 1) := by decide +kernel
theorem d_M_stepOnce_105 : decode b_M_stepOnce 105 = .ok (.ifCond .ne 12, 3) := by decide +kernel
theorem d_M_stepOnce_108 : decode b_M_stepOnce 108 = .ok (.aload_n 0, 1) := by decide +kernel
theorem d_M_stepOnce_109 : decode b_M_stepOnce 109 = .ok (.getfield 30, 3) := by decide +kernel
theorem d_M_stepOnce_112 : decode b_M_stepOnce 112 = .ok (.iload_n 2, 1) := by decide +kernel
theorem d_M_stepOnce_113 : decode b_M_stepOnce 113 = .ok (.iaload, 1) := by decide +kernel
theorem d_M_stepOnce_114 : decode b_M_stepOnce 114 = .ok (.ifCond .le 63, 3) := by decide +kernel
