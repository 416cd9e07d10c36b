theorem d_L_vertex_0 : decode b_L_vertex 0 = .ok (.aload 4, 2) := by decide +kernel
theorem d_L_vertex_2 : decode b_L_vertex 2 = .ok (.iconst 0, 1) := by decide +kernel
theorem d_L_vertex_3 : decode b_L_vertex 3 = .ok (.aload_n 0, 1) := by decide +kernel
theorem d_L_vertex_4 : decode b_L_vertex 4 = .ok (.iload_n 1, 1) := by decide +kernel
theorem d_L_vertex_5 : decode b_L_vertex 5 = .ok (.dload_n 2, 1) := by decide +kernel
theorem d_L_vertex_6 : decode b_L_vertex 6 = .ok (.invokevirtual 7, 3) := by decide +kernel
theorem d_L_vertex_9 : decode b_L_vertex 9 = .ok (.i2l, 1) := by decide +kernel
theorem d_L_vertex_10 : decode b_L_vertex 10 = .ok (.lastore, 1) := by decide +kernel
theorem d_L_vertex_11 : decode b_L_vertex 11 = .ok (.goto 11, 3) := by decide +kernel
theorem d_L_vertex_14 : decode b_L_vertex 14 = .ok (.astore 5, 2) := by decide +kernel
theorem d_L_vertex_16 : decode b_L_vertex 16 = .ok (.iconst 1, 1) := by decide +kernel
theorem d_L_vertex_17 : decode b_L_vertex 17 = .ok (.ireturn, 1) := by decide +kernel
theorem d_L_vertex_18 : decode b_L_vertex 18 = .ok (.astore 5, 2) := by decide +kernel
theorem d_L_vertex_20 : decode b_L_vertex 20 = .ok (.iconst 2, 1) := by decide +kernel
theorem d_L_vertex_21 : decode b_L_vertex 21 = .ok (.ireturn, 1) := by decide +kernel
theorem d_L_vertex_22 : decode b_L_vertex 22 = .ok (.iconst 0, 1) := by decide +kernel
theorem d_L_vertex_23 : decode b_L_vertex 23 = .ok (.ireturn, 1) := by decide +kernel
theorem d_L_edge_0 : decode b_L_edge 0 = .ok (.aload 5, 2) := by decide +kernel
theorem d_L_edge_2 : decode b_L_edge 2 = .ok (.iconst 0, 1) := by decide +kernel
theorem d_L_edge_3 : decode b_L_edge 3 = .ok (.aload_n 0, 1) := by decide +kernel
theorem d_L_edge_4 : decode b_L_edge 4 = .ok (.iload_n 1, 1) := by decide +kernel
theorem d_L_edge_5 : decode b_L_edge 5 = .ok (.iload_n 2, 1) := by decide +kernel
theorem d_L_edge_6 : decode b_L_edge 6 = .ok (.dload_n 3, 1) := by decide +kernel
theorem d_L_edge_7 : decode b_L_edge 7 = .ok (.invokevirtual 17, 3) := by decide +kernel
theorem d_L_edge_10 : decode b_L_edge 10 = .ok (.i2l, 1) := by decide +kernel
theorem d_L_edge_11 : decode b_L_edge 11 = .ok (.lastore, 1) := by decide +kernel
theorem d_L_edge_12 : decode b_L_edge 12 = .ok (.goto 15, 3) := by decide +kernel
theorem d_L_edge_15 : decode b_L_edge 15 = .ok (.astore 6, 2) := by decide +kernel
theorem d_L_edge_17 : decode b_L_edge 17 = .ok (.iconst 1, 1) := by decide +kernel
theorem d_L_edge_18 : decode b_L_edge 18 = .ok (.ireturn, 1) := by decide +kernel
theorem d_L_edge_19 : decode b_L_edge 19 = .ok (.astore 6, 2) := by decide +kernel
theorem d_L_edge_21 : decode b_L_edge 21 = .ok (.iconst 2, 1) := by decide +kernel
theorem d_L_edge_22 : decode b_L_edge 22 = .ok (.ireturn, 1) := by decide +kernel
theorem d_L_edge_23 : decode b_L_edge 23 = .ok (.astore 6, 2) := by decide +kernel
theorem d_L_edge_25 : decode b_L_edge 25 = .ok (.iconst 3, 1) := by decide +kernel
theorem d_L_edge_26 : decode b_L_edge 26 = .ok (.ireturn, 1) := by decide +kernel
theorem d_L_edge_27 : decode b_L_edge 27 = .ok (.iconst 0, 1) := by decide +kernel
theorem d_L_edge_28 : decode b_L_edge 28 = .ok (.ireturn, 1) := by decide +kernel
theorem d_L_remove_0 : decode b_L_remove 0 = .ok (.aload_n 2, 1) := by decide +kernel
theorem d_L_remove_1 : decode b_L_remove 1 = .ok (.iconst 0, 1) := by decide +kernel
theorem d_L_remove_2 : decode b_L_remove 2 = .ok (.aload_n 0, 1) := by decide +kernel
theorem d_L_remove_3 : decode b_L_remove 3 = .ok (.iload_n 1, 1) := by decide +kernel
theorem d_L_remove_4 : decode b_L_remove 4 = .ok (.invokevirtual 23, 3) := by decide +kernel
theorem d_L_remove_7 : decode b_L_remove 7 = .ok (.i2l, 1) := by decide +kernel
theorem d_L_remove_8 : decode b_L_remove 8 = .ok (.lastore, 1) := by decide +kernel
theorem d_L_remove_9 : decode b_L_remove 9 = .ok (.goto 12, 3) := by decide +kernel
theorem d_L_remove_12 : decode b_L_remove 12 = .ok (.astore_n 3, 1) := by decide +kernel
theorem d_L_remove_13 : decode b_L_remove 13 = .ok (.iconst 1, 1) := by decide +kernel
theorem d_L_remove_14 : decode b_L_remove 14 = .ok (.ireturn, 1) := by decide +kernel
theorem d_L_remove_15 : decode b_L_remove 15 = .ok (.astore_n 3, 1) := by decide +kernel
theorem d_L_remove_16 : decode b_L_remove 16 = .ok (.iconst 2, 1) := by decide +kernel
theorem d_L_remove_17 : decode b_L_remove 17 = .ok (.ireturn, 1) := by decide +kernel
theorem d_L_remove_18 : decode b_L_remove 18 = .ok (.astore_n 3, 1) := by decide +kernel
theorem d_L_remove_19 : decode b_L_remove 19 = .ok (.iconst 3, 1) := by decide +kernel
theorem d_L_remove_20 : decode b_L_remove 20 = .ok (.ireturn, 1) := by decide +kernel
theorem d_L_remove_21 : decode b_L_remove 21 = .ok (.iconst 0, 1) := by decide +kernel
theorem d_L_remove_22 : decode b_L_remove 22 = .ok (.ireturn, 1) := by decide +kernel
theorem d_L_start_0 : decode b_L_start 0 = .ok (.aload 4, 2) := by decide +kernel
theorem d_L_start_2 : decode b_L_start 2 = .ok (.iconst 0, 1) := by decide +kernel
theorem d_L_start_3 : decode b_L_start 3 = .ok (.aload_n 0, 1) := by decide +kernel
theorem d_L_start_4 : decode b_L_start 4 = .ok (.iload_n 1, 1) := by decide +kernel
theorem d_L_start_5 : decode b_L_start 5 = .ok (.iload_n 2, 1) := by decide +kernel
theorem d_L_start_6 : decode b_L_start 6 = .ok (.iload_n 3, 1) := by decide +kernel
theorem d_L_start_7 : decode b_L_start 7 = .ok (.invokevirtual 27, 3) := by decide +kernel
theorem d_L_start_10 : decode b_L_start 10 = .ok (.i2l, 1) := by decide +kernel
theorem d_L_start_11 : decode b_L_start 11 = .ok (.lastore, 1) := by decide +kernel
theorem d_L_start_12 : decode b_L_start 12 = .ok (.goto 11, 3) := by decide +kernel
theorem d_L_start_15 : decode b_L_start 15 = .ok (.astore 5, 2) := by decide +kernel
theorem d_L_start_17 : decode b_L_start 17 = .ok (.iconst 1, 1) := by decide +kernel
theorem d_L_start_18 : decode b_L_start 18 = .ok (.ireturn, 1) := by decide +kernel
theorem d_L_start_19 : decode b_L_start 19 = .ok (.astore 5, 2) := by decide +kernel
theorem d_L_start_21 : decode b_L_start 21 = .ok (.iconst 2, 1) := by decide +kernel
theorem d_L_start_22 : decode b_L_start 22 = .ok (.ireturn, 1) := by decide +kernel
theorem d_L_start_23 : decode b_L_start 23 = .ok (.iconst 0, 1) := by decide +kernel
theorem d_L_start_24 : decode b_L_start 24 = .ok (.ireturn, 1) := by decide +kernel
theorem d_L_step_0 : decode b_L_step 0 = .ok (.aload_n 2, 1) := by decide +kernel
theorem d_L_step_1 : decode b_L_step 1 = .ok (.iconst 0, 1) := by decide +kernel
theorem d_L_step_2 : decode b_L_step 2 = .ok (.aload_n 0, 1) := by decide +kernel
theorem d_L_step_3 : decode b_L_step 3 = .ok (.iload_n 1, 1) := by decide +kernel
theorem d_L_step_4 : decode b_L_step 4 = .ok (.invokevirtual 31, 3) := by decide +kernel
theorem d_L_step_7 : decode b_L_step 7 = .ok (.i2l, 1) := by decide +kernel
theorem d_L_step_8 : decode b_L_step 8 = .ok (.lastore, 1) := by decide +kernel
theorem d_L_step_9 : decode b_L_step 9 = .ok (.goto 12, 3) := by decide +kernel
theorem d_L_step_12 : decode b_L_step 12 = .ok (.astore_n 3, 1) := by decide +kernel
theorem d_L_step_13 : decode b_L_step 13 = .ok (.iconst 1, 1) := by decide +kernel
theorem d_L_step_14 : decode b_L_step 14 = .ok (.ireturn, 1) := by decide +kernel
theorem d_L_step_15 : decode b_L_step 15 = .ok (.astore_n 3, 1) := by decide +kernel
theorem d_L_step_16 : decode b_L_step 16 = .ok (.iconst 2, 1) := by decide +kernel
theorem d_L_step_17 : decode b_L_step 17 = .ok (.ireturn, 1) := by decide +kernel
theorem d_L_step_18 : decode b_L_step 18 = .ok (.astore_n 3, 1) := by decide +kernel
theorem d_L_step_19 : decode b_L_step 19 = .ok (.iconst 3, 1) := by decide +kernel
theorem d_L_step_20 : decode b_L_step 20 = .ok (.ireturn, 1) := by decide +kernel
theorem d_L_step_21 : decode b_L_step 21 = .ok (.iconst 0, 1) := by decide +kernel
theorem d_L_step_22 : decode b_L_step 22 = .ok (.ireturn, 1) := by decide +kernel
theorem d_L_save_0 : decode b_L_save 0 = .ok (.aload_n 1, 1) := by decide +kernel
theorem d_L_save_1 : decode b_L_save 1 = .ok (.iconst 0, 1) := by decide +kernel
theorem d_L_save_2 : decode b_L_save 2 = .ok (.aload_n 0, 1) := by decide +kernel
theorem d_L_save_3 : decode b_L_save 3 = .ok (.invokevirtual 36, 3) := by decide +kernel
theorem d_L_save_6 : decode b_L_save 6 = .ok (.i2l, 1) := by decide +kernel
theorem d_L_save_7 : decode b_L_save 7 = .ok (.lastore, 1) := by decide +kernel
theorem d_L_save_8 : decode b_L_save 8 = .ok (.goto 6, 3) := by decide +kernel
theorem d_L_save_11 : decode b_L_save 11 = .ok (.astore_n 2, 1) := by decide +kernel
theorem d_L_save_12 : decode b_L_save 12 = .ok (.iconst 1, 1) := by decide +kernel
theorem d_L_save_13 : decode b_L_save 13 = .ok (.ireturn, 1) := by decide +kernel
theorem d_L_save_14 : decode b_L_save 14 = .ok (.iconst 0, 1) := by decide +kernel
theorem d_L_save_15 : decode b_L_save 15 = .ok (.ireturn, 1) := by decide +kernel
theorem d_L_lose_0 : decode b_L_lose 0 = .ok (.aload_n 2, 1) := by decide +kernel
theorem d_L_lose_1 : decode b_L_lose 1 = .ok (.iconst 0, 1) := by decide +kernel
theorem d_L_lose_2 : decode b_L_lose 2 = .ok (.aload_n 0, 1) := by decide +kernel
theorem d_L_lose_3 : decode b_L_lose 3 = .ok (.iload_n 1, 1) := by decide +kernel
theorem d_L_lose_4 : decode b_L_lose 4 = .ok (.invokevirtual 40, 3) := by decide +kernel
theorem d_L_lose_7 : decode b_L_lose 7 = .ok (.i2l, 1) := by decide +kernel
theorem d_L_lose_8 : decode b_L_lose 8 = .ok (.lastore, 1) := by decide +kernel
theorem d_L_lose_9 : decode b_L_lose 9 = .ok (.goto 9, 3) := by decide +kernel
theorem d_L_lose_12 : decode b_L_lose 12 = .ok (.astore_n 3, 1) := by decide +kernel
theorem d_L_lose_13 : decode b_L_lose 13 = .ok (.iconst 1, 1) := by decide +kernel
theorem d_L_lose_14 : decode b_L_lose 14 = .ok (.ireturn, 1) := by decide +kernel
theorem d_L_lose_15 : decode b_L_lose 15 = .ok (.astore_n 3, 1) := by decide +kernel
theorem d_L_lose_16 : decode b_L_lose 16 = .ok (.iconst 2, 1) := by decide +kernel
theorem d_L_lose_17 : decode b_L_lose 17 = .ok (.ireturn, 1) := by decide +kernel
theorem d_L_lose_18 : decode b_L_lose 18 = .ok (.iconst 0, 1) := by decide +kernel
theorem d_L_lose_19 : decode b_L_lose 19 = .ok (.ireturn, 1) := by decide +kernel
theorem d_L_recover_0 : decode b_L_recover 0 = .ok (.aload_n 1, 1) := by decide +kernel
theorem d_L_recover_1 : decode b_L_recover 1 = .ok (.iconst 0, 1) := by decide +kernel
theorem d_L_recover_2 : decode b_L_recover 2 = .ok (.aload_n 0, 1) := by decide +kernel
theorem d_L_recover_3 : decode b_L_recover 3 = .ok (.invokevirtual 43, 3) := by decide +kernel
theorem d_L_recover_6 : decode b_L_recover 6 = .ok (.i2l, 1) := by decide +kernel
theorem d_L_recover_7 : decode b_L_recover 7 = .ok (.lastore, 1) := by decide +kernel
theorem d_L_recover_8 : decode b_L_recover 8 = .ok (.goto 9, 3) := by decide +kernel
theorem d_L_recover_11 : decode b_L_recover 11 = .ok (.astore_n 2, 1) := by decide +kernel
theorem d_L_recover_12 : decode b_L_recover 12 = .ok (.iconst 1, 1) := by decide +kernel
theorem d_L_recover_13 : decode b_L_recover 13 = .ok (.ireturn, 1) := by decide +kernel
theorem d_L_recover_14 : decode b_L_recover 14 = .ok (.astore_n 2, 1) := by decide +kernel
theorem d_L_recover_15 : decode b_L_recover 15 = .ok (.iconst 2, 1) := by decide +kernel
theorem d_L_recover_16 : decode b_L_recover 16 = .ok (.ireturn, 1) := by decide +kernel
theorem d_L_recover_17 : decode b_L_recover 17 = .ok (.iconst 0, 1) := by decide +kernel
theorem d_L_recover_18 : decode b_L_recover 18 = .ok (.ireturn, 1) := by decide +kernel
theorem d_L_stop_0 : decode b_L_stop 0 = .ok (.aload_n 1, 1) := by decide +kernel
theorem d_L_stop_1 : decode b_L_stop 1 = .ok (.iconst 0, 1) := by decide +kernel
theorem d_L_stop_2 : decode b_L_stop 2 = .ok (.aload_n 0, 1) := by decide +kernel
theorem d_L_stop_3 : decode b_L_stop 3 = .ok (.invokevirtual 46, 3) := by decide +kernel
theorem d_L_stop_6 : decode b_L_stop 6 = .ok (.i2l, 1) := by decide +kernel
theorem d_L_stop_7 : decode b_L_stop 7 = .ok (.lastore, 1) := by decide +kernel
theorem d_L_stop_8 : decode b_L_stop 8 = .ok (.goto 6, 3) := by decide +kernel
theorem d_L_stop_11 : decode b_L_stop 11 = .ok (.astore_n 2, 1) := by decide +kernel
theorem d_L_stop_12 : decode b_L_stop 12 = .ok (.iconst 1, 1) := by decide +kernel
theorem d_L_stop_13 : decode b_L_stop 13 = .ok (.ireturn, 1) := by decide +kernel
theorem d_L_stop_14 : decode b_L_stop 14 = .ok (.iconst 0, 1) := by decide +kernel
theorem d_L_stop_15 : decode b_L_stop 15 = .ok (.ireturn, 1) := by decide +kernel
theorem d_L_value_0 : decode b_L_value 0 = .ok (.aload_n 2, 1) := by decide +kernel
theorem d_L_value_1 : decode b_L_value 1 = .ok (.iconst 0, 1) := by decide +kernel
theorem d_L_value_2 : decode b_L_value 2 = .ok (.aload_n 0, 1) := by decide +kernel
theorem d_L_value_3 : decode b_L_value 3 = .ok (.iload_n 1, 1) := by decide +kernel
theorem d_L_value_4 : decode b_L_value 4 = .ok (.invokevirtual 49, 3) := by decide +kernel
theorem d_L_value_7 : decode b_L_value 7 = .ok (.dastore, 1) := by decide +kernel
theorem d_L_value_8 : decode b_L_value 8 = .ok (.goto 9, 3) := by decide +kernel
theorem d_L_value_11 : decode b_L_value 11 = .ok (.astore_n 3, 1) := by decide +kernel
theorem d_L_value_12 : decode b_L_value 12 = .ok (.iconst 1, 1) := by decide +kernel
theorem d_L_value_13 : decode b_L_value 13 = .ok (.ireturn, 1) := by decide +kernel
theorem d_L_value_14 : decode b_L_value 14 = .ok (.astore_n 3, 1) := by decide +kernel
theorem d_L_value_15 : decode b_L_value 15 = .ok (.iconst 2, 1) := by decide +kernel
theorem d_L_value_16 : decode b_L_value 16 = .ok (.ireturn, 1) := by decide +kernel
theorem d_L_value_17 : decode b_L_value 17 = .ok (.iconst 0, 1) := by decide +kernel
theorem d_L_value_18 : decode b_L_value 18 = .ok (.ireturn, 1) := by decide +kernel
theorem d_L_message_0 : decode b_L_message 0 = .ok (.aload_n 3, 1) := by decide +kernel
theorem d_L_message_1 : decode b_L_message 1 = .ok (.iconst 0, 1) := by decide +kernel
theorem d_L_message_2 : decode b_L_message 2 = .ok (.aload_n 0, 1) := by decide +kernel
theorem d_L_message_3 : decode b_L_message 3 = .ok (.iload_n 1, 1) := by decide +kernel
theorem d_L_message_4 : decode b_L_message 4 = .ok (.iload_n 2, 1) := by decide +kernel
theorem d_L_message_5 : decode b_L_message 5 = .ok (.invokevirtual 53, 3) := by decide +kernel
theorem d_L_message_8 : decode b_L_message 8 = .ok (.dastore, 1) := by decide +kernel
theorem d_L_message_9 : decode b_L_message 9 = .ok (.goto 15, 3) := by decide +kernel
theorem d_L_message_12 : decode b_L_message 12 = .ok (.astore 4, 2) := by decide +kernel
theorem d_L_message_14 : decode b_L_message 14 = .ok (.iconst 1, 1) := by decide +kernel
theorem d_L_message_15 : decode b_L_message 15 = .ok (.ireturn, 1) := by decide +kernel
theorem d_L_message_16 : decode b_L_message 16 = .ok (.astore 4, 2) := by decide +kernel
theorem d_L_message_18 : decode b_L_message 18 = .ok (.iconst 2, 1) := by decide +kernel
theorem d_L_message_19 : decode b_L_message 19 = .ok (.ireturn, 1) := by decide +kernel
theorem d_L_message_20 : decode b_L_message 20 = .ok (.astore 4, 2) := by decide +kernel
theorem d_L_message_22 : decode b_L_message 22 = .ok (.iconst 3, 1) := by decide +kernel
theorem d_L_message_23 : decode b_L_message 23 = .ok (.ireturn, 1) := by decide +kernel
theorem d_L_message_24 : decode b_L_message 24 = .ok (.iconst 0, 1) := by decide +kernel
theorem d_L_message_25 : decode b_L_message 25 = .ok (.ireturn, 1) := by decide +kernel
theorem d_L_about_0 : decode b_L_about 0 = .ok (.aload_n 3, 1) := by decide +kernel
theorem d_L_about_1 : decode b_L_about 1 = .ok (.iconst 0, 1) := by decide +kernel
theorem d_L_about_2 : decode b_L_about 2 = .ok (.aload_n 0, 1) := by decide +kernel
theorem d_L_about_3 : decode b_L_about 3 = .ok (.iload_n 1, 1) := by decide +kernel
theorem d_L_about_4 : decode b_L_about 4 = .ok (.iload_n 2, 1) := by decide +kernel
theorem d_L_about_5 : decode b_L_about 5 = .ok (.invokevirtual 59, 3) := by decide +kernel
theorem d_L_about_8 : decode b_L_about 8 = .ok (.i2l, 1) := by decide +kernel
theorem d_L_about_9 : decode b_L_about 9 = .ok (.lastore, 1) := by decide +kernel
theorem d_L_about_10 : decode b_L_about 10 = .ok (.goto 11, 3) := by decide +kernel
theorem d_L_about_13 : decode b_L_about 13 = .ok (.astore 4, 2) := by decide +kernel
theorem d_L_about_15 : decode b_L_about 15 = .ok (.iconst 1, 1) := by decide +kernel
theorem d_L_about_16 : decode b_L_about 16 = .ok (.ireturn, 1) := by decide +kernel
theorem d_L_about_17 : decode b_L_about 17 = .ok (.astore 4, 2) := by decide +kernel
theorem d_L_about_19 : decode b_L_about 19 = .ok (.iconst 2, 1) := by decide +kernel
theorem d_L_about_20 : decode b_L_about 20 = .ok (.ireturn, 1) := by decide +kernel
theorem d_L_about_21 : decode b_L_about 21 = .ok (.iconst 0, 1) := by decide +kernel
theorem d_L_about_22 : decode b_L_about 22 = .ok (.ireturn, 1) := by decide +kernel
theorem d_L_count_0 : decode b_L_count 0 = .ok (.aload_n 2, 1) := by decide +kernel
theorem d_L_count_1 : decode b_L_count 1 = .ok (.iconst 0, 1) := by decide +kernel
theorem d_L_count_2 : decode b_L_count 2 = .ok (.aload_n 0, 1) := by decide +kernel
theorem d_L_count_3 : decode b_L_count 3 = .ok (.iload_n 1, 1) := by decide +kernel
theorem d_L_count_4 : decode b_L_count 4 = .ok (.invokevirtual 63, 3) := by decide +kernel
theorem d_L_count_7 : decode b_L_count 7 = .ok (.i2l, 1) := by decide +kernel
theorem d_L_count_8 : decode b_L_count 8 = .ok (.lastore, 1) := by decide +kernel
theorem d_L_count_9 : decode b_L_count 9 = .ok (.goto 6, 3) := by decide +kernel
theorem d_L_count_12 : decode b_L_count 12 = .ok (.astore_n 3, 1) := by decide +kernel
theorem d_L_count_13 : decode b_L_count 13 = .ok (.iconst 1, 1) := by decide +kernel
theorem d_L_count_14 : decode b_L_count 14 = .ok (.ireturn, 1) := by decide +kernel
theorem d_L_count_15 : decode b_L_count 15 = .ok (.iconst 0, 1) := by decide +kernel
theorem d_L_count_16 : decode b_L_count 16 = .ok (.ireturn, 1) := by decide +kernel
