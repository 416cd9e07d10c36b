theorem d_M_stepOnce_117 : decode b_M_stepOnce 117 = .ok (.aload_n 0, 1) := by decide +kernel
theorem d_M_stepOnce_118 : decode b_M_stepOnce 118 = .ok (.getfield 51, 3) := by decide +kernel
theorem d_M_stepOnce_121 : decode b_M_stepOnce 121 = .ok (.iload_n 2, 1) := by decide +kernel
theorem d_M_stepOnce_122 : decode b_M_stepOnce 122 = .ok (.iconst 1, 1) := by decide +kernel
theorem d_M_stepOnce_123 : decode b_M_stepOnce 123 = .ok (.bastore, 1) := by decide +kernel
theorem d_M_stepOnce_124 : decode b_M_stepOnce 124 = .ok (.aload_n 0, 1) := by decide +kernel
theorem d_M_stepOnce_125 : decode b_M_stepOnce 125 = .ok (.getfield 94, 3) := by decide +kernel
theorem d_M_stepOnce_128 : decode b_M_stepOnce 128 = .ok (.ifCond .ne 12, 3) := by decide +kernel
theorem d_M_stepOnce_131 : decode b_M_stepOnce 131 = .ok (.aload_n 0, 1) := by decide +kernel
theorem d_M_stepOnce_132 : decode b_M_stepOnce 132 = .ok (.iload_n 2, 1) := by decide +kernel
theorem d_M_stepOnce_133 : decode b_M_stepOnce 133 = .ok (.iload_n 1, 1) := by decide +kernel
theorem d_M_stepOnce_134 : decode b_M_stepOnce 134 = .ok (.invokevirtual 145, 3) := by decide +kernel
theorem d_M_stepOnce_137 : decode b_M_stepOnce 137 = .ok (.goto 40, 3) := by decide +kernel
theorem d_M_stepOnce_140 : decode b_M_stepOnce 140 = .ok (.aload_n 0, 1) := by decide +kernel
theorem d_M_stepOnce_141 : decode b_M_stepOnce 141 = .ok (.getfield 94, 3) := by decide +kernel
theorem d_M_stepOnce_144 : decode b_M_stepOnce 144 = .ok (.iconst 1, 1) := by decide +kernel
theorem d_M_stepOnce_145 : decode b_M_stepOnce 145 = .ok (.if_icmp .ne 11, 3) := by decide +kernel
theorem d_M_stepOnce_148 : decode b_M_stepOnce 148 = .ok (.aload_n 0, 1) := by decide +kernel
theorem d_M_stepOnce_149 : decode b_M_stepOnce 149 = .ok (.iload_n 2, 1) := by decide +kernel
theorem d_M_stepOnce_150 : decode b_M_stepOnce 150 = .ok (.invokevirtual 149, 3) := by decide +kernel
theorem d_M_stepOnce_153 : decode b_M_stepOnce 153 = .ok (.goto 24, 3) := by decide +kernel
theorem d_M_stepOnce_156 : decode b_M_stepOnce 156 = .ok (.aload_n 0, 1) := by decide +kernel
theorem d_M_stepOnce_157 : decode b_M_stepOnce 157 = .ok (.getfield 94, 3) := by decide +kernel
theorem d_M_stepOnce_160 : decode b_M_stepOnce 160 = .ok (.iconst 2, 1) := by decide +kernel
theorem d_M_stepOnce_161 : decode b_M_stepOnce 161 = .ok (.if_icmp .ne 11, 3) := by decide +kernel
theorem d_M_stepOnce_164 : decode b_M_stepOnce 164 = .ok (.aload_n 0, 1) := by decide +kernel
theorem d_M_stepOnce_165 : decode b_M_stepOnce 165 = .ok (.iload_n 2, 1) := by decide +kernel
theorem d_M_stepOnce_166 : decode b_M_stepOnce 166 = .ok (.invokevirtual 152, 3) := by decide +kernel
theorem d_M_stepOnce_169 : decode b_M_stepOnce 169 = .ok (.goto 8, 3) := by decide +kernel
theorem d_M_stepOnce_172 : decode b_M_stepOnce 172 = .ok (.aload_n 0, 1) := by decide +kernel
theorem d_M_stepOnce_173 : decode b_M_stepOnce 173 = .ok (.iload_n 2, 1) := by decide +kernel
theorem d_M_stepOnce_174 : decode b_M_stepOnce 174 = .ok (.invokevirtual 155, 3) := by decide +kernel
theorem d_M_stepOnce_177 : decode b_M_stepOnce 177 = .ok (.iinc 2 1, 3) := by decide +kernel
theorem d_M_stepOnce_180 : decode b_M_stepOnce 180 = .ok (.goto (-96), 3) := by decide +kernel
theorem d_M_stepOnce_183 : decode b_M_stepOnce 183 = .ok (.aload_n 0, 1) := by decide +kernel
theorem d_M_stepOnce_184 : decode b_M_stepOnce 184 = .ok (.getfield 138, 3) := by decide +kernel
theorem d_M_stepOnce_187 : decode b_M_stepOnce 187 = .ok (.ifCond .eq 11, 3) := by decide +kernel
theorem d_M_stepOnce_190 : decode b_M_stepOnce 190 = .ok (.aload_n 0, 1) := by decide +kernel
theorem d_M_stepOnce_191 : decode b_M_stepOnce 191 = .ok (.iconst 2, 1) := by decide +kernel
theorem d_M_stepOnce_192 : decode b_M_stepOnce 192 = .ok (.putfield 73, 3) := by decide +kernel
theorem d_M_stepOnce_195 : decode b_M_stepOnce 195 = .ok (.goto 7, 3) := by decide +kernel
theorem d_M_stepOnce_198 : decode b_M_stepOnce 198 = .ok (.aload_n 0, 1) := by decide +kernel
theorem d_M_stepOnce_199 : decode b_M_stepOnce 199 = .ok (.invokevirtual 158, 3) := by decide +kernel
theorem d_M_stepOnce_202 : decode b_M_stepOnce 202 = .ok (.return_, 1) := by decide +kernel
theorem d_M_rank_0 : decode b_M_rank 0 = .ok (.aload_n 0, 1) := by decide +kernel
theorem d_M_rank_1 : decode b_M_rank 1 = .ok (.getfield 48, 3) := by decide +kernel
theorem d_M_rank_4 : decode b_M_rank 4 = .ok (.iload_n 1, 1) := by decide +kernel
theorem d_M_rank_5 : decode b_M_rank 5 = .ok (.aload_n 0, 1) := by decide +kernel
theorem d_M_rank_6 : decode b_M_rank 6 = .ok (.getfield 36, 3) := by decide +kernel
theorem d_M_rank_9 : decode b_M_rank 9 = .ok (.iconst 0, 1) := by decide +kernel
theorem d_M_rank_10 : decode b_M_rank 10 = .ok (.iaload, 1) := by decide +kernel
theorem d_M_rank_11 : decode b_M_rank 11 = .ok (.ifCond .ne 10, 3) := by decide +kernel
theorem d_M_rank_14 : decode b_M_rank 14 = .ok (.dconst 1, 1) := by decide +kernel
theorem d_M_rank_15 : decode b_M_rank 15 = .ok (.iload_n 2, 1) := by decide +kernel
theorem d_M_rank_16 : decode b_M_rank 16 = .ok (.i2d, 1) := by decide +kernel
theorem d_M_rank_17 : decode b_M_rank 17 = .ok (.ddiv, 1) := by decide +kernel
theorem d_M_rank_18 : decode b_M_rank 18 = .ok (.goto 19, 3) := by decide +kernel
theorem d_M_rank_21 : decode b_M_rank 21 = .ok (.ldc2_w 118, 3) := by decide +kernel
theorem d_M_rank_24 : decode b_M_rank 24 = .ok (.iload_n 2, 1) := by decide +kernel
theorem d_M_rank_25 : decode b_M_rank 25 = .ok (.i2d, 1) := by decide +kernel
theorem d_M_rank_26 : decode b_M_rank 26 = .ok (.ddiv, 1) := by decide +kernel
theorem d_M_rank_27 : decode b_M_rank 27 = .ok (.ldc2_w 120, 3) := by decide +kernel
theorem d_M_rank_30 : decode b_M_rank 30 = .ok (.aload_n 0, 1) := by decide +kernel
theorem d_M_rank_31 : decode b_M_rank 31 = .ok (.iload_n 1, 1) := by decide +kernel
theorem d_M_rank_32 : decode b_M_rank 32 = .ok (.invokevirtual 122, 3) := by decide +kernel
theorem d_M_rank_35 : decode b_M_rank 35 = .ok (.dmul, 1) := by decide +kernel
theorem d_M_rank_36 : decode b_M_rank 36 = .ok (.dadd, 1) := by decide +kernel
theorem d_M_rank_37 : decode b_M_rank 37 = .ok (.dastore, 1) := by decide +kernel
theorem d_M_rank_38 : decode b_M_rank 38 = .ok (.aload_n 0, 1) := by decide +kernel
theorem d_M_rank_39 : decode b_M_rank 39 = .ok (.aload_n 0, 1) := by decide +kernel
theorem d_M_rank_40 : decode b_M_rank 40 = .ok (.getfield 48, 3) := by decide +kernel
theorem d_M_rank_43 : decode b_M_rank 43 = .ok (.iload_n 1, 1) := by decide +kernel
theorem d_M_rank_44 : decode b_M_rank 44 = .ok (.daload, 1) := by decide +kernel
theorem d_M_rank_45 : decode b_M_rank 45 = .ok (.invokevirtual 126, 3) := by decide +kernel
theorem d_M_rank_48 : decode b_M_rank 48 = .ok (.aload_n 0, 1) := by decide +kernel
theorem d_M_rank_49 : decode b_M_rank 49 = .ok (.getfield 36, 3) := by decide +kernel
theorem d_M_rank_52 : decode b_M_rank 52 = .ok (.iconst 0, 1) := by decide +kernel
theorem d_M_rank_53 : decode b_M_rank 53 = .ok (.iaload, 1) := by decide +kernel
theorem d_M_rank_54 : decode b_M_rank 54 = .ok (.aload_n 0, 1) := by decide +kernel
theorem d_M_rank_55 : decode b_M_rank 55 = .ok (.getfield 97, 3) := by decide +kernel
theorem d_M_rank_58 : decode b_M_rank 58 = .ok (.if_icmp .lt 13, 3) := by decide +kernel
theorem d_M_rank_61 : decode b_M_rank 61 = .ok (.aload_n 0, 1) := by decide +kernel
theorem d_M_rank_62 : decode b_M_rank 62 = .ok (.getfield 51, 3) := by decide +kernel
theorem d_M_rank_65 : decode b_M_rank 65 = .ok (.iload_n 1, 1) := by decide +kernel
theorem d_M_rank_66 : decode b_M_rank 66 = .ok (.iconst 0, 1) := by decide +kernel
theorem d_M_rank_67 : decode b_M_rank 67 = .ok (.bastore, 1) := by decide +kernel
theorem d_M_rank_68 : decode b_M_rank 68 = .ok (.goto 31, 3) := by decide +kernel
theorem d_M_rank_71 : decode b_M_rank 71 = .ok (.aload_n 0, 1) := by decide +kernel
theorem d_M_rank_72 : decode b_M_rank 72 = .ok (.getfield 17, 3) := by decide +kernel
theorem d_M_rank_75 : decode b_M_rank 75 = .ok (.iload_n 1, 1) := by decide +kernel
theorem d_M_rank_76 : decode b_M_rank 76 = .ok (.iaload, 1) := by decide +kernel
theorem d_M_rank_77 : decode b_M_rank 77 = .ok (.ifCond .le 22, 3) := by decide +kernel
theorem d_M_rank_80 : decode b_M_rank 80 = .ok (.aload_n 0, 1) := by decide +kernel
theorem d_M_rank_81 : decode b_M_rank 81 = .ok (.iload_n 1, 1) := by decide +kernel
theorem d_M_rank_82 : decode b_M_rank 82 = .ok (.aload_n 0, 1) := by decide +kernel
theorem d_M_rank_83 : decode b_M_rank 83 = .ok (.getfield 48, 3) := by decide +kernel
theorem d_M_rank_86 : decode b_M_rank 86 = .ok (.iload_n 1, 1) := by decide +kernel
theorem d_M_rank_87 : decode b_M_rank 87 = .ok (.daload, 1) := by decide +kernel
theorem d_M_rank_88 : decode b_M_rank 88 = .ok (.aload_n 0, 1) := by decide +kernel
theorem d_M_rank_89 : decode b_M_rank 89 = .ok (.getfield 17, 3) := by decide +kernel
theorem d_M_rank_92 : decode b_M_rank 92 = .ok (.iload_n 1, 1) := by decide +kernel
theorem d_M_rank_93 : decode b_M_rank 93 = .ok (.iaload, 1) := by decide +kernel
theorem d_M_rank_94 : decode b_M_rank 94 = .ok (.i2d, 1) := by decide +kernel
theorem d_M_rank_95 : decode b_M_rank 95 = .ok (.ddiv, 1) := by decide +kernel
theorem d_M_rank_96 : decode b_M_rank 96 = .ok (.invokevirtual 130, 3) := by decide +kernel
theorem d_M_rank_99 : decode b_M_rank 99 = .ok (.return_, 1) := by decide +kernel
theorem d_M_sum_0 : decode b_M_sum 0 = .ok (.dconst 0, 1) := by decide +kernel
theorem d_M_sum_1 : decode b_M_sum 1 = .ok (.dstore_n 2, 1) := by decide +kernel
theorem d_M_sum_2 : decode b_M_sum 2 = .ok (.iconst 0, 1) := by decide +kernel
theorem d_M_sum_3 : decode b_M_sum 3 = .ok (.istore 4, 2) := by decide +kernel
theorem d_M_sum_5 : decode b_M_sum 5 = .ok (.iload 4, 2) := by decide +kernel
theorem d_M_sum_7 : decode b_M_sum 7 = .ok (.aload_n 0, 1) := by decide +kernel
theorem d_M_sum_8 : decode b_M_sum 8 = .ok (.getfield 30, 3) := by decide +kernel
theorem d_M_sum_11 : decode b_M_sum 11 = .ok (.iload_n 1, 1) := by decide +kernel
theorem d_M_sum_12 : decode b_M_sum 12 = .ok (.iaload, 1) := by decide +kernel
theorem d_M_sum_13 : decode b_M_sum 13 = .ok (.if_icmp .ge 24, 3) := by decide +kernel
theorem d_M_sum_16 : decode b_M_sum 16 = .ok (.dload_n 2, 1) := by decide +kernel
theorem d_M_sum_17 : decode b_M_sum 17 = .ok (.aload_n 0, 1) := by decide +kernel
theorem d_M_sum_18 : decode b_M_sum 18 = .ok (.getfield 33, 3) := by decide +kernel
theorem d_M_sum_21 : decode b_M_sum 21 = .ok (.bipush 12, 2) := by decide +kernel
theorem d_M_sum_23 : decode b_M_sum 23 = .ok (.iload_n 1, 1) := by decide +kernel
theorem d_M_sum_24 : decode b_M_sum 24 = .ok (.imul, 1) := by decide +kernel
theorem d_M_sum_25 : decode b_M_sum 25 = .ok (.iload 4, 2) := by decide +kernel
theorem d_M_sum_27 : decode b_M_sum 27 = .ok (.iadd, 1) := by decide +kernel
theorem d_M_sum_28 : decode b_M_sum 28 = .ok (.daload, 1) := by decide +kernel
theorem d_M_sum_29 : decode b_M_sum 29 = .ok (.dadd, 1) := by decide +kernel
theorem d_M_sum_30 : decode b_M_sum 30 = .ok (.dstore_n 2, 1) := by decide +kernel
theorem d_M_sum_31 : decode b_M_sum 31 = .ok (.iinc 4 1, 3) := by decide +kernel
theorem d_M_sum_34 : decode b_M_sum 34 = .ok (.goto (-29), 3) := by decide +kernel
theorem d_M_sum_37 : decode b_M_sum 37 = .ok (.dload_n 2, 1) := by decide +kernel
theorem d_M_sum_38 : decode b_M_sum 38 = .ok (.dreturn, 1) := by decide +kernel
theorem d_M_offer_0 : decode b_M_offer 0 = .ok (.aload_n 0, 1) := by decide +kernel
theorem d_M_offer_1 : decode b_M_offer 1 = .ok (.getfield 107, 3) := by decide +kernel
theorem d_M_offer_4 : decode b_M_offer 4 = .ok (.ifCond .ne 7, 3) := by decide +kernel
theorem d_M_offer_7 : decode b_M_offer 7 = .ok (.iconst 1, 1) := by decide +kernel
theorem d_M_offer_8 : decode b_M_offer 8 = .ok (.goto 4, 3) := by decide +kernel
theorem d_M_offer_11 : decode b_M_offer 11 = .ok (.iconst 0, 1) := by decide +kernel
theorem d_M_offer_12 : decode b_M_offer 12 = .ok (.istore_n 3, 1) := by decide +kernel
theorem d_M_offer_13 : decode b_M_offer 13 = .ok (.aload_n 0, 1) := by decide +kernel
theorem d_M_offer_14 : decode b_M_offer 14 = .ok (.getfield 94, 3) := by decide +kernel
theorem d_M_offer_17 : decode b_M_offer 17 = .ok (.ifCond .eq 11, 3) := by decide +kernel
theorem d_M_offer_20 : decode b_M_offer 20 = .ok (.aload_n 0, 1) := by decide +kernel
theorem d_M_offer_21 : decode b_M_offer 21 = .ok (.getfield 94, 3) := by decide +kernel
theorem d_M_offer_24 : decode b_M_offer 24 = .ok (.iconst 3, 1) := by decide +kernel
theorem d_M_offer_25 : decode b_M_offer 25 = .ok (.if_icmp .ne 24, 3) := by decide +kernel
theorem d_M_offer_28 : decode b_M_offer 28 = .ok (.aload_n 0, 1) := by decide +kernel
theorem d_M_offer_29 : decode b_M_offer 29 = .ok (.iload_n 3, 1) := by decide +kernel
theorem d_M_offer_30 : decode b_M_offer 30 = .ok (.ifCond .eq 7, 3) := by decide +kernel
theorem d_M_offer_33 : decode b_M_offer 33 = .ok (.dconst 0, 1) := by decide +kernel
theorem d_M_offer_34 : decode b_M_offer 34 = .ok (.goto 7, 3) := by decide +kernel
theorem d_M_offer_37 : decode b_M_offer 37 = .ok (.aload_n 0, 1) := by decide +kernel
theorem d_M_offer_38 : decode b_M_offer 38 = .ok (.getfield 110, 3) := by decide +kernel
theorem d_M_offer_41 : decode b_M_offer 41 = .ok (.dload_n 1, 1) := by decide +kernel
theorem d_M_offer_42 : decode b_M_offer 42 = .ok (.dadd, 1) := by decide +kernel
theorem d_M_offer_43 : decode b_M_offer 43 = .ok (.putfield 110, 3) := by decide +kernel
theorem d_M_offer_46 : decode b_M_offer 46 = .ok (.goto 41, 3) := by decide +kernel
theorem d_M_offer_49 : decode b_M_offer 49 = .ok (.iload_n 3, 1) := by decide +kernel
theorem d_M_offer_50 : decode b_M_offer 50 = .ok (.ifCond .ne 32, 3) := by decide +kernel
theorem d_M_offer_53 : decode b_M_offer 53 = .ok (.aload_n 0, 1) := by decide +kernel
theorem d_M_offer_54 : decode b_M_offer 54 = .ok (.getfield 94, 3) := by decide +kernel
theorem d_M_offer_57 : decode b_M_offer 57 = .ok (.iconst 1, 1) := by decide +kernel
theorem d_M_offer_58 : decode b_M_offer 58 = .ok (.if_icmp .ne 15, 3) := by decide +kernel
theorem d_M_offer_61 : decode b_M_offer 61 = .ok (.dload_n 1, 1) := by decide +kernel
theorem d_M_offer_62 : decode b_M_offer 62 = .ok (.aload_n 0, 1) := by decide +kernel
theorem d_M_offer_63 : decode b_M_offer 63 = .ok (.getfield 110, 3) := by decide +kernel
theorem d_M_offer_66 : decode b_M_offer 66 = .ok (.dcmp .g, 1) := by decide +kernel
theorem d_M_offer_67 : decode b_M_offer 67 = .ok (.ifCond .ge 20, 3) := by decide +kernel
theorem d_M_offer_70 : decode b_M_offer 70 = .ok (.goto 12, 3) := by decide +kernel
theorem d_M_offer_73 : decode b_M_offer 73 = .ok (.dload_n 1, 1) := by decide +kernel
theorem d_M_offer_74 : decode b_M_offer 74 = .ok (.aload_n 0, 1) := by decide +kernel
theorem d_M_offer_75 : decode b_M_offer 75 = .ok (.getfield 110, 3) := by decide +kernel
theorem d_M_offer_78 : decode b_M_offer 78 = .ok (.dcmp .l, 1) := by decide +kernel
theorem d_M_offer_79 : decode b_M_offer 79 = .ok (.ifCond .le 8, 3) := by decide +kernel
theorem d_M_offer_82 : decode b_M_offer 82 = .ok (.aload_n 0, 1) := by decide +kernel
theorem d_M_offer_83 : decode b_M_offer 83 = .ok (.dload_n 1, 1) := by decide +kernel
theorem d_M_offer_84 : decode b_M_offer 84 = .ok (.putfield 110, 3) := by decide +kernel
theorem d_M_offer_87 : decode b_M_offer 87 = .ok (.aload_n 0, 1) := by decide +kernel
theorem d_M_offer_88 : decode b_M_offer 88 = .ok (.dup, 1) := by decide +kernel
theorem d_M_offer_89 : decode b_M_offer 89 = .ok (.getfield 107, 3) := by decide +kernel
theorem d_M_offer_92 : decode b_M_offer 92 = .ok (.iconst 1, 1) := by decide +kernel
theorem d_M_offer_93 : decode b_M_offer 93 = .ok (.iadd, 1) := by decide +kernel
theorem d_M_offer_94 : decode b_M_offer 94 = .ok (.putfield 107, 3) := by decide +kernel
theorem d_M_offer_97 : decode b_M_offer 97 = .ok (.return_, 1) := by decide +kernel
theorem d_M_sendAll_0 : decode b_M_sendAll 0 = .ok (.iconst 0, 1) := by decide +kernel
theorem d_M_sendAll_1 : decode b_M_sendAll 1 = .ok (.istore 4, 2) := by decide +kernel
theorem d_M_sendAll_3 : decode b_M_sendAll 3 = .ok (.iload 4, 2) := by decide +kernel
theorem d_M_sendAll_5 : decode b_M_sendAll 5 = .ok (.aload_n 0, 1) := by decide +kernel
theorem d_M_sendAll_6 : decode b_M_sendAll 6 = .ok (.getfield 17, 3) := by decide +kernel
theorem d_M_sendAll_9 : decode b_M_sendAll 9 = .ok (.iload_n 1, 1) := by decide +kernel
theorem d_M_sendAll_10 : decode b_M_sendAll 10 = .ok (.iaload, 1) := by decide +kernel
theorem d_M_sendAll_11 : decode b_M_sendAll 11 = .ok (.if_icmp .ge 17, 3) := by decide +kernel
theorem d_M_sendAll_14 : decode b_M_sendAll 14 = .ok (.aload_n 0, 1) := by decide +kernel
theorem d_M_sendAll_15 : decode b_M_sendAll 15 = .ok (.iload_n 1, 1) := by decide +kernel
theorem d_M_sendAll_16 : decode b_M_sendAll 16 = .ok (.iload 4, 2) := by decide +kernel
theorem d_M_sendAll_18 : decode b_M_sendAll 18 = .ok (.dload_n 2, 1) := by decide +kernel
theorem d_M_sendAll_19 : decode b_M_sendAll 19 = .ok (.invokevirtual 114, 3) := by decide +kernel
theorem d_M_sendAll_22 : decode b_M_sendAll 22 = .ok (.iinc 4 1, 3) := by decide +kernel
theorem d_M_sendAll_25 : decode b_M_sendAll 25 = .ok (.goto (-22), 3) := by decide +kernel
theorem d_M_sendAll_28 : decode b_M_sendAll 28 = .ok (.return_, 1) := by decide +kernel
theorem d_M_send_0 : decode b_M_send 0 = .ok (.bipush 12, 2) := by decide +kernel
theorem d_M_send_2 : decode b_M_send 2 = .ok (.aload_n 0, 1) := by decide +kernel
theorem d_M_send_3 : decode b_M_send 3 = .ok (.getfield 21, 3) := by decide +kernel
theorem d_M_send_6 : decode b_M_send 6 = .ok (.bipush 12, 2) := by decide +kernel
theorem d_M_send_8 : decode b_M_send 8 = .ok (.iload_n 1, 1) := by decide +kernel
theorem d_M_send_9 : decode b_M_send 9 = .ok (.imul, 1) := by decide +kernel
theorem d_M_send_10 : decode b_M_send 10 = .ok (.iload_n 2, 1) := by decide +kernel
theorem d_M_send_11 : decode b_M_send 11 = .ok (.iadd, 1) := by decide +kernel
theorem d_M_send_12 : decode b_M_send 12 = .ok (.iaload, 1) := by decide +kernel
theorem d_M_send_13 : decode b_M_send 13 = .ok (.imul, 1) := by decide +kernel
theorem d_M_send_14 : decode b_M_send 14 = .ok (.iload_n 1, 1) := by decide +kernel
theorem d_M_send_15 : decode b_M_send 15 = .ok (.iadd, 1) := by decide +kernel
theorem d_M_send_16 : decode b_M_send 16 = .ok (.istore 5, 2) := by decide +kernel
theorem d_M_send_18 : decode b_M_send 18 = .ok (.aload_n 0, 1) := by decide +kernel
theorem d_M_send_19 : decode b_M_send 19 = .ok (.getfield 42, 3) := by decide +kernel
theorem d_M_send_22 : decode b_M_send 22 = .ok (.iload 5, 2) := by decide +kernel
theorem d_M_send_24 : decode b_M_send 24 = .ok (.dload_n 3, 1) := by decide +kernel
theorem d_M_send_25 : decode b_M_send 25 = .ok (.dastore, 1) := by decide +kernel
theorem d_M_send_26 : decode b_M_send 26 = .ok (.aload_n 0, 1) := by decide +kernel
theorem d_M_send_27 : decode b_M_send 27 = .ok (.getfield 45, 3) := by decide +kernel
theorem d_M_send_30 : decode b_M_send 30 = .ok (.iload 5, 2) := by decide +kernel
theorem d_M_send_32 : decode b_M_send 32 = .ok (.iconst 1, 1) := by decide +kernel
theorem d_M_send_33 : decode b_M_send 33 = .ok (.bastore, 1) := by decide +kernel
theorem d_M_send_34 : decode b_M_send 34 = .ok (.return_, 1) := by decide +kernel
theorem d_M_nearest_0 : decode b_M_nearest 0 = .ok (.aload_n 0, 1) := by decide +kernel
theorem d_M_nearest_1 : decode b_M_nearest 1 = .ok (.getfield 36, 3) := by decide +kernel
theorem d_M_nearest_4 : decode b_M_nearest 4 = .ok (.iconst 0, 1) := by decide +kernel
theorem d_M_nearest_5 : decode b_M_nearest 5 = .ok (.iaload, 1) := by decide +kernel
theorem d_M_nearest_6 : decode b_M_nearest 6 = .ok (.ifCond .ne 7, 3) := by decide +kernel
theorem d_M_nearest_9 : decode b_M_nearest 9 = .ok (.iconst 1, 1) := by decide +kernel
theorem d_M_nearest_10 : decode b_M_nearest 10 = .ok (.goto 4, 3) := by decide +kernel
theorem d_M_nearest_13 : decode b_M_nearest 13 = .ok (.iconst 0, 1) := by decide +kernel
theorem d_M_nearest_14 : decode b_M_nearest 14 = .ok (.istore_n 2, 1) := by decide +kernel
theorem d_M_nearest_15 : decode b_M_nearest 15 = .ok (.iload_n 2, 1) := by decide +kernel
theorem d_M_nearest_16 : decode b_M_nearest 16 = .ok (.ifCond .eq 15, 3) := by decide +kernel
theorem d_M_nearest_19 : decode b_M_nearest 19 = .ok (.iload_n 1, 1) := by decide +kernel
theorem d_M_nearest_20 : decode b_M_nearest 20 = .ok (.aload_n 0, 1) := by decide +kernel
theorem d_M_nearest_21 : decode b_M_nearest 21 = .ok (.getfield 97, 3) := by decide +kernel
theorem d_M_nearest_24 : decode b_M_nearest 24 = .ok (.if_icmp .ne 7, 3) := by decide +kernel
theorem d_M_nearest_27 : decode b_M_nearest 27 = .ok (.dconst 0, 1) := by decide +kernel
theorem d_M_nearest_28 : decode b_M_nearest 28 = .ok (.goto 6, 3) := by decide +kernel
theorem d_M_nearest_31 : decode b_M_nearest 31 = .ok (.ldc2_w 134, 3) := by decide +kernel
theorem d_M_nearest_34 : decode b_M_nearest 34 = .ok (.dstore_n 3, 1) := by decide +kernel
theorem d_M_nearest_35 : decode b_M_nearest 35 = .ok (.iconst 0, 1) := by decide +kernel
theorem d_M_nearest_36 : decode b_M_nearest 36 = .ok (.istore 5, 2) := by decide +kernel
theorem d_M_nearest_38 : decode b_M_nearest 38 = .ok (.iload 5, 2) := by decide +kernel
theorem d_M_nearest_40 : decode b_M_nearest 40 = .ok (.aload_n 0, 1) := by decide +kernel
theorem d_M_nearest_41 : decode b_M_nearest 41 = .ok (.getfield 30, 3) := by decide +kernel
theorem d_M_nearest_44 : decode b_M_nearest 44 = .ok (.iload_n 1, 1) := by decide +kernel
theorem d_M_nearest_45 : decode b_M_nearest 45 = .ok (.iaload, 1) := by decide +kernel
theorem d_M_nearest_46 : decode b_M_nearest 46 = .ok (.if_icmp .ge 39, 3) := by decide +kernel
theorem d_M_nearest_49 : decode b_M_nearest 49 = .ok (.aload_n 0, 1) := by decide +kernel
theorem d_M_nearest_50 : decode b_M_nearest 50 = .ok (.getfield 33, 3) := by decide +kernel
theorem d_M_nearest_53 : decode b_M_nearest 53 = .ok (.bipush 12, 2) := by decide +kernel
theorem d_M_nearest_55 : decode b_M_nearest 55 = .ok (.iload_n 1, 1) := by decide +kernel
theorem d_M_nearest_56 : decode b_M_nearest 56 = .ok (.imul, 1) := by decide +kernel
theorem d_M_nearest_57 : decode b_M_nearest 57 = .ok (.iload 5, 2) := by decide +kernel
theorem d_M_nearest_59 : decode b_M_nearest 59 = .ok (.iadd, 1) := by decide +kernel
theorem d_M_nearest_60 : decode b_M_nearest 60 = .ok (.daload, 1) := by decide +kernel
theorem d_M_nearest_61 : decode b_M_nearest 61 = .ok (.dload_n 3, 1) := by decide +kernel
theorem d_M_nearest_62 : decode b_M_nearest 62 = .ok (.dcmp .g, 1) := by decide +kernel
theorem d_M_nearest_63 : decode b_M_nearest 63 = .ok (.ifCond .ge 16, 3) := by decide +kernel
theorem d_M_nearest_66 : decode b_M_nearest 66 = .ok (.aload_n 0, 1) := by decide +kernel
theorem d_M_nearest_67 : decode b_M_nearest 67 = .ok (.getfield 33, 3) := by decide +kernel
theorem d_M_nearest_70 : decode b_M_nearest 70 = .ok (.bipush 12, 2) := by decide +kernel
theorem d_M_nearest_72 : decode b_M_nearest 72 = .ok (.iload_n 1, 1) := by decide +kernel
theorem d_M_nearest_73 : decode b_M_nearest 73 = .ok (.imul, 1) := by decide +kernel
theorem d_M_nearest_74 : decode b_M_nearest 74 = .ok (.iload 5, 2) := by decide +kernel
theorem d_M_nearest_76 : decode b_M_nearest 76 = .ok (.iadd, 1) := by decide +kernel
theorem d_M_nearest_77 : decode b_M_nearest 77 = .ok (.daload, 1) := by decide +kernel
theorem d_M_nearest_78 : decode b_M_nearest 78 = .ok (.dstore_n 3, 1) := by decide +kernel
theorem d_M_nearest_79 : decode b_M_nearest 79 = .ok (.iinc 5 1, 3) := by decide +kernel
theorem d_M_nearest_82 : decode b_M_nearest 82 = .ok (.goto (-44), 3) := by decide +kernel
theorem d_M_nearest_85 : decode b_M_nearest 85 = .ok (.iload_n 2, 1) := by decide +kernel
theorem d_M_nearest_86 : decode b_M_nearest 86 = .ok (.ifCond .eq 12, 3) := by decide +kernel
theorem d_M_nearest_89 : decode b_M_nearest 89 = .ok (.aload_n 0, 1) := by decide +kernel
theorem d_M_nearest_90 : decode b_M_nearest 90 = .ok (.getfield 48, 3) := by decide +kernel
theorem d_M_nearest_93 : decode b_M_nearest 93 = .ok (.iload_n 1, 1) := by decide +kernel
theorem d_M_nearest_94 : decode b_M_nearest 94 = .ok (.ldc2_w 134, 3) := by decide +kernel
theorem d_M_nearest_97 : decode b_M_nearest 97 = .ok (.dastore, 1) := by decide +kernel
theorem d_M_nearest_98 : decode b_M_nearest 98 = .ok (.aload_n 0, 1) := by decide +kernel
theorem d_M_nearest_99 : decode b_M_nearest 99 = .ok (.getfield 51, 3) := by decide +kernel
theorem d_M_nearest_102 : decode b_M_nearest 102 = .ok (.iload_n 1, 1) := by decide +kernel
theorem d_M_nearest_103 : decode b_M_nearest 103 = .ok (.iconst 0, 1) := by decide +kernel
theorem d_M_nearest_104 : decode b_M_nearest 104 = .ok (.bastore, 1) := by decide +kernel
theorem d_M_nearest_105 : decode b_M_nearest 105 = .ok (.dload_n 3, 1) := by decide +kernel
theorem d_M_nearest_106 : decode b_M_nearest 106 = .ok (.aload_n 0, 1) := by decide +kernel
theorem d_M_nearest_107 : decode b_M_nearest 107 = .ok (.getfield 48, 3) := by decide +kernel
theorem d_M_nearest_110 : decode b_M_nearest 110 = .ok (.iload_n 1, 1) := by decide +kernel
theorem d_M_nearest_111 : decode b_M_nearest 111 = .ok (.daload, 1) := by decide +kernel
theorem d_M_nearest_112 : decode b_M_nearest 112 = .ok (.dcmp .l, 1) := by decide +kernel
theorem d_M_nearest_113 : decode b_M_nearest 113 = .ok (.ifCond .lt 4, 3) := by decide +kernel
theorem d_M_nearest_116 : decode b_M_nearest 116 = .ok (.return_, 1) := by decide +kernel
theorem d_M_nearest_117 : decode b_M_nearest 117 = .ok (.aload_n 0, 1) := by decide +kernel
theorem d_M_nearest_118 : decode b_M_nearest 118 = .ok (.getfield 48, 3) := by decide +kernel
theorem d_M_nearest_121 : decode b_M_nearest 121 = .ok (.iload_n 1, 1) := by decide +kernel
theorem d_M_nearest_122 : decode b_M_nearest 122 = .ok (.dload_n 3, 1) := by decide +kernel
theorem d_M_nearest_123 : decode b_M_nearest 123 = .ok (.dastore, 1) := by decide +kernel
theorem d_M_nearest_124 : decode b_M_nearest 124 = .ok (.aload_n 0, 1) := by decide +kernel
theorem d_M_nearest_125 : decode b_M_nearest 125 = .ok (.dload_n 3, 1) := by decide +kernel
theorem d_M_nearest_126 : decode b_M_nearest 126 = .ok (.invokevirtual 126, 3) := by decide +kernel
theorem d_M_nearest_129 : decode b_M_nearest 129 = .ok (.iconst 0, 1) := by decide +kernel
theorem d_M_nearest_130 : decode b_M_nearest 130 = .ok (.istore 5, 2) := by decide +kernel
theorem d_M_nearest_132 : decode b_M_nearest 132 = .ok (.iload 5, 2) := by decide +kernel
theorem d_M_nearest_134 : decode b_M_nearest 134 = .ok (.aload_n 0, 1) := by decide +kernel
theorem d_M_nearest_135 : decode b_M_nearest 135 = .ok (.getfield 17, 3) := by decide +kernel
theorem d_M_nearest_138 : decode b_M_nearest 138 = .ok (.iload_n 1, 1) := by decide +kernel
theorem d_M_nearest_139 : decode b_M_nearest 139 = .ok (.iaload, 1) := by decide +kernel
theorem d_M_nearest_140 : decode b_M_nearest 140 = .ok (.if_icmp .ge 48, 3) := by decide +kernel
theorem d_M_nearest_143 : decode b_M_nearest 143 = .ok (.dload_n 3, 1) := by decide +kernel
theorem d_M_nearest_144 : decode b_M_nearest 144 = .ok (.aload_n 0, 1) := by decide +kernel
theorem d_M_nearest_145 : decode b_M_nearest 145 = .ok (.getfield 24, 3) := by decide +kernel
theorem d_M_nearest_148 : decode b_M_nearest 148 = .ok (.bipush 12, 2) := by decide +kernel
theorem d_M_nearest_150 : decode b_M_nearest 150 = .ok (.iload_n 1, 1) := by decide +kernel
theorem d_M_nearest_151 : decode b_M_nearest 151 = .ok (.imul, 1) := by decide +kernel
theorem d_M_nearest_152 : decode b_M_nearest 152 = .ok (.iload 5, 2) := by decide +kernel
theorem d_M_nearest_154 : decode b_M_nearest 154 = .ok (.iadd, 1) := by decide +kernel
theorem d_M_nearest_155 : decode b_M_nearest 155 = .ok (.daload, 1) := by decide +kernel
theorem d_M_nearest_156 : decode b_M_nearest 156 = .ok (.dadd, 1) := by decide +kernel
theorem d_M_nearest_157 : decode b_M_nearest 157 = .ok (.dstore 6, 2) := by decide +kernel
theorem d_M_nearest_159 : decode b_M_nearest 159 = .ok (.aload_n 0, 1) := by decide +kernel
theorem d_M_nearest_160 : decode b_M_nearest 160 = .ok (.iload_n 1, 1) := by decide +kernel
theorem d_M_nearest_161 : decode b_M_nearest 161 = .ok (.iload 5, 2) := by decide +kernel
theorem d_M_nearest_163 : decode b_M_nearest 163 = .ok (.dload 6, 2) := by decide +kernel
theorem d_M_nearest_165 : decode b_M_nearest 165 = .ok (.invokevirtual 114, 3) := by decide +kernel
theorem d_M_nearest_168 : decode b_M_nearest 168 = .ok (.dload 6, 2) := by decide +kernel
theorem d_M_nearest_170 : decode b_M_nearest 170 = .ok (.ldc2_w 136, 3) := by decide +kernel
theorem d_M_nearest_173 : decode b_M_nearest 173 = .ok (.dcmp .l, 1) := by decide +kernel
theorem d_M_nearest_174 : decode b_M_nearest 174 = .ok (.ifCond .le 8, 3) := by decide +kernel
theorem d_M_nearest_177 : decode b_M_nearest 177 = .ok (.aload_n 0, 1) := by decide +kernel
theorem d_M_nearest_178 : decode b_M_nearest 178 = .ok (.iconst 1, 1) := by decide +kernel
theorem d_M_nearest_179 : decode b_M_nearest 179 = .ok (.putfield 138, 3) := by decide +kernel
theorem d_M_nearest_182 : decode b_M_nearest 182 = .ok (.iinc 5 1, 3) := by decide +kernel
theorem d_M_nearest_185 : decode b_M_nearest 185 = .ok (.goto (-53), 3) := by decide +kernel
theorem d_M_nearest_188 : decode b_M_nearest 188 = .ok (.return_, 1) := by decide +kernel
theorem d_M_greatest_0 : decode b_M_greatest 0 = .ok (.iconst 0, 1) := by decide +kernel
theorem d_M_greatest_1 : decode b_M_greatest 1 = .ok (.istore_n 2, 1) := by decide +kernel
theorem d_M_greatest_2 : decode b_M_greatest 2 = .ok (.iload_n 2, 1) := by decide +kernel
theorem d_M_greatest_3 : decode b_M_greatest 3 = .ok (.aload_n 0, 1) := by decide +kernel
theorem d_M_greatest_4 : decode b_M_greatest 4 = .ok (.getfield 30, 3) := by decide +kernel
theorem d_M_greatest_7 : decode b_M_greatest 7 = .ok (.iload_n 1, 1) := by decide +kernel
theorem d_M_greatest_8 : decode b_M_greatest 8 = .ok (.iaload, 1) := by decide +kernel
theorem d_M_greatest_9 : decode b_M_greatest 9 = .ok (.if_icmp .ge 47, 3) := by decide +kernel
theorem d_M_greatest_12 : decode b_M_greatest 12 = .ok (.aload_n 0, 1) := by decide +kernel
theorem d_M_greatest_13 : decode b_M_greatest 13 = .ok (.getfield 33, 3) := by decide +kernel
theorem d_M_greatest_16 : decode b_M_greatest 16 = .ok (.bipush 12, 2) := by decide +kernel
theorem d_M_greatest_18 : decode b_M_greatest 18 = .ok (.iload_n 1, 1) := by decide +kernel
theorem d_M_greatest_19 : decode b_M_greatest 19 = .ok (.imul, 1) := by decide +kernel
theorem d_M_greatest_20 : decode b_M_greatest 20 = .ok (.iload_n 2, 1) := by decide +kernel
theorem d_M_greatest_21 : decode b_M_greatest 21 = .ok (.iadd, 1) := by decide +kernel
theorem d_M_greatest_22 : decode b_M_greatest 22 = .ok (.daload, 1) := by decide +kernel
theorem d_M_greatest_23 : decode b_M_greatest 23 = .ok (.aload_n 0, 1) := by decide +kernel
theorem d_M_greatest_24 : decode b_M_greatest 24 = .ok (.getfield 48, 3) := by decide +kernel
theorem d_M_greatest_27 : decode b_M_greatest 27 = .ok (.iload_n 1, 1) := by decide +kernel
theorem d_M_greatest_28 : decode b_M_greatest 28 = .ok (.daload, 1) := by decide +kernel
theorem d_M_greatest_29 : decode b_M_greatest 29 = .ok (.dcmp .l, 1) := by decide +kernel
theorem d_M_greatest_30 : decode b_M_greatest 30 = .ok (.ifCond .le 20, 3) := by decide +kernel
theorem d_M_greatest_33 : decode b_M_greatest 33 = .ok (.aload_n 0, 1) := by decide +kernel
theorem d_M_greatest_34 : decode b_M_greatest 34 = .ok (.getfield 48, 3) := by decide +kernel
theorem d_M_greatest_37 : decode b_M_greatest 37 = .ok (.iload_n 1, 1) := by decide +kernel
theorem d_M_greatest_38 : decode b_M_greatest 38 = .ok (.aload_n 0, 1) := by decide +kernel
theorem d_M_greatest_39 : decode b_M_greatest 39 = .ok (.getfield 33, 3) := by decide +kernel
theorem d_M_greatest_42 : decode b_M_greatest 42 = .ok (.bipush 12, 2) := by decide +kernel
theorem d_M_greatest_44 : decode b_M_greatest 44 = .ok (.iload_n 1, 1) := by decide +kernel
theorem d_M_greatest_45 : decode b_M_greatest 45 = .ok (.imul, 1) := by decide +kernel
theorem d_M_greatest_46 : decode b_M_greatest 46 = .ok (.iload_n 2, 1) := by decide +kernel
theorem d_M_greatest_47 : decode b_M_greatest 47 = .ok (.iadd, 1) := by decide +kernel
theorem d_M_greatest_48 : decode b_M_greatest 48 = .ok (.daload, 1) := by decide +kernel
theorem d_M_greatest_49 : decode b_M_greatest 49 = .ok (.dastore, 1) := by decide +kernel
theorem d_M_greatest_50 : decode b_M_greatest 50 = .ok (.iinc 2 1, 3) := by decide +kernel
theorem d_M_greatest_53 : decode b_M_greatest 53 = .ok (.goto (-51), 3) := by decide +kernel
theorem d_M_greatest_56 : decode b_M_greatest 56 = .ok (.aload_n 0, 1) := by decide +kernel
theorem d_M_greatest_57 : decode b_M_greatest 57 = .ok (.getfield 48, 3) := by decide +kernel
theorem d_M_greatest_60 : decode b_M_greatest 60 = .ok (.iload_n 1, 1) := by decide +kernel
theorem d_M_greatest_61 : decode b_M_greatest 61 = .ok (.daload, 1) := by decide +kernel
theorem d_M_greatest_62 : decode b_M_greatest 62 = .ok (.aload_n 0, 1) := by decide +kernel
theorem d_M_greatest_63 : decode b_M_greatest 63 = .ok (.getfield 13, 3) := by decide +kernel
theorem d_M_greatest_66 : decode b_M_greatest 66 = .ok (.iload_n 1, 1) := by decide +kernel
theorem d_M_greatest_67 : decode b_M_greatest 67 = .ok (.daload, 1) := by decide +kernel
theorem d_M_greatest_68 : decode b_M_greatest 68 = .ok (.dcmp .l, 1) := by decide +kernel
theorem d_M_greatest_69 : decode b_M_greatest 69 = .ok (.ifCond .gt 12, 3) := by decide +kernel
theorem d_M_greatest_72 : decode b_M_greatest 72 = .ok (.aload_n 0, 1) := by decide +kernel
theorem d_M_greatest_73 : decode b_M_greatest 73 = .ok (.getfield 36, 3) := by decide +kernel
theorem d_M_greatest_76 : decode b_M_greatest 76 = .ok (.iconst 0, 1) := by decide +kernel
theorem d_M_greatest_77 : decode b_M_greatest 77 = .ok (.iaload, 1) := by decide +kernel
theorem d_M_greatest_78 : decode b_M_greatest 78 = .ok (.ifCond .ne 14, 3) := by decide +kernel
theorem d_M_greatest_81 : decode b_M_greatest 81 = .ok (.aload_n 0, 1) := by decide +kernel
theorem d_M_greatest_82 : decode b_M_greatest 82 = .ok (.iload_n 1, 1) := by decide +kernel
theorem d_M_greatest_83 : decode b_M_greatest 83 = .ok (.aload_n 0, 1) := by decide +kernel
theorem d_M_greatest_84 : decode b_M_greatest 84 = .ok (.getfield 48, 3) := by decide +kernel
theorem d_M_greatest_87 : decode b_M_greatest 87 = .ok (.iload_n 1, 1) := by decide +kernel
theorem d_M_greatest_88 : decode b_M_greatest 88 = .ok (.daload, 1) := by decide +kernel
theorem d_M_greatest_89 : decode b_M_greatest 89 = .ok (.invokevirtual 130, 3) := by decide +kernel
theorem d_M_greatest_92 : decode b_M_greatest 92 = .ok (.aload_n 0, 1) := by decide +kernel
theorem d_M_greatest_93 : decode b_M_greatest 93 = .ok (.aload_n 0, 1) := by decide +kernel
theorem d_M_greatest_94 : decode b_M_greatest 94 = .ok (.getfield 48, 3) := by decide +kernel
theorem d_M_greatest_97 : decode b_M_greatest 97 = .ok (.iload_n 1, 1) := by decide +kernel
theorem d_M_greatest_98 : decode b_M_greatest 98 = .ok (.daload, 1) := by decide +kernel
theorem d_M_greatest_99 : decode b_M_greatest 99 = .ok (.invokevirtual 126, 3) := by decide +kernel
theorem d_M_greatest_102 : decode b_M_greatest 102 = .ok (.aload_n 0, 1) := by decide +kernel
theorem d_M_greatest_103 : decode b_M_greatest 103 = .ok (.getfield 51, 3) := by decide +kernel
theorem d_M_greatest_106 : decode b_M_greatest 106 = .ok (.iload_n 1, 1) := by decide +kernel
theorem d_M_greatest_107 : decode b_M_greatest 107 = .ok (.iconst 0, 1) := by decide +kernel
theorem d_M_greatest_108 : decode b_M_greatest 108 = .ok (.bastore, 1) := by decide +kernel
theorem d_M_greatest_109 : decode b_M_greatest 109 = .ok (.return_, 1) := by decide +kernel
theorem d_M_core_0 : decode b_M_core 0 = .ok (.aload_n 0, 1) := by decide +kernel
theorem d_M_core_1 : decode b_M_core 1 = .ok (.getfield 36, 3) := by decide +kernel
theorem d_M_core_4 : decode b_M_core 4 = .ok (.iconst 0, 1) := by decide +kernel
theorem d_M_core_5 : decode b_M_core 5 = .ok (.iaload, 1) := by decide +kernel
theorem d_M_core_6 : decode b_M_core 6 = .ok (.iconst 2, 1) := by decide +kernel
theorem d_M_core_7 : decode b_M_core 7 = .ok (.irem, 1) := by decide +kernel
theorem d_M_core_8 : decode b_M_core 8 = .ok (.ifCond .ne 10, 3) := by decide +kernel
theorem d_M_core_11 : decode b_M_core 11 = .ok (.aload_n 0, 1) := by decide +kernel
theorem d_M_core_12 : decode b_M_core 12 = .ok (.iload_n 1, 1) := by decide +kernel
theorem d_M_core_13 : decode b_M_core 13 = .ok (.dconst 1, 1) := by decide +kernel
theorem d_M_core_14 : decode b_M_core 14 = .ok (.invokevirtual 130, 3) := by decide +kernel
theorem d_M_core_17 : decode b_M_core 17 = .ok (.return_, 1) := by decide +kernel
theorem d_M_core_18 : decode b_M_core 18 = .ok (.aload_n 0, 1) := by decide +kernel
theorem d_M_core_19 : decode b_M_core 19 = .ok (.iload_n 1, 1) := by decide +kernel
theorem d_M_core_20 : decode b_M_core 20 = .ok (.invokevirtual 122, 3) := by decide +kernel
theorem d_M_core_23 : decode b_M_core 23 = .ok (.dstore_n 2, 1) := by decide +kernel
theorem d_M_core_24 : decode b_M_core 24 = .ok (.dload_n 2, 1) := by decide +kernel
theorem d_M_core_25 : decode b_M_core 25 = .ok (.aload_n 0, 1) := by decide +kernel
theorem d_M_core_26 : decode b_M_core 26 = .ok (.getfield 97, 3) := by decide +kernel
theorem d_M_core_29 : decode b_M_core 29 = .ok (.i2d, 1) := by decide +kernel
theorem d_M_core_30 : decode b_M_core 30 = .ok (.dcmp .g, 1) := by decide +kernel
theorem d_M_core_31 : decode b_M_core 31 = .ok (.ifCond .ge 18, 3) := by decide +kernel
theorem d_M_core_34 : decode b_M_core 34 = .ok (.aload_n 0, 1) := by decide +kernel
theorem d_M_core_35 : decode b_M_core 35 = .ok (.getfield 54, 3) := by decide +kernel
theorem d_M_core_38 : decode b_M_core 38 = .ok (.iload_n 1, 1) := by decide +kernel
theorem d_M_core_39 : decode b_M_core 39 = .ok (.iconst 1, 1) := by decide +kernel
theorem d_M_core_40 : decode b_M_core 40 = .ok (.bastore, 1) := by decide +kernel
theorem d_M_core_41 : decode b_M_core 41 = .ok (.aload_n 0, 1) := by decide +kernel
theorem d_M_core_42 : decode b_M_core 42 = .ok (.dconst 1, 1) := by decide +kernel
theorem d_M_core_43 : decode b_M_core 43 = .ok (.invokevirtual 126, 3) := by decide +kernel
theorem d_M_core_46 : decode b_M_core 46 = .ok (.goto 10, 3) := by decide +kernel
theorem d_M_core_49 : decode b_M_core 49 = .ok (.aload_n 0, 1) := by decide +kernel
theorem d_M_core_50 : decode b_M_core 50 = .ok (.getfield 48, 3) := by decide +kernel
theorem d_M_core_53 : decode b_M_core 53 = .ok (.iload_n 1, 1) := by decide +kernel
theorem d_M_core_54 : decode b_M_core 54 = .ok (.dload_n 2, 1) := by decide +kernel
theorem d_M_core_55 : decode b_M_core 55 = .ok (.dastore, 1) := by decide +kernel
theorem d_M_core_56 : decode b_M_core 56 = .ok (.aload_n 0, 1) := by decide +kernel
theorem d_M_core_57 : decode b_M_core 57 = .ok (.getfield 39, 3) := by decide +kernel
theorem d_M_core_60 : decode b_M_core 60 = .ok (.iconst 0, 1) := by decide +kernel
theorem d_M_core_61 : decode b_M_core 61 = .ok (.daload, 1) := by decide +kernel
theorem d_M_core_62 : decode b_M_core 62 = .ok (.dconst 0, 1) := by decide +kernel
theorem d_M_core_63 : decode b_M_core 63 = .ok (.dcmp .l, 1) := by decide +kernel
theorem d_M_core_64 : decode b_M_core 64 = .ok (.ifCond .ne 10, 3) := by decide +kernel
theorem d_M_core_67 : decode b_M_core 67 = .ok (.aload_n 0, 1) := by decide +kernel
theorem d_M_core_68 : decode b_M_core 68 = .ok (.getfield 51, 3) := by decide +kernel
theorem d_M_core_71 : decode b_M_core 71 = .ok (.iload_n 1, 1) := by decide +kernel
theorem d_M_core_72 : decode b_M_core 72 = .ok (.iconst 0, 1) := by decide +kernel
theorem d_M_core_73 : decode b_M_core 73 = .ok (.bastore, 1) := by decide +kernel
theorem d_M_core_74 : decode b_M_core 74 = .ok (.return_, 1) := by decide +kernel
theorem d_M_finish_0 : decode b_M_finish 0 = .ok (.iconst 0, 1) := by decide +kernel
theorem d_M_finish_1 : decode b_M_finish 1 = .ok (.istore_n 1, 1) := by decide +kernel
theorem d_M_finish_2 : decode b_M_finish 2 = .ok (.iload_n 1, 1) := by decide +kernel
theorem d_M_finish_3 : decode b_M_finish 3 = .ok (.bipush 12, 2) := by decide +kernel
theorem d_M_finish_5 : decode b_M_finish 5 = .ok (.if_icmp .ge 38, 3) := by decide +kernel
theorem d_M_finish_8 : decode b_M_finish 8 = .ok (.aload_n 0, 1) := by decide +kernel
theorem d_M_finish_9 : decode b_M_finish 9 = .ok (.getfield 13, 3) := by decide +kernel
theorem d_M_finish_12 : decode b_M_finish 12 = .ok (.iload_n 1, 1) := by decide +kernel
theorem d_M_finish_13 : decode b_M_finish 13 = .ok (.aload_n 0, 1) := by decide +kernel
theorem d_M_finish_14 : decode b_M_finish 14 = .ok (.getfield 48, 3) := by decide +kernel
theorem d_M_finish_17 : decode b_M_finish 17 = .ok (.iload_n 1, 1) := by decide +kernel
theorem d_M_finish_18 : decode b_M_finish 18 = .ok (.daload, 1) := by decide +kernel
theorem d_M_finish_19 : decode b_M_finish 19 = .ok (.dastore, 1) := by decide +kernel
theorem d_M_finish_20 : decode b_M_finish 20 = .ok (.aload_n 0, 1) := by decide +kernel
theorem d_M_finish_21 : decode b_M_finish 21 = .ok (.getfield 27, 3) := by decide +kernel
theorem d_M_finish_24 : decode b_M_finish 24 = .ok (.iload_n 1, 1) := by decide +kernel
theorem d_M_finish_25 : decode b_M_finish 25 = .ok (.aload_n 0, 1) := by decide +kernel
theorem d_M_finish_26 : decode b_M_finish 26 = .ok (.getfield 51, 3) := by decide +kernel
theorem d_M_finish_29 : decode b_M_finish 29 = .ok (.iload_n 1, 1) := by decide +kernel
theorem d_M_finish_30 : decode b_M_finish 30 = .ok (.baload, 1) := by decide +kernel
theorem d_M_finish_31 : decode b_M_finish 31 = .ok (.bastore, 1) := by decide +kernel
theorem d_M_finish_32 : decode b_M_finish 32 = .ok (.aload_n 0, 1) := by decide +kernel
theorem d_M_finish_33 : decode b_M_finish 33 = .ok (.iload_n 1, 1) := by decide +kernel
theorem d_M_finish_34 : decode b_M_finish 34 = .ok (.invokevirtual 141, 3) := by decide +kernel
theorem d_M_finish_37 : decode b_M_finish 37 = .ok (.iinc 1 1, 3) := by decide +kernel
theorem d_M_finish_40 : decode b_M_finish 40 = .ok (.goto (-38), 3) := by decide +kernel
theorem d_M_finish_43 : decode b_M_finish 43 = .ok (.iconst 0, 1) := by decide +kernel
theorem d_M_finish_44 : decode b_M_finish 44 = .ok (.istore_n 1, 1) := by decide +kernel
theorem d_M_finish_45 : decode b_M_finish 45 = .ok (.iload_n 1, 1) := by decide +kernel
theorem d_M_finish_46 : decode b_M_finish 46 = .ok (.bipush 12, 2) := by decide +kernel
theorem d_M_finish_48 : decode b_M_finish 48 = .ok (.if_icmp .ge 24, 3) := by decide +kernel
theorem d_M_finish_51 : decode b_M_finish 51 = .ok (.aload_n 0, 1) := by decide +kernel
theorem d_M_finish_52 : decode b_M_finish 52 = .ok (.getfield 54, 3) := by decide +kernel
theorem d_M_finish_55 : decode b_M_finish 55 = .ok (.iload_n 1, 1) := by decide +kernel
theorem d_M_finish_56 : decode b_M_finish 56 = .ok (.baload, 1) := by decide +kernel
theorem d_M_finish_57 : decode b_M_finish 57 = .ok (.ifCond .eq 9, 3) := by decide +kernel
theorem d_M_finish_60 : decode b_M_finish 60 = .ok (.aload_n 0, 1) := by decide +kernel
theorem d_M_finish_61 : decode b_M_finish 61 = .ok (.iload_n 1, 1) := by decide +kernel
theorem d_M_finish_62 : decode b_M_finish 62 = .ok (.invokevirtual 90, 3) := by decide +kernel
theorem d_M_finish_65 : decode b_M_finish 65 = .ok (.pop, 1) := by decide +kernel
theorem d_M_finish_66 : decode b_M_finish 66 = .ok (.iinc 1 1, 3) := by decide +kernel
theorem d_M_finish_69 : decode b_M_finish 69 = .ok (.goto (-24), 3) := by decide +kernel
theorem d_M_finish_72 : decode b_M_finish 72 = .ok (.aload_n 0, 1) := by decide +kernel
theorem d_M_finish_73 : decode b_M_finish 73 = .ok (.getfield 94, 3) := by decide +kernel
theorem d_M_finish_76 : decode b_M_finish 76 = .ok (.iconst 3, 1) := by decide +kernel
theorem d_M_finish_77 : decode b_M_finish 77 = .ok (.if_icmp .ne 18, 3) := by decide +kernel
theorem d_M_finish_80 : decode b_M_finish 80 = .ok (.aload_n 0, 1) := by decide +kernel
theorem d_M_finish_81 : decode b_M_finish 81 = .ok (.getfield 36, 3) := by decide +kernel
theorem d_M_finish_84 : decode b_M_finish 84 = .ok (.iconst 0, 1) := by decide +kernel
theorem d_M_finish_85 : decode b_M_finish 85 = .ok (.iaload, 1) := by decide +kernel
theorem d_M_finish_86 : decode b_M_finish 86 = .ok (.iconst 2, 1) := by decide +kernel
theorem d_M_finish_87 : decode b_M_finish 87 = .ok (.irem, 1) := by decide +kernel
theorem d_M_finish_88 : decode b_M_finish 88 = .ok (.ifCond .ne 7, 3) := by decide +kernel
theorem d_M_finish_91 : decode b_M_finish 91 = .ok (.iconst 1, 1) := by decide +kernel
theorem d_M_finish_92 : decode b_M_finish 92 = .ok (.goto 4, 3) := by decide +kernel
theorem d_M_finish_95 : decode b_M_finish 95 = .ok (.iconst 0, 1) := by decide +kernel
theorem d_M_finish_96 : decode b_M_finish 96 = .ok (.istore_n 1, 1) := by decide +kernel
theorem d_M_finish_97 : decode b_M_finish 97 = .ok (.iload_n 1, 1) := by decide +kernel
theorem d_M_finish_98 : decode b_M_finish 98 = .ok (.ifCond .ne 38, 3) := by decide +kernel
theorem d_M_finish_101 : decode b_M_finish 101 = .ok (.aload_n 0, 1) := by decide +kernel
theorem d_M_finish_102 : decode b_M_finish 102 = .ok (.getfield 39, 3) := by decide +kernel
theorem d_M_finish_105 : decode b_M_finish 105 = .ok (.iconst 0, 1) := by decide +kernel
theorem d_M_finish_106 : decode b_M_finish 106 = .ok (.aload_n 0, 1) := by decide +kernel
theorem d_M_finish_107 : decode b_M_finish 107 = .ok (.getfield 107, 3) := by decide +kernel
theorem d_M_finish_110 : decode b_M_finish 110 = .ok (.ifCond .le 10, 3) := by decide +kernel
theorem d_M_finish_113 : decode b_M_finish 113 = .ok (.aload_n 0, 1) := by decide +kernel
theorem d_M_finish_114 : decode b_M_finish 114 = .ok (.getfield 110, 3) := by decide +kernel
theorem d_M_finish_117 : decode b_M_finish 117 = .ok (.goto 18, 3) := by decide +kernel
theorem d_M_finish_120 : decode b_M_finish 120 = .ok (.aload_n 0, 1) := by decide +kernel
theorem d_M_finish_121 : decode b_M_finish 121 = .ok (.getfield 94, 3) := by decide +kernel
theorem d_M_finish_124 : decode b_M_finish 124 = .ok (.iconst 1, 1) := by decide +kernel
theorem d_M_finish_125 : decode b_M_finish 125 = .ok (.if_icmp .ne 9, 3) := by decide +kernel
theorem d_M_finish_128 : decode b_M_finish 128 = .ok (.ldc2_w 134, 3) := by decide +kernel
theorem d_M_finish_131 : decode b_M_finish 131 = .ok (.goto 4, 3) := by decide +kernel
theorem d_M_finish_134 : decode b_M_finish 134 = .ok (.dconst 0, 1) := by decide +kernel
theorem d_M_finish_135 : decode b_M_finish 135 = .ok (.dastore, 1) := by decide +kernel
theorem d_M_finish_136 : decode b_M_finish 136 = .ok (.aload_n 0, 1) := by decide +kernel
theorem d_M_finish_137 : decode b_M_finish 137 = .ok (.getfield 36, 3) := by decide +kernel
theorem d_M_finish_140 : decode b_M_finish 140 = .ok (.iconst 0, 1) := by decide +kernel
theorem d_M_finish_141 : decode b_M_finish 141 = .ok (.dup2, 1) := by decide +kernel
theorem d_M_finish_142 : decode b_M_finish 142 = .ok (.iaload, 1) := by decide +kernel
theorem d_M_finish_143 : decode b_M_finish 143 = .ok (.iconst 1, 1) := by decide +kernel
theorem d_M_finish_144 : decode b_M_finish 144 = .ok (.iadd, 1) := by decide +kernel
theorem d_M_finish_145 : decode b_M_finish 145 = .ok (.iastore, 1) := by decide +kernel
theorem d_M_finish_146 : decode b_M_finish 146 = .ok (.aload_n 0, 1) := by decide +kernel
theorem d_M_finish_147 : decode b_M_finish 147 = .ok (.iconst 0, 1) := by decide +kernel
theorem d_M_finish_148 : decode b_M_finish 148 = .ok (.putfield 73, 3) := by decide +kernel
theorem d_M_finish_151 : decode b_M_finish 151 = .ok (.iconst 0, 1) := by decide +kernel
theorem d_M_finish_152 : decode b_M_finish 152 = .ok (.istore_n 2, 1) := by decide +kernel
theorem d_M_finish_153 : decode b_M_finish 153 = .ok (.iload_n 2, 1) := by decide +kernel
theorem d_M_finish_154 : decode b_M_finish 154 = .ok (.bipush 12, 2) := by decide +kernel
theorem d_M_finish_156 : decode b_M_finish 156 = .ok (.if_icmp .ge 41, 3) := by decide +kernel
theorem d_M_finish_159 : decode b_M_finish 159 = .ok (.aload_n 0, 1) := by decide +kernel
theorem d_M_finish_160 : decode b_M_finish 160 = .ok (.getfield 7, 3) := by decide +kernel
theorem d_M_finish_163 : decode b_M_finish 163 = .ok (.iload_n 2, 1) := by decide +kernel
theorem d_M_finish_164 : decode b_M_finish 164 = .ok (.baload, 1) := by decide +kernel
theorem d_M_finish_165 : decode b_M_finish 165 = .ok (.ifCond .eq 26, 3) := by decide +kernel
theorem d_M_finish_168 : decode b_M_finish 168 = .ok (.aload_n 0, 1) := by decide +kernel
theorem d_M_finish_169 : decode b_M_finish 169 = .ok (.getfield 27, 3) := by decide +kernel
theorem d_M_finish_172 : decode b_M_finish 172 = .ok (.iload_n 2, 1) := by decide +kernel
theorem d_M_finish_173 : decode b_M_finish 173 = .ok (.baload, 1) := by decide +kernel
theorem d_M_finish_174 : decode b_M_finish 174 = .ok (.ifCond .ne 12, 3) := by decide +kernel
theorem d_M_finish_177 : decode b_M_finish 177 = .ok (.aload_n 0, 1) := by decide +kernel
theorem d_M_finish_178 : decode b_M_finish 178 = .ok (.getfield 30, 3) := by decide +kernel
theorem d_M_finish_181 : decode b_M_finish 181 = .ok (.iload_n 2, 1) := by decide +kernel
theorem d_M_finish_182 : decode b_M_finish 182 = .ok (.iaload, 1) := by decide +kernel
theorem d_M_finish_183 : decode b_M_finish 183 = .ok (.ifCond .le 8, 3) := by decide +kernel
theorem d_M_finish_186 : decode b_M_finish 186 = .ok (.aload_n 0, 1) := by decide +kernel
theorem d_M_finish_187 : decode b_M_finish 187 = .ok (.iconst 1, 1) := by decide +kernel
theorem d_M_finish_188 : decode b_M_finish 188 = .ok (.putfield 73, 3) := by decide +kernel
theorem d_M_finish_191 : decode b_M_finish 191 = .ok (.iinc 2 1, 3) := by decide +kernel
theorem d_M_finish_194 : decode b_M_finish 194 = .ok (.goto (-41), 3) := by decide +kernel
theorem d_M_finish_197 : decode b_M_finish 197 = .ok (.return_, 1) := by decide +kernel
theorem d_M_receive_0 : decode b_M_receive 0 = .ok (.aload_n 0, 1) := by decide +kernel
theorem d_M_receive_1 : decode b_M_receive 1 = .ok (.getfield 30, 3) := by decide +kernel
theorem d_M_receive_4 : decode b_M_receive 4 = .ok (.iload_n 1, 1) := by decide +kernel
theorem d_M_receive_5 : decode b_M_receive 5 = .ok (.iconst 0, 1) := by decide +kernel
theorem d_M_receive_6 : decode b_M_receive 6 = .ok (.iastore, 1) := by decide +kernel
theorem d_M_receive_7 : decode b_M_receive 7 = .ok (.aload_n 0, 1) := by decide +kernel
theorem d_M_receive_8 : decode b_M_receive 8 = .ok (.getfield 100, 3) := by decide +kernel
theorem d_M_receive_11 : decode b_M_receive 11 = .ok (.ifCond .ne 69, 3) := by decide +kernel
theorem d_M_receive_14 : decode b_M_receive 14 = .ok (.iconst 0, 1) := by decide +kernel
theorem d_M_receive_15 : decode b_M_receive 15 = .ok (.istore_n 2, 1) := by decide +kernel
theorem d_M_receive_16 : decode b_M_receive 16 = .ok (.iload_n 2, 1) := by decide +kernel
theorem d_M_receive_17 : decode b_M_receive 17 = .ok (.bipush 12, 2) := by decide +kernel
theorem d_M_receive_19 : decode b_M_receive 19 = .ok (.if_icmp .ge 60, 3) := by decide +kernel
theorem d_M_receive_22 : decode b_M_receive 22 = .ok (.aload_n 0, 1) := by decide +kernel
theorem d_M_receive_23 : decode b_M_receive 23 = .ok (.getfield 45, 3) := by decide +kernel
theorem d_M_receive_26 : decode b_M_receive 26 = .ok (.bipush 12, 2) := by decide +kernel
theorem d_M_receive_28 : decode b_M_receive 28 = .ok (.iload_n 1, 1) := by decide +kernel
theorem d_M_receive_29 : decode b_M_receive 29 = .ok (.imul, 1) := by decide +kernel
theorem d_M_receive_30 : decode b_M_receive 30 = .ok (.iload_n 2, 1) := by decide +kernel
theorem d_M_receive_31 : decode b_M_receive 31 = .ok (.iadd, 1) := by decide +kernel
theorem d_M_receive_32 : decode b_M_receive 32 = .ok (.baload, 1) := by decide +kernel
theorem d_M_receive_33 : decode b_M_receive 33 = .ok (.ifCond .eq 40, 3) := by decide +kernel
theorem d_M_receive_36 : decode b_M_receive 36 = .ok (.aload_n 0, 1) := by decide +kernel
theorem d_M_receive_37 : decode b_M_receive 37 = .ok (.getfield 33, 3) := by decide +kernel
theorem d_M_receive_40 : decode b_M_receive 40 = .ok (.bipush 12, 2) := by decide +kernel
theorem d_M_receive_42 : decode b_M_receive 42 = .ok (.iload_n 1, 1) := by decide +kernel
theorem d_M_receive_43 : decode b_M_receive 43 = .ok (.imul, 1) := by decide +kernel
theorem d_M_receive_44 : decode b_M_receive 44 = .ok (.aload_n 0, 1) := by decide +kernel
theorem d_M_receive_45 : decode b_M_receive 45 = .ok (.getfield 30, 3) := by decide +kernel
theorem d_M_receive_48 : decode b_M_receive 48 = .ok (.iload_n 1, 1) := by decide +kernel
theorem d_M_receive_49 : decode b_M_receive 49 = .ok (.iaload, 1) := by decide +kernel
theorem d_M_receive_50 : decode b_M_receive 50 = .ok (.iadd, 1) := by decide +kernel
theorem d_M_receive_51 : decode b_M_receive 51 = .ok (.aload_n 0, 1) := by decide +kernel
theorem d_M_receive_52 : decode b_M_receive 52 = .ok (.getfield 42, 3) := by decide +kernel
theorem d_M_receive_55 : decode b_M_receive 55 = .ok (.bipush 12, 2) := by decide +kernel
theorem d_M_receive_57 : decode b_M_receive 57 = .ok (.iload_n 1, 1) := by decide +kernel
theorem d_M_receive_58 : decode b_M_receive 58 = .ok (.imul, 1) := by decide +kernel
theorem d_M_receive_59 : decode b_M_receive 59 = .ok (.iload_n 2, 1) := by decide +kernel
theorem d_M_receive_60 : decode b_M_receive 60 = .ok (.iadd, 1) := by decide +kernel
theorem d_M_receive_61 : decode b_M_receive 61 = .ok (.daload, 1) := by decide +kernel
theorem d_M_receive_62 : decode b_M_receive 62 = .ok (.dastore, 1) := by decide +kernel
theorem d_M_receive_63 : decode b_M_receive 63 = .ok (.aload_n 0, 1) := by decide +kernel
theorem d_M_receive_64 : decode b_M_receive 64 = .ok (.getfield 30, 3) := by decide +kernel
theorem d_M_receive_67 : decode b_M_receive 67 = .ok (.iload_n 1, 1) := by decide +kernel
theorem d_M_receive_68 : decode b_M_receive 68 = .ok (.dup2, 1) := by decide +kernel
theorem d_M_receive_69 : decode b_M_receive 69 = .ok (.iaload, 1) := by decide +kernel
theorem d_M_receive_70 : decode b_M_receive 70 = .ok (.iconst 1, 1) := by decide +kernel
theorem d_M_receive_71 : decode b_M_receive 71 = .ok (.iadd, 1) := by decide +kernel
theorem d_M_receive_72 : decode b_M_receive 72 = .ok (.iastore, 1) := by decide +kernel
theorem d_M_receive_73 : decode b_M_receive 73 = .ok (.iinc 2 1, 3) := by decide +kernel
theorem d_M_receive_76 : decode b_M_receive 76 = .ok (.goto (-60), 3) := by decide +kernel
theorem d_M_receive_79 : decode b_M_receive 79 = .ok (.return_, 1) := by decide +kernel
theorem d_M_receive_80 : decode b_M_receive 80 = .ok (.iconst 0, 1) := by decide +kernel
theorem d_M_receive_81 : decode b_M_receive 81 = .ok (.istore_n 2, 1) := by decide +kernel
