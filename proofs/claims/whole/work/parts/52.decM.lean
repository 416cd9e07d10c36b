theorem d_M_receive_82 : decode b_M_receive 82 = .ok (.iload_n 2, 1) := by decide +kernel
theorem d_M_receive_83 : decode b_M_receive 83 = .ok (.iconst 3, 1) := by decide +kernel
theorem d_M_receive_84 : decode b_M_receive 84 = .ok (.if_icmp .ge 160, 3) := by decide +kernel
theorem d_M_receive_87 : decode b_M_receive 87 = .ok (.iconst 0, 1) := by decide +kernel
theorem d_M_receive_88 : decode b_M_receive 88 = .ok (.istore_n 3, 1) := by decide +kernel
theorem d_M_receive_89 : decode b_M_receive 89 = .ok (.dconst 0, 1) := by decide +kernel
theorem d_M_receive_90 : decode b_M_receive 90 = .ok (.dstore 4, 2) := by decide +kernel
theorem d_M_receive_92 : decode b_M_receive 92 = .ok (.iload_n 2, 1) := by decide +kernel
theorem d_M_receive_93 : decode b_M_receive 93 = .ok (.istore 6, 2) := by decide +kernel
theorem d_M_receive_95 : decode b_M_receive 95 = .ok (.iload 6, 2) := by decide +kernel
theorem d_M_receive_97 : decode b_M_receive 97 = .ok (.bipush 12, 2) := by decide +kernel
theorem d_M_receive_99 : decode b_M_receive 99 = .ok (.if_icmp .ge 107, 3) := by decide +kernel
theorem d_M_receive_102 : decode b_M_receive 102 = .ok (.aload_n 0, 1) := by decide +kernel
theorem d_M_receive_103 : decode b_M_receive 103 = .ok (.getfield 45, 3) := by decide +kernel
theorem d_M_receive_106 : decode b_M_receive 106 = .ok (.bipush 12, 2) := by decide +kernel
theorem d_M_receive_108 : decode b_M_receive 108 = .ok (.iload_n 1, 1) := by decide +kernel
theorem d_M_receive_109 : decode b_M_receive 109 = .ok (.imul, 1) := by decide +kernel
theorem d_M_receive_110 : decode b_M_receive 110 = .ok (.iload 6, 2) := by decide +kernel
theorem d_M_receive_112 : decode b_M_receive 112 = .ok (.iadd, 1) := by decide +kernel
theorem d_M_receive_113 : decode b_M_receive 113 = .ok (.baload, 1) := by decide +kernel
theorem d_M_receive_114 : decode b_M_receive 114 = .ok (.ifCond .eq 86, 3) := by decide +kernel
theorem d_M_receive_117 : decode b_M_receive 117 = .ok (.aload_n 0, 1) := by decide +kernel
theorem d_M_receive_118 : decode b_M_receive 118 = .ok (.getfield 42, 3) := by decide +kernel
theorem d_M_receive_121 : decode b_M_receive 121 = .ok (.bipush 12, 2) := by decide +kernel
theorem d_M_receive_123 : decode b_M_receive 123 = .ok (.iload_n 1, 1) := by decide +kernel
theorem d_M_receive_124 : decode b_M_receive 124 = .ok (.imul, 1) := by decide +kernel
theorem d_M_receive_125 : decode b_M_receive 125 = .ok (.iload 6, 2) := by decide +kernel
theorem d_M_receive_127 : decode b_M_receive 127 = .ok (.iadd, 1) := by decide +kernel
theorem d_M_receive_128 : decode b_M_receive 128 = .ok (.daload, 1) := by decide +kernel
theorem d_M_receive_129 : decode b_M_receive 129 = .ok (.dstore 7, 2) := by decide +kernel
theorem d_M_receive_131 : decode b_M_receive 131 = .ok (.iload_n 3, 1) := by decide +kernel
theorem d_M_receive_132 : decode b_M_receive 132 = .ok (.ifCond .ne 10, 3) := by decide +kernel
theorem d_M_receive_135 : decode b_M_receive 135 = .ok (.dload 7, 2) := by decide +kernel
theorem d_M_receive_137 : decode b_M_receive 137 = .ok (.dstore 4, 2) := by decide +kernel
theorem d_M_receive_139 : decode b_M_receive 139 = .ok (.goto 59, 3) := by decide +kernel
theorem d_M_receive_142 : decode b_M_receive 142 = .ok (.aload_n 0, 1) := by decide +kernel
theorem d_M_receive_143 : decode b_M_receive 143 = .ok (.getfield 94, 3) := by decide +kernel
theorem d_M_receive_146 : decode b_M_receive 146 = .ok (.ifCond .eq 11, 3) := by decide +kernel
theorem d_M_receive_149 : decode b_M_receive 149 = .ok (.aload_n 0, 1) := by decide +kernel
theorem d_M_receive_150 : decode b_M_receive 150 = .ok (.getfield 94, 3) := by decide +kernel
theorem d_M_receive_153 : decode b_M_receive 153 = .ok (.iconst 3, 1) := by decide +kernel
theorem d_M_receive_154 : decode b_M_receive 154 = .ok (.if_icmp .ne 13, 3) := by decide +kernel
theorem d_M_receive_157 : decode b_M_receive 157 = .ok (.dload 4, 2) := by decide +kernel
theorem d_M_receive_159 : decode b_M_receive 159 = .ok (.dload 7, 2) := by decide +kernel
theorem d_M_receive_161 : decode b_M_receive 161 = .ok (.dadd, 1) := by decide +kernel
theorem d_M_receive_162 : decode b_M_receive 162 = .ok (.dstore 4, 2) := by decide +kernel
theorem d_M_receive_164 : decode b_M_receive 164 = .ok (.goto 34, 3) := by decide +kernel
theorem d_M_receive_167 : decode b_M_receive 167 = .ok (.aload_n 0, 1) := by decide +kernel
theorem d_M_receive_168 : decode b_M_receive 168 = .ok (.getfield 94, 3) := by decide +kernel
theorem d_M_receive_171 : decode b_M_receive 171 = .ok (.iconst 1, 1) := by decide +kernel
theorem d_M_receive_172 : decode b_M_receive 172 = .ok (.if_icmp .ne 14, 3) := by decide +kernel
theorem d_M_receive_175 : decode b_M_receive 175 = .ok (.dload 7, 2) := by decide +kernel
theorem d_M_receive_177 : decode b_M_receive 177 = .ok (.dload 4, 2) := by decide +kernel
theorem d_M_receive_179 : decode b_M_receive 179 = .ok (.dcmp .g, 1) := by decide +kernel
theorem d_M_receive_180 : decode b_M_receive 180 = .ok (.ifCond .ge 18, 3) := by decide +kernel
theorem d_M_receive_183 : decode b_M_receive 183 = .ok (.goto 11, 3) := by decide +kernel
theorem d_M_receive_186 : decode b_M_receive 186 = .ok (.dload 7, 2) := by decide +kernel
theorem d_M_receive_188 : decode b_M_receive 188 = .ok (.dload 4, 2) := by decide +kernel
theorem d_M_receive_190 : decode b_M_receive 190 = .ok (.dcmp .l, 1) := by decide +kernel
theorem d_M_receive_191 : decode b_M_receive 191 = .ok (.ifCond .le 7, 3) := by decide +kernel
theorem d_M_receive_194 : decode b_M_receive 194 = .ok (.dload 7, 2) := by decide +kernel
theorem d_M_receive_196 : decode b_M_receive 196 = .ok (.dstore 4, 2) := by decide +kernel
theorem d_M_receive_198 : decode b_M_receive 198 = .ok (.iconst 1, 1) := by decide +kernel
theorem d_M_receive_199 : decode b_M_receive 199 = .ok (.istore_n 3, 1) := by decide +kernel
theorem d_M_receive_200 : decode b_M_receive 200 = .ok (.iinc 6 3, 3) := by decide +kernel
theorem d_M_receive_203 : decode b_M_receive 203 = .ok (.goto (-108), 3) := by decide +kernel
theorem d_M_receive_206 : decode b_M_receive 206 = .ok (.iload_n 3, 1) := by decide +kernel
theorem d_M_receive_207 : decode b_M_receive 207 = .ok (.ifCond .eq 31, 3) := by decide +kernel
theorem d_M_receive_210 : decode b_M_receive 210 = .ok (.aload_n 0, 1) := by decide +kernel
theorem d_M_receive_211 : decode b_M_receive 211 = .ok (.getfield 33, 3) := by decide +kernel
theorem d_M_receive_214 : decode b_M_receive 214 = .ok (.bipush 12, 2) := by decide +kernel
theorem d_M_receive_216 : decode b_M_receive 216 = .ok (.iload_n 1, 1) := by decide +kernel
theorem d_M_receive_217 : decode b_M_receive 217 = .ok (.imul, 1) := by decide +kernel
theorem d_M_receive_218 : decode b_M_receive 218 = .ok (.aload_n 0, 1) := by decide +kernel
theorem d_M_receive_219 : decode b_M_receive 219 = .ok (.getfield 30, 3) := by decide +kernel
theorem d_M_receive_222 : decode b_M_receive 222 = .ok (.iload_n 1, 1) := by decide +kernel
theorem d_M_receive_223 : decode b_M_receive 223 = .ok (.iaload, 1) := by decide +kernel
theorem d_M_receive_224 : decode b_M_receive 224 = .ok (.iadd, 1) := by decide +kernel
theorem d_M_receive_225 : decode b_M_receive 225 = .ok (.dload 4, 2) := by decide +kernel
theorem d_M_receive_227 : decode b_M_receive 227 = .ok (.dastore, 1) := by decide +kernel
theorem d_M_receive_228 : decode b_M_receive 228 = .ok (.aload_n 0, 1) := by decide +kernel
theorem d_M_receive_229 : decode b_M_receive 229 = .ok (.getfield 30, 3) := by decide +kernel
theorem d_M_receive_232 : decode b_M_receive 232 = .ok (.iload_n 1, 1) := by decide +kernel
theorem d_M_receive_233 : decode b_M_receive 233 = .ok (.dup2, 1) := by decide +kernel
theorem d_M_receive_234 : decode b_M_receive 234 = .ok (.iaload, 1) := by decide +kernel
theorem d_M_receive_235 : decode b_M_receive 235 = .ok (.iconst 1, 1) := by decide +kernel
theorem d_M_receive_236 : decode b_M_receive 236 = .ok (.iadd, 1) := by decide +kernel
theorem d_M_receive_237 : decode b_M_receive 237 = .ok (.iastore, 1) := by decide +kernel
theorem d_M_receive_238 : decode b_M_receive 238 = .ok (.iinc 2 1, 3) := by decide +kernel
theorem d_M_receive_241 : decode b_M_receive 241 = .ok (.goto (-159), 3) := by decide +kernel
theorem d_M_receive_244 : decode b_M_receive 244 = .ok (.return_, 1) := by decide +kernel
theorem d_M_fail_0 : decode b_M_fail 0 = .ok (.aload_n 0, 1) := by decide +kernel
theorem d_M_fail_1 : decode b_M_fail 1 = .ok (.iload_n 1, 1) := by decide +kernel
theorem d_M_fail_2 : decode b_M_fail 2 = .ok (.putfield 57, 3) := by decide +kernel
theorem d_M_fail_5 : decode b_M_fail 5 = .ok (.iconst 0, 1) := by decide +kernel
theorem d_M_fail_6 : decode b_M_fail 6 = .ok (.ireturn, 1) := by decide +kernel
theorem d_M_save_0 : decode b_M_save 0 = .ok (.aload_n 0, 1) := by decide +kernel
theorem d_M_save_1 : decode b_M_save 1 = .ok (.aload_n 0, 1) := by decide +kernel
theorem d_M_save_2 : decode b_M_save 2 = .ok (.getfield 73, 3) := by decide +kernel
theorem d_M_save_5 : decode b_M_save 5 = .ok (.iconst 1, 1) := by decide +kernel
theorem d_M_save_6 : decode b_M_save 6 = .ok (.if_icmp .ne 7, 3) := by decide +kernel
theorem d_M_save_9 : decode b_M_save 9 = .ok (.iconst 1, 1) := by decide +kernel
theorem d_M_save_10 : decode b_M_save 10 = .ok (.goto 4, 3) := by decide +kernel
theorem d_M_save_13 : decode b_M_save 13 = .ok (.iconst 0, 1) := by decide +kernel
theorem d_M_save_14 : decode b_M_save 14 = .ok (.iconst 1, 1) := by decide +kernel
theorem d_M_save_15 : decode b_M_save 15 = .ok (.invokevirtual 69, 3) := by decide +kernel
theorem d_M_save_18 : decode b_M_save 18 = .ok (.ifCond .ne 5, 3) := by decide +kernel
theorem d_M_save_21 : decode b_M_save 21 = .ok (.iconst 0, 1) := by decide +kernel
theorem d_M_save_22 : decode b_M_save 22 = .ok (.ireturn, 1) := by decide +kernel
theorem d_M_save_23 : decode b_M_save 23 = .ok (.aload_n 0, 1) := by decide +kernel
theorem d_M_save_24 : decode b_M_save 24 = .ok (.iconst 0, 1) := by decide +kernel
theorem d_M_save_25 : decode b_M_save 25 = .ok (.bipush 12, 2) := by decide +kernel
theorem d_M_save_27 : decode b_M_save 27 = .ok (.invokevirtual 167, 3) := by decide +kernel
theorem d_M_save_30 : decode b_M_save 30 = .ok (.aload_n 0, 1) := by decide +kernel
theorem d_M_save_31 : decode b_M_save 31 = .ok (.iconst 1, 1) := by decide +kernel
theorem d_M_save_32 : decode b_M_save 32 = .ok (.putfield 104, 3) := by decide +kernel
theorem d_M_save_35 : decode b_M_save 35 = .ok (.aload_n 0, 1) := by decide +kernel
theorem d_M_save_36 : decode b_M_save 36 = .ok (.getfield 36, 3) := by decide +kernel
theorem d_M_save_39 : decode b_M_save 39 = .ok (.iconst 0, 1) := by decide +kernel
theorem d_M_save_40 : decode b_M_save 40 = .ok (.iaload, 1) := by decide +kernel
theorem d_M_save_41 : decode b_M_save 41 = .ok (.ireturn, 1) := by decide +kernel
theorem d_M_copy_0 : decode b_M_copy 0 = .ok (.iconst 0, 1) := by decide +kernel
theorem d_M_copy_1 : decode b_M_copy 1 = .ok (.istore_n 3, 1) := by decide +kernel
theorem d_M_copy_2 : decode b_M_copy 2 = .ok (.iload_n 3, 1) := by decide +kernel
theorem d_M_copy_3 : decode b_M_copy 3 = .ok (.bipush 12, 2) := by decide +kernel
theorem d_M_copy_5 : decode b_M_copy 5 = .ok (.if_icmp .ge 89, 3) := by decide +kernel
theorem d_M_copy_8 : decode b_M_copy 8 = .ok (.aload_n 0, 1) := by decide +kernel
theorem d_M_copy_9 : decode b_M_copy 9 = .ok (.getfield 7, 3) := by decide +kernel
theorem d_M_copy_12 : decode b_M_copy 12 = .ok (.iload_n 2, 1) := by decide +kernel
theorem d_M_copy_13 : decode b_M_copy 13 = .ok (.iload_n 3, 1) := by decide +kernel
theorem d_M_copy_14 : decode b_M_copy 14 = .ok (.iadd, 1) := by decide +kernel
theorem d_M_copy_15 : decode b_M_copy 15 = .ok (.aload_n 0, 1) := by decide +kernel
theorem d_M_copy_16 : decode b_M_copy 16 = .ok (.getfield 7, 3) := by decide +kernel
theorem d_M_copy_19 : decode b_M_copy 19 = .ok (.iload_n 1, 1) := by decide +kernel
theorem d_M_copy_20 : decode b_M_copy 20 = .ok (.iload_n 3, 1) := by decide +kernel
theorem d_M_copy_21 : decode b_M_copy 21 = .ok (.iadd, 1) := by decide +kernel
theorem d_M_copy_22 : decode b_M_copy 22 = .ok (.baload, 1) := by decide +kernel
theorem d_M_copy_23 : decode b_M_copy 23 = .ok (.bastore, 1) := by decide +kernel
theorem d_M_copy_24 : decode b_M_copy 24 = .ok (.aload_n 0, 1) := by decide +kernel
theorem d_M_copy_25 : decode b_M_copy 25 = .ok (.getfield 13, 3) := by decide +kernel
theorem d_M_copy_28 : decode b_M_copy 28 = .ok (.iload_n 2, 1) := by decide +kernel
theorem d_M_copy_29 : decode b_M_copy 29 = .ok (.iload_n 3, 1) := by decide +kernel
theorem d_M_copy_30 : decode b_M_copy 30 = .ok (.iadd, 1) := by decide +kernel
theorem d_M_copy_31 : decode b_M_copy 31 = .ok (.aload_n 0, 1) := by decide +kernel
theorem d_M_copy_32 : decode b_M_copy 32 = .ok (.getfield 13, 3) := by decide +kernel
theorem d_M_copy_35 : decode b_M_copy 35 = .ok (.iload_n 1, 1) := by decide +kernel
theorem d_M_copy_36 : decode b_M_copy 36 = .ok (.iload_n 3, 1) := by decide +kernel
theorem d_M_copy_37 : decode b_M_copy 37 = .ok (.iadd, 1) := by decide +kernel
theorem d_M_copy_38 : decode b_M_copy 38 = .ok (.daload, 1) := by decide +kernel
theorem d_M_copy_39 : decode b_M_copy 39 = .ok (.dastore, 1) := by decide +kernel
theorem d_M_copy_40 : decode b_M_copy 40 = .ok (.aload_n 0, 1) := by decide +kernel
theorem d_M_copy_41 : decode b_M_copy 41 = .ok (.getfield 17, 3) := by decide +kernel
theorem d_M_copy_44 : decode b_M_copy 44 = .ok (.iload_n 2, 1) := by decide +kernel
theorem d_M_copy_45 : decode b_M_copy 45 = .ok (.iload_n 3, 1) := by decide +kernel
theorem d_M_copy_46 : decode b_M_copy 46 = .ok (.iadd, 1) := by decide +kernel
theorem d_M_copy_47 : decode b_M_copy 47 = .ok (.aload_n 0, 1) := by decide +kernel
theorem d_M_copy_48 : decode b_M_copy 48 = .ok (.getfield 17, 3) := by decide +kernel
theorem d_M_copy_51 : decode b_M_copy 51 = .ok (.iload_n 1, 1) := by decide +kernel
theorem d_M_copy_52 : decode b_M_copy 52 = .ok (.iload_n 3, 1) := by decide +kernel
theorem d_M_copy_53 : decode b_M_copy 53 = .ok (.iadd, 1) := by decide +kernel
theorem d_M_copy_54 : decode b_M_copy 54 = .ok (.iaload, 1) := by decide +kernel
theorem d_M_copy_55 : decode b_M_copy 55 = .ok (.iastore, 1) := by decide +kernel
theorem d_M_copy_56 : decode b_M_copy 56 = .ok (.aload_n 0, 1) := by decide +kernel
theorem d_M_copy_57 : decode b_M_copy 57 = .ok (.getfield 27, 3) := by decide +kernel
theorem d_M_copy_60 : decode b_M_copy 60 = .ok (.iload_n 2, 1) := by decide +kernel
theorem d_M_copy_61 : decode b_M_copy 61 = .ok (.iload_n 3, 1) := by decide +kernel
theorem d_M_copy_62 : decode b_M_copy 62 = .ok (.iadd, 1) := by decide +kernel
theorem d_M_copy_63 : decode b_M_copy 63 = .ok (.aload_n 0, 1) := by decide +kernel
theorem d_M_copy_64 : decode b_M_copy 64 = .ok (.getfield 27, 3) := by decide +kernel
theorem d_M_copy_67 : decode b_M_copy 67 = .ok (.iload_n 1, 1) := by decide +kernel
theorem d_M_copy_68 : decode b_M_copy 68 = .ok (.iload_n 3, 1) := by decide +kernel
theorem d_M_copy_69 : decode b_M_copy 69 = .ok (.iadd, 1) := by decide +kernel
theorem d_M_copy_70 : decode b_M_copy 70 = .ok (.baload, 1) := by decide +kernel
theorem d_M_copy_71 : decode b_M_copy 71 = .ok (.bastore, 1) := by decide +kernel
theorem d_M_copy_72 : decode b_M_copy 72 = .ok (.aload_n 0, 1) := by decide +kernel
theorem d_M_copy_73 : decode b_M_copy 73 = .ok (.getfield 30, 3) := by decide +kernel
theorem d_M_copy_76 : decode b_M_copy 76 = .ok (.iload_n 2, 1) := by decide +kernel
theorem d_M_copy_77 : decode b_M_copy 77 = .ok (.iload_n 3, 1) := by decide +kernel
theorem d_M_copy_78 : decode b_M_copy 78 = .ok (.iadd, 1) := by decide +kernel
theorem d_M_copy_79 : decode b_M_copy 79 = .ok (.aload_n 0, 1) := by decide +kernel
theorem d_M_copy_80 : decode b_M_copy 80 = .ok (.getfield 30, 3) := by decide +kernel
theorem d_M_copy_83 : decode b_M_copy 83 = .ok (.iload_n 1, 1) := by decide +kernel
theorem d_M_copy_84 : decode b_M_copy 84 = .ok (.iload_n 3, 1) := by decide +kernel
theorem d_M_copy_85 : decode b_M_copy 85 = .ok (.iadd, 1) := by decide +kernel
theorem d_M_copy_86 : decode b_M_copy 86 = .ok (.iaload, 1) := by decide +kernel
theorem d_M_copy_87 : decode b_M_copy 87 = .ok (.iastore, 1) := by decide +kernel
theorem d_M_copy_88 : decode b_M_copy 88 = .ok (.iinc 3 1, 3) := by decide +kernel
theorem d_M_copy_91 : decode b_M_copy 91 = .ok (.goto (-89), 3) := by decide +kernel
theorem d_M_copy_94 : decode b_M_copy 94 = .ok (.iconst 0, 1) := by decide +kernel
theorem d_M_copy_95 : decode b_M_copy 95 = .ok (.istore_n 3, 1) := by decide +kernel
theorem d_M_copy_96 : decode b_M_copy 96 = .ok (.iload_n 3, 1) := by decide +kernel
theorem d_M_copy_97 : decode b_M_copy 97 = .ok (.sipush 144, 3) := by decide +kernel
theorem d_M_copy_100 : decode b_M_copy 100 = .ok (.if_icmp .ge 75, 3) := by decide +kernel
theorem d_M_copy_103 : decode b_M_copy 103 = .ok (.aload_n 0, 1) := by decide +kernel
theorem d_M_copy_104 : decode b_M_copy 104 = .ok (.getfield 21, 3) := by decide +kernel
theorem d_M_copy_107 : decode b_M_copy 107 = .ok (.bipush 12, 2) := by decide +kernel
theorem d_M_copy_109 : decode b_M_copy 109 = .ok (.iload_n 2, 1) := by decide +kernel
theorem d_M_copy_110 : decode b_M_copy 110 = .ok (.imul, 1) := by decide +kernel
theorem d_M_copy_111 : decode b_M_copy 111 = .ok (.iload_n 3, 1) := by decide +kernel
theorem d_M_copy_112 : decode b_M_copy 112 = .ok (.iadd, 1) := by decide +kernel
theorem d_M_copy_113 : decode b_M_copy 113 = .ok (.aload_n 0, 1) := by decide +kernel
theorem d_M_copy_114 : decode b_M_copy 114 = .ok (.getfield 21, 3) := by decide +kernel
theorem d_M_copy_117 : decode b_M_copy 117 = .ok (.bipush 12, 2) := by decide +kernel
theorem d_M_copy_119 : decode b_M_copy 119 = .ok (.iload_n 1, 1) := by decide +kernel
theorem d_M_copy_120 : decode b_M_copy 120 = .ok (.imul, 1) := by decide +kernel
theorem d_M_copy_121 : decode b_M_copy 121 = .ok (.iload_n 3, 1) := by decide +kernel
theorem d_M_copy_122 : decode b_M_copy 122 = .ok (.iadd, 1) := by decide +kernel
theorem d_M_copy_123 : decode b_M_copy 123 = .ok (.iaload, 1) := by decide +kernel
theorem d_M_copy_124 : decode b_M_copy 124 = .ok (.iastore, 1) := by decide +kernel
theorem d_M_copy_125 : decode b_M_copy 125 = .ok (.aload_n 0, 1) := by decide +kernel
theorem d_M_copy_126 : decode b_M_copy 126 = .ok (.getfield 24, 3) := by decide +kernel
theorem d_M_copy_129 : decode b_M_copy 129 = .ok (.bipush 12, 2) := by decide +kernel
theorem d_M_copy_131 : decode b_M_copy 131 = .ok (.iload_n 2, 1) := by decide +kernel
theorem d_M_copy_132 : decode b_M_copy 132 = .ok (.imul, 1) := by decide +kernel
theorem d_M_copy_133 : decode b_M_copy 133 = .ok (.iload_n 3, 1) := by decide +kernel
theorem d_M_copy_134 : decode b_M_copy 134 = .ok (.iadd, 1) := by decide +kernel
theorem d_M_copy_135 : decode b_M_copy 135 = .ok (.aload_n 0, 1) := by decide +kernel
theorem d_M_copy_136 : decode b_M_copy 136 = .ok (.getfield 24, 3) := by decide +kernel
theorem d_M_copy_139 : decode b_M_copy 139 = .ok (.bipush 12, 2) := by decide +kernel
theorem d_M_copy_141 : decode b_M_copy 141 = .ok (.iload_n 1, 1) := by decide +kernel
theorem d_M_copy_142 : decode b_M_copy 142 = .ok (.imul, 1) := by decide +kernel
theorem d_M_copy_143 : decode b_M_copy 143 = .ok (.iload_n 3, 1) := by decide +kernel
theorem d_M_copy_144 : decode b_M_copy 144 = .ok (.iadd, 1) := by decide +kernel
theorem d_M_copy_145 : decode b_M_copy 145 = .ok (.daload, 1) := by decide +kernel
theorem d_M_copy_146 : decode b_M_copy 146 = .ok (.dastore, 1) := by decide +kernel
theorem d_M_copy_147 : decode b_M_copy 147 = .ok (.aload_n 0, 1) := by decide +kernel
theorem d_M_copy_148 : decode b_M_copy 148 = .ok (.getfield 33, 3) := by decide +kernel
theorem d_M_copy_151 : decode b_M_copy 151 = .ok (.bipush 12, 2) := by decide +kernel
theorem d_M_copy_153 : decode b_M_copy 153 = .ok (.iload_n 2, 1) := by decide +kernel
theorem d_M_copy_154 : decode b_M_copy 154 = .ok (.imul, 1) := by decide +kernel
theorem d_M_copy_155 : decode b_M_copy 155 = .ok (.iload_n 3, 1) := by decide +kernel
theorem d_M_copy_156 : decode b_M_copy 156 = .ok (.iadd, 1) := by decide +kernel
theorem d_M_copy_157 : decode b_M_copy 157 = .ok (.aload_n 0, 1) := by decide +kernel
theorem d_M_copy_158 : decode b_M_copy 158 = .ok (.getfield 33, 3) := by decide +kernel
theorem d_M_copy_161 : decode b_M_copy 161 = .ok (.bipush 12, 2) := by decide +kernel
theorem d_M_copy_163 : decode b_M_copy 163 = .ok (.iload_n 1, 1) := by decide +kernel
theorem d_M_copy_164 : decode b_M_copy 164 = .ok (.imul, 1) := by decide +kernel
theorem d_M_copy_165 : decode b_M_copy 165 = .ok (.iload_n 3, 1) := by decide +kernel
theorem d_M_copy_166 : decode b_M_copy 166 = .ok (.iadd, 1) := by decide +kernel
theorem d_M_copy_167 : decode b_M_copy 167 = .ok (.daload, 1) := by decide +kernel
theorem d_M_copy_168 : decode b_M_copy 168 = .ok (.dastore, 1) := by decide +kernel
theorem d_M_copy_169 : decode b_M_copy 169 = .ok (.iinc 3 1, 3) := by decide +kernel
theorem d_M_copy_172 : decode b_M_copy 172 = .ok (.goto (-76), 3) := by decide +kernel
theorem d_M_copy_175 : decode b_M_copy 175 = .ok (.aload_n 0, 1) := by decide +kernel
theorem d_M_copy_176 : decode b_M_copy 176 = .ok (.getfield 36, 3) := by decide +kernel
theorem d_M_copy_179 : decode b_M_copy 179 = .ok (.iload_n 2, 1) := by decide +kernel
theorem d_M_copy_180 : decode b_M_copy 180 = .ok (.bipush 12, 2) := by decide +kernel
theorem d_M_copy_182 : decode b_M_copy 182 = .ok (.idiv, 1) := by decide +kernel
theorem d_M_copy_183 : decode b_M_copy 183 = .ok (.aload_n 0, 1) := by decide +kernel
theorem d_M_copy_184 : decode b_M_copy 184 = .ok (.getfield 36, 3) := by decide +kernel
theorem d_M_copy_187 : decode b_M_copy 187 = .ok (.iload_n 1, 1) := by decide +kernel
theorem d_M_copy_188 : decode b_M_copy 188 = .ok (.bipush 12, 2) := by decide +kernel
theorem d_M_copy_190 : decode b_M_copy 190 = .ok (.idiv, 1) := by decide +kernel
theorem d_M_copy_191 : decode b_M_copy 191 = .ok (.iaload, 1) := by decide +kernel
theorem d_M_copy_192 : decode b_M_copy 192 = .ok (.iastore, 1) := by decide +kernel
theorem d_M_copy_193 : decode b_M_copy 193 = .ok (.aload_n 0, 1) := by decide +kernel
theorem d_M_copy_194 : decode b_M_copy 194 = .ok (.getfield 39, 3) := by decide +kernel
theorem d_M_copy_197 : decode b_M_copy 197 = .ok (.iload_n 2, 1) := by decide +kernel
theorem d_M_copy_198 : decode b_M_copy 198 = .ok (.bipush 12, 2) := by decide +kernel
theorem d_M_copy_200 : decode b_M_copy 200 = .ok (.idiv, 1) := by decide +kernel
theorem d_M_copy_201 : decode b_M_copy 201 = .ok (.aload_n 0, 1) := by decide +kernel
theorem d_M_copy_202 : decode b_M_copy 202 = .ok (.getfield 39, 3) := by decide +kernel
theorem d_M_copy_205 : decode b_M_copy 205 = .ok (.iload_n 1, 1) := by decide +kernel
theorem d_M_copy_206 : decode b_M_copy 206 = .ok (.bipush 12, 2) := by decide +kernel
theorem d_M_copy_208 : decode b_M_copy 208 = .ok (.idiv, 1) := by decide +kernel
theorem d_M_copy_209 : decode b_M_copy 209 = .ok (.daload, 1) := by decide +kernel
theorem d_M_copy_210 : decode b_M_copy 210 = .ok (.dastore, 1) := by decide +kernel
theorem d_M_copy_211 : decode b_M_copy 211 = .ok (.return_, 1) := by decide +kernel
theorem d_M_lose_0 : decode b_M_lose 0 = .ok (.aload_n 0, 1) := by decide +kernel
theorem d_M_lose_1 : decode b_M_lose 1 = .ok (.iload_n 1, 1) := by decide +kernel
theorem d_M_lose_2 : decode b_M_lose 2 = .ok (.iconst 0, 1) := by decide +kernel
theorem d_M_lose_3 : decode b_M_lose 3 = .ok (.iconst 2, 1) := by decide +kernel
theorem d_M_lose_4 : decode b_M_lose 4 = .ok (.invokestatic 61, 3) := by decide +kernel
theorem d_M_lose_7 : decode b_M_lose 7 = .ok (.iconst 1, 1) := by decide +kernel
theorem d_M_lose_8 : decode b_M_lose 8 = .ok (.invokevirtual 69, 3) := by decide +kernel
theorem d_M_lose_11 : decode b_M_lose 11 = .ok (.ifCond .ne 5, 3) := by decide +kernel
theorem d_M_lose_14 : decode b_M_lose 14 = .ok (.iconst 0, 1) := by decide +kernel
theorem d_M_lose_15 : decode b_M_lose 15 = .ok (.ireturn, 1) := by decide +kernel
theorem d_M_lose_16 : decode b_M_lose 16 = .ok (.aload_n 0, 1) := by decide +kernel
theorem d_M_lose_17 : decode b_M_lose 17 = .ok (.aload_n 0, 1) := by decide +kernel
theorem d_M_lose_18 : decode b_M_lose 18 = .ok (.getfield 73, 3) := by decide +kernel
theorem d_M_lose_21 : decode b_M_lose 21 = .ok (.iconst 1, 1) := by decide +kernel
theorem d_M_lose_22 : decode b_M_lose 22 = .ok (.if_icmp .ne 7, 3) := by decide +kernel
theorem d_M_lose_25 : decode b_M_lose 25 = .ok (.iconst 1, 1) := by decide +kernel
theorem d_M_lose_26 : decode b_M_lose 26 = .ok (.goto 4, 3) := by decide +kernel
theorem d_M_lose_29 : decode b_M_lose 29 = .ok (.iconst 0, 1) := by decide +kernel
theorem d_M_lose_30 : decode b_M_lose 30 = .ok (.iconst 2, 1) := by decide +kernel
theorem d_M_lose_31 : decode b_M_lose 31 = .ok (.invokevirtual 69, 3) := by decide +kernel
theorem d_M_lose_34 : decode b_M_lose 34 = .ok (.ifCond .ne 5, 3) := by decide +kernel
theorem d_M_lose_37 : decode b_M_lose 37 = .ok (.iconst 0, 1) := by decide +kernel
theorem d_M_lose_38 : decode b_M_lose 38 = .ok (.ireturn, 1) := by decide +kernel
theorem d_M_lose_39 : decode b_M_lose 39 = .ok (.aload_n 0, 1) := by decide +kernel
theorem d_M_lose_40 : decode b_M_lose 40 = .ok (.iconst 2, 1) := by decide +kernel
theorem d_M_lose_41 : decode b_M_lose 41 = .ok (.putfield 73, 3) := by decide +kernel
theorem d_M_lose_44 : decode b_M_lose 44 = .ok (.iconst 0, 1) := by decide +kernel
theorem d_M_lose_45 : decode b_M_lose 45 = .ok (.istore_n 2, 1) := by decide +kernel
theorem d_M_lose_46 : decode b_M_lose 46 = .ok (.iload_n 1, 1) := by decide +kernel
theorem d_M_lose_47 : decode b_M_lose 47 = .ok (.istore_n 3, 1) := by decide +kernel
theorem d_M_lose_48 : decode b_M_lose 48 = .ok (.iload_n 3, 1) := by decide +kernel
theorem d_M_lose_49 : decode b_M_lose 49 = .ok (.bipush 12, 2) := by decide +kernel
theorem d_M_lose_51 : decode b_M_lose 51 = .ok (.if_icmp .ge 35, 3) := by decide +kernel
theorem d_M_lose_54 : decode b_M_lose 54 = .ok (.aload_n 0, 1) := by decide +kernel
theorem d_M_lose_55 : decode b_M_lose 55 = .ok (.getfield 7, 3) := by decide +kernel
theorem d_M_lose_58 : decode b_M_lose 58 = .ok (.iload_n 3, 1) := by decide +kernel
theorem d_M_lose_59 : decode b_M_lose 59 = .ok (.baload, 1) := by decide +kernel
theorem d_M_lose_60 : decode b_M_lose 60 = .ok (.ifCond .eq 20, 3) := by decide +kernel
theorem d_M_lose_63 : decode b_M_lose 63 = .ok (.iinc 2 1, 3) := by decide +kernel
theorem d_M_lose_66 : decode b_M_lose 66 = .ok (.aload_n 0, 1) := by decide +kernel
theorem d_M_lose_67 : decode b_M_lose 67 = .ok (.getfield 13, 3) := by decide +kernel
theorem d_M_lose_70 : decode b_M_lose 70 = .ok (.iload_n 3, 1) := by decide +kernel
theorem d_M_lose_71 : decode b_M_lose 71 = .ok (.dconst 0, 1) := by decide +kernel
theorem d_M_lose_72 : decode b_M_lose 72 = .ok (.dastore, 1) := by decide +kernel
theorem d_M_lose_73 : decode b_M_lose 73 = .ok (.aload_n 0, 1) := by decide +kernel
theorem d_M_lose_74 : decode b_M_lose 74 = .ok (.getfield 30, 3) := by decide +kernel
theorem d_M_lose_77 : decode b_M_lose 77 = .ok (.iload_n 3, 1) := by decide +kernel
theorem d_M_lose_78 : decode b_M_lose 78 = .ok (.iconst 0, 1) := by decide +kernel
theorem d_M_lose_79 : decode b_M_lose 79 = .ok (.iastore, 1) := by decide +kernel
theorem d_M_lose_80 : decode b_M_lose 80 = .ok (.iinc 3 3, 3) := by decide +kernel
theorem d_M_lose_83 : decode b_M_lose 83 = .ok (.goto (-35), 3) := by decide +kernel
theorem d_M_lose_86 : decode b_M_lose 86 = .ok (.iload_n 2, 1) := by decide +kernel
theorem d_M_lose_87 : decode b_M_lose 87 = .ok (.ireturn, 1) := by decide +kernel
theorem d_M_recover_0 : decode b_M_recover 0 = .ok (.aload_n 0, 1) := by decide +kernel
theorem d_M_recover_1 : decode b_M_recover 1 = .ok (.aload_n 0, 1) := by decide +kernel
theorem d_M_recover_2 : decode b_M_recover 2 = .ok (.getfield 73, 3) := by decide +kernel
theorem d_M_recover_5 : decode b_M_recover 5 = .ok (.ifCond .eq 7, 3) := by decide +kernel
theorem d_M_recover_8 : decode b_M_recover 8 = .ok (.iconst 1, 1) := by decide +kernel
theorem d_M_recover_9 : decode b_M_recover 9 = .ok (.goto 4, 3) := by decide +kernel
theorem d_M_recover_12 : decode b_M_recover 12 = .ok (.iconst 0, 1) := by decide +kernel
theorem d_M_recover_13 : decode b_M_recover 13 = .ok (.iconst 1, 1) := by decide +kernel
theorem d_M_recover_14 : decode b_M_recover 14 = .ok (.invokevirtual 69, 3) := by decide +kernel
theorem d_M_recover_17 : decode b_M_recover 17 = .ok (.ifCond .ne 5, 3) := by decide +kernel
theorem d_M_recover_20 : decode b_M_recover 20 = .ok (.iconst 0, 1) := by decide +kernel
theorem d_M_recover_21 : decode b_M_recover 21 = .ok (.ireturn, 1) := by decide +kernel
theorem d_M_recover_22 : decode b_M_recover 22 = .ok (.aload_n 0, 1) := by decide +kernel
theorem d_M_recover_23 : decode b_M_recover 23 = .ok (.getfield 104, 3) := by decide +kernel
theorem d_M_recover_26 : decode b_M_recover 26 = .ok (.ifCond .ne 14, 3) := by decide +kernel
theorem d_M_recover_29 : decode b_M_recover 29 = .ok (.aload_n 0, 1) := by decide +kernel
theorem d_M_recover_30 : decode b_M_recover 30 = .ok (.iconst 0, 1) := by decide +kernel
theorem d_M_recover_31 : decode b_M_recover 31 = .ok (.putfield 73, 3) := by decide +kernel
theorem d_M_recover_34 : decode b_M_recover 34 = .ok (.aload_n 0, 1) := by decide +kernel
theorem d_M_recover_35 : decode b_M_recover 35 = .ok (.iconst 2, 1) := by decide +kernel
theorem d_M_recover_36 : decode b_M_recover 36 = .ok (.invokevirtual 164, 3) := by decide +kernel
theorem d_M_recover_39 : decode b_M_recover 39 = .ok (.ireturn, 1) := by decide +kernel
theorem d_M_recover_40 : decode b_M_recover 40 = .ok (.aload_n 0, 1) := by decide +kernel
theorem d_M_recover_41 : decode b_M_recover 41 = .ok (.bipush 12, 2) := by decide +kernel
theorem d_M_recover_43 : decode b_M_recover 43 = .ok (.iconst 0, 1) := by decide +kernel
theorem d_M_recover_44 : decode b_M_recover 44 = .ok (.invokevirtual 167, 3) := by decide +kernel
theorem d_M_recover_47 : decode b_M_recover 47 = .ok (.aload_n 0, 1) := by decide +kernel
theorem d_M_recover_48 : decode b_M_recover 48 = .ok (.iconst 1, 1) := by decide +kernel
theorem d_M_recover_49 : decode b_M_recover 49 = .ok (.putfield 73, 3) := by decide +kernel
theorem d_M_recover_52 : decode b_M_recover 52 = .ok (.aload_n 0, 1) := by decide +kernel
theorem d_M_recover_53 : decode b_M_recover 53 = .ok (.getfield 36, 3) := by decide +kernel
theorem d_M_recover_56 : decode b_M_recover 56 = .ok (.iconst 0, 1) := by decide +kernel
theorem d_M_recover_57 : decode b_M_recover 57 = .ok (.iaload, 1) := by decide +kernel
theorem d_M_recover_58 : decode b_M_recover 58 = .ok (.ireturn, 1) := by decide +kernel
theorem d_M_stop_0 : decode b_M_stop 0 = .ok (.aload_n 0, 1) := by decide +kernel
theorem d_M_stop_1 : decode b_M_stop 1 = .ok (.aload_n 0, 1) := by decide +kernel
theorem d_M_stop_2 : decode b_M_stop 2 = .ok (.getfield 73, 3) := by decide +kernel
theorem d_M_stop_5 : decode b_M_stop 5 = .ok (.ifCond .eq 7, 3) := by decide +kernel
theorem d_M_stop_8 : decode b_M_stop 8 = .ok (.iconst 1, 1) := by decide +kernel
theorem d_M_stop_9 : decode b_M_stop 9 = .ok (.goto 4, 3) := by decide +kernel
theorem d_M_stop_12 : decode b_M_stop 12 = .ok (.iconst 0, 1) := by decide +kernel
theorem d_M_stop_13 : decode b_M_stop 13 = .ok (.iconst 1, 1) := by decide +kernel
theorem d_M_stop_14 : decode b_M_stop 14 = .ok (.invokevirtual 69, 3) := by decide +kernel
theorem d_M_stop_17 : decode b_M_stop 17 = .ok (.ifCond .ne 5, 3) := by decide +kernel
theorem d_M_stop_20 : decode b_M_stop 20 = .ok (.iconst 0, 1) := by decide +kernel
theorem d_M_stop_21 : decode b_M_stop 21 = .ok (.ireturn, 1) := by decide +kernel
theorem d_M_stop_22 : decode b_M_stop 22 = .ok (.aload_n 0, 1) := by decide +kernel
theorem d_M_stop_23 : decode b_M_stop 23 = .ok (.iconst 0, 1) := by decide +kernel
theorem d_M_stop_24 : decode b_M_stop 24 = .ok (.putfield 73, 3) := by decide +kernel
theorem d_M_stop_27 : decode b_M_stop 27 = .ok (.aload_n 0, 1) := by decide +kernel
theorem d_M_stop_28 : decode b_M_stop 28 = .ok (.getfield 36, 3) := by decide +kernel
theorem d_M_stop_31 : decode b_M_stop 31 = .ok (.iconst 0, 1) := by decide +kernel
theorem d_M_stop_32 : decode b_M_stop 32 = .ok (.iaload, 1) := by decide +kernel
theorem d_M_stop_33 : decode b_M_stop 33 = .ok (.ireturn, 1) := by decide +kernel
theorem d_M_value_0 : decode b_M_value 0 = .ok (.aload_n 0, 1) := by decide +kernel
theorem d_M_value_1 : decode b_M_value 1 = .ok (.iload_n 1, 1) := by decide +kernel
theorem d_M_value_2 : decode b_M_value 2 = .ok (.iconst 1, 1) := by decide +kernel
theorem d_M_value_3 : decode b_M_value 3 = .ok (.invokevirtual 170, 3) := by decide +kernel
theorem d_M_value_6 : decode b_M_value 6 = .ok (.ifCond .eq 12, 3) := by decide +kernel
theorem d_M_value_9 : decode b_M_value 9 = .ok (.aload_n 0, 1) := by decide +kernel
theorem d_M_value_10 : decode b_M_value 10 = .ok (.getfield 13, 3) := by decide +kernel
theorem d_M_value_13 : decode b_M_value 13 = .ok (.iload_n 1, 1) := by decide +kernel
theorem d_M_value_14 : decode b_M_value 14 = .ok (.daload, 1) := by decide +kernel
theorem d_M_value_15 : decode b_M_value 15 = .ok (.goto 4, 3) := by decide +kernel
theorem d_M_value_18 : decode b_M_value 18 = .ok (.dconst 0, 1) := by decide +kernel
theorem d_M_value_19 : decode b_M_value 19 = .ok (.dreturn, 1) := by decide +kernel
theorem d_M_known_0 : decode b_M_known 0 = .ok (.aload_n 0, 1) := by decide +kernel
theorem d_M_known_1 : decode b_M_known 1 = .ok (.iload_n 1, 1) := by decide +kernel
theorem d_M_known_2 : decode b_M_known 2 = .ok (.iconst 0, 1) := by decide +kernel
theorem d_M_known_3 : decode b_M_known 3 = .ok (.bipush 11, 2) := by decide +kernel
theorem d_M_known_5 : decode b_M_known 5 = .ok (.invokestatic 61, 3) := by decide +kernel
theorem d_M_known_8 : decode b_M_known 8 = .ok (.ifCond .eq 7, 3) := by decide +kernel
theorem d_M_known_11 : decode b_M_known 11 = .ok (.iload_n 2, 1) := by decide +kernel
theorem d_M_known_12 : decode b_M_known 12 = .ok (.ifCond .ne 7, 3) := by decide +kernel
theorem d_M_known_15 : decode b_M_known 15 = .ok (.iconst 1, 1) := by decide +kernel
theorem d_M_known_16 : decode b_M_known 16 = .ok (.goto 17, 3) := by decide +kernel
theorem d_M_known_19 : decode b_M_known 19 = .ok (.aload_n 0, 1) := by decide +kernel
theorem d_M_known_20 : decode b_M_known 20 = .ok (.getfield 7, 3) := by decide +kernel
theorem d_M_known_23 : decode b_M_known 23 = .ok (.iload_n 1, 1) := by decide +kernel
theorem d_M_known_24 : decode b_M_known 24 = .ok (.baload, 1) := by decide +kernel
theorem d_M_known_25 : decode b_M_known 25 = .ok (.ifCond .ne 7, 3) := by decide +kernel
theorem d_M_known_28 : decode b_M_known 28 = .ok (.iconst 2, 1) := by decide +kernel
theorem d_M_known_29 : decode b_M_known 29 = .ok (.goto 4, 3) := by decide +kernel
theorem d_M_known_32 : decode b_M_known 32 = .ok (.iconst 0, 1) := by decide +kernel
theorem d_M_known_33 : decode b_M_known 33 = .ok (.putfield 57, 3) := by decide +kernel
theorem d_M_known_36 : decode b_M_known 36 = .ok (.aload_n 0, 1) := by decide +kernel
theorem d_M_known_37 : decode b_M_known 37 = .ok (.getfield 57, 3) := by decide +kernel
theorem d_M_known_40 : decode b_M_known 40 = .ok (.ifCond .ne 7, 3) := by decide +kernel
theorem d_M_known_43 : decode b_M_known 43 = .ok (.iconst 1, 1) := by decide +kernel
theorem d_M_known_44 : decode b_M_known 44 = .ok (.goto 4, 3) := by decide +kernel
theorem d_M_known_47 : decode b_M_known 47 = .ok (.iconst 0, 1) := by decide +kernel
theorem d_M_known_48 : decode b_M_known 48 = .ok (.ireturn, 1) := by decide +kernel
theorem d_M_message_0 : decode b_M_message 0 = .ok (.aload_n 0, 1) := by decide +kernel
theorem d_M_message_1 : decode b_M_message 1 = .ok (.iload_n 1, 1) := by decide +kernel
theorem d_M_message_2 : decode b_M_message 2 = .ok (.iconst 1, 1) := by decide +kernel
theorem d_M_message_3 : decode b_M_message 3 = .ok (.invokevirtual 170, 3) := by decide +kernel
theorem d_M_message_6 : decode b_M_message 6 = .ok (.ifCond .ne 5, 3) := by decide +kernel
theorem d_M_message_9 : decode b_M_message 9 = .ok (.dconst 0, 1) := by decide +kernel
theorem d_M_message_10 : decode b_M_message 10 = .ok (.dreturn, 1) := by decide +kernel
theorem d_M_message_11 : decode b_M_message 11 = .ok (.aload_n 0, 1) := by decide +kernel
theorem d_M_message_12 : decode b_M_message 12 = .ok (.getfield 73, 3) := by decide +kernel
theorem d_M_message_15 : decode b_M_message 15 = .ok (.ifCond .eq 23, 3) := by decide +kernel
theorem d_M_message_18 : decode b_M_message 18 = .ok (.iload_n 2, 1) := by decide +kernel
theorem d_M_message_19 : decode b_M_message 19 = .ok (.iconst 0, 1) := by decide +kernel
theorem d_M_message_20 : decode b_M_message 20 = .ok (.aload_n 0, 1) := by decide +kernel
theorem d_M_message_21 : decode b_M_message 21 = .ok (.getfield 30, 3) := by decide +kernel
theorem d_M_message_24 : decode b_M_message 24 = .ok (.iload_n 1, 1) := by decide +kernel
theorem d_M_message_25 : decode b_M_message 25 = .ok (.iaload, 1) := by decide +kernel
theorem d_M_message_26 : decode b_M_message 26 = .ok (.iconst 1, 1) := by decide +kernel
theorem d_M_message_27 : decode b_M_message 27 = .ok (.isub, 1) := by decide +kernel
theorem d_M_message_28 : decode b_M_message 28 = .ok (.invokestatic 61, 3) := by decide +kernel
theorem d_M_message_31 : decode b_M_message 31 = .ok (.ifCond .eq 7, 3) := by decide +kernel
theorem d_M_message_34 : decode b_M_message 34 = .ok (.iconst 1, 1) := by decide +kernel
theorem d_M_message_35 : decode b_M_message 35 = .ok (.goto 4, 3) := by decide +kernel
theorem d_M_message_38 : decode b_M_message 38 = .ok (.iconst 0, 1) := by decide +kernel
theorem d_M_message_39 : decode b_M_message 39 = .ok (.istore_n 3, 1) := by decide +kernel
theorem d_M_message_40 : decode b_M_message 40 = .ok (.aload_n 0, 1) := by decide +kernel
theorem d_M_message_41 : decode b_M_message 41 = .ok (.iload_n 3, 1) := by decide +kernel
theorem d_M_message_42 : decode b_M_message 42 = .ok (.iconst 3, 1) := by decide +kernel
theorem d_M_message_43 : decode b_M_message 43 = .ok (.invokevirtual 69, 3) := by decide +kernel
theorem d_M_message_46 : decode b_M_message 46 = .ok (.ifCond .eq 17, 3) := by decide +kernel
theorem d_M_message_49 : decode b_M_message 49 = .ok (.aload_n 0, 1) := by decide +kernel
theorem d_M_message_50 : decode b_M_message 50 = .ok (.getfield 33, 3) := by decide +kernel
theorem d_M_message_53 : decode b_M_message 53 = .ok (.bipush 12, 2) := by decide +kernel
theorem d_M_message_55 : decode b_M_message 55 = .ok (.iload_n 1, 1) := by decide +kernel
theorem d_M_message_56 : decode b_M_message 56 = .ok (.imul, 1) := by decide +kernel
theorem d_M_message_57 : decode b_M_message 57 = .ok (.iload_n 2, 1) := by decide +kernel
theorem d_M_message_58 : decode b_M_message 58 = .ok (.iadd, 1) := by decide +kernel
theorem d_M_message_59 : decode b_M_message 59 = .ok (.daload, 1) := by decide +kernel
theorem d_M_message_60 : decode b_M_message 60 = .ok (.goto 4, 3) := by decide +kernel
theorem d_M_message_63 : decode b_M_message 63 = .ok (.dconst 0, 1) := by decide +kernel
theorem d_M_message_64 : decode b_M_message 64 = .ok (.dreturn, 1) := by decide +kernel
theorem d_M_aggregate_0 : decode b_M_aggregate 0 = .ok (.aload_n 0, 1) := by decide +kernel
theorem d_M_aggregate_1 : decode b_M_aggregate 1 = .ok (.iconst 0, 1) := by decide +kernel
theorem d_M_aggregate_2 : decode b_M_aggregate 2 = .ok (.putfield 57, 3) := by decide +kernel
theorem d_M_aggregate_5 : decode b_M_aggregate 5 = .ok (.aload_n 0, 1) := by decide +kernel
theorem d_M_aggregate_6 : decode b_M_aggregate 6 = .ok (.getfield 39, 3) := by decide +kernel
theorem d_M_aggregate_9 : decode b_M_aggregate 9 = .ok (.iconst 0, 1) := by decide +kernel
theorem d_M_aggregate_10 : decode b_M_aggregate 10 = .ok (.daload, 1) := by decide +kernel
theorem d_M_aggregate_11 : decode b_M_aggregate 11 = .ok (.dreturn, 1) := by decide +kernel
theorem d_M_about_0 : decode b_M_about 0 = .ok (.aload_n 0, 1) := by decide +kernel
theorem d_M_about_1 : decode b_M_about 1 = .ok (.iload_n 1, 1) := by decide +kernel
theorem d_M_about_2 : decode b_M_about 2 = .ok (.iload_n 2, 1) := by decide +kernel
theorem d_M_about_3 : decode b_M_about 3 = .ok (.iconst 0, 1) := by decide +kernel
theorem d_M_about_4 : decode b_M_about 4 = .ok (.bipush 14, 2) := by decide +kernel
theorem d_M_about_6 : decode b_M_about 6 = .ok (.invokestatic 61, 3) := by decide +kernel
theorem d_M_about_9 : decode b_M_about 9 = .ok (.invokevirtual 170, 3) := by decide +kernel
theorem d_M_about_12 : decode b_M_about 12 = .ok (.ifCond .ne 5, 3) := by decide +kernel
theorem d_M_about_15 : decode b_M_about 15 = .ok (.iconst 0, 1) := by decide +kernel
theorem d_M_about_16 : decode b_M_about 16 = .ok (.ireturn, 1) := by decide +kernel
theorem d_M_about_17 : decode b_M_about 17 = .ok (.iload_n 2, 1) := by decide +kernel
theorem d_M_about_18 : decode b_M_about 18 = .ok (.ifCond .ne 10, 3) := by decide +kernel
theorem d_M_about_21 : decode b_M_about 21 = .ok (.aload_n 0, 1) := by decide +kernel
theorem d_M_about_22 : decode b_M_about 22 = .ok (.getfield 17, 3) := by decide +kernel
theorem d_M_about_25 : decode b_M_about 25 = .ok (.iload_n 1, 1) := by decide +kernel
theorem d_M_about_26 : decode b_M_about 26 = .ok (.iaload, 1) := by decide +kernel
theorem d_M_about_27 : decode b_M_about 27 = .ok (.ireturn, 1) := by decide +kernel
theorem d_M_about_28 : decode b_M_about 28 = .ok (.iload_n 2, 1) := by decide +kernel
theorem d_M_about_29 : decode b_M_about 29 = .ok (.iconst 1, 1) := by decide +kernel
theorem d_M_about_30 : decode b_M_about 30 = .ok (.if_icmp .ne 21, 3) := by decide +kernel
theorem d_M_about_33 : decode b_M_about 33 = .ok (.aload_n 0, 1) := by decide +kernel
theorem d_M_about_34 : decode b_M_about 34 = .ok (.getfield 73, 3) := by decide +kernel
theorem d_M_about_37 : decode b_M_about 37 = .ok (.ifCond .ne 7, 3) := by decide +kernel
theorem d_M_about_40 : decode b_M_about 40 = .ok (.iconst 0, 1) := by decide +kernel
theorem d_M_about_41 : decode b_M_about 41 = .ok (.goto 9, 3) := by decide +kernel
theorem d_M_about_44 : decode b_M_about 44 = .ok (.aload_n 0, 1) := by decide +kernel
theorem d_M_about_45 : decode b_M_about 45 = .ok (.getfield 30, 3) := by decide +kernel
theorem d_M_about_48 : decode b_M_about 48 = .ok (.iload_n 1, 1) := by decide +kernel
theorem d_M_about_49 : decode b_M_about 49 = .ok (.iaload, 1) := by decide +kernel
theorem d_M_about_50 : decode b_M_about 50 = .ok (.ireturn, 1) := by decide +kernel
theorem d_M_about_51 : decode b_M_about 51 = .ok (.iload_n 2, 1) := by decide +kernel
theorem d_M_about_52 : decode b_M_about 52 = .ok (.iconst 2, 1) := by decide +kernel
theorem d_M_about_53 : decode b_M_about 53 = .ok (.if_icmp .ne 25, 3) := by decide +kernel
theorem d_M_about_56 : decode b_M_about 56 = .ok (.aload_n 0, 1) := by decide +kernel
theorem d_M_about_57 : decode b_M_about 57 = .ok (.getfield 73, 3) := by decide +kernel
theorem d_M_about_60 : decode b_M_about 60 = .ok (.ifCond .eq 16, 3) := by decide +kernel
theorem d_M_about_63 : decode b_M_about 63 = .ok (.aload_n 0, 1) := by decide +kernel
theorem d_M_about_64 : decode b_M_about 64 = .ok (.getfield 27, 3) := by decide +kernel
theorem d_M_about_67 : decode b_M_about 67 = .ok (.iload_n 1, 1) := by decide +kernel
theorem d_M_about_68 : decode b_M_about 68 = .ok (.baload, 1) := by decide +kernel
theorem d_M_about_69 : decode b_M_about 69 = .ok (.ifCond .eq 7, 3) := by decide +kernel
theorem d_M_about_72 : decode b_M_about 72 = .ok (.iconst 1, 1) := by decide +kernel
theorem d_M_about_73 : decode b_M_about 73 = .ok (.goto 4, 3) := by decide +kernel
theorem d_M_about_76 : decode b_M_about 76 = .ok (.iconst 0, 1) := by decide +kernel
theorem d_M_about_77 : decode b_M_about 77 = .ok (.ireturn, 1) := by decide +kernel
theorem d_M_about_78 : decode b_M_about 78 = .ok (.iload_n 2, 1) := by decide +kernel
theorem d_M_about_79 : decode b_M_about 79 = .ok (.iconst 3, 1) := by decide +kernel
theorem d_M_about_80 : decode b_M_about 80 = .ok (.isub, 1) := by decide +kernel
theorem d_M_about_81 : decode b_M_about 81 = .ok (.aload_n 0, 1) := by decide +kernel
theorem d_M_about_82 : decode b_M_about 82 = .ok (.getfield 17, 3) := by decide +kernel
theorem d_M_about_85 : decode b_M_about 85 = .ok (.iload_n 1, 1) := by decide +kernel
theorem d_M_about_86 : decode b_M_about 86 = .ok (.iaload, 1) := by decide +kernel
theorem d_M_about_87 : decode b_M_about 87 = .ok (.if_icmp .ge 19, 3) := by decide +kernel
theorem d_M_about_90 : decode b_M_about 90 = .ok (.aload_n 0, 1) := by decide +kernel
theorem d_M_about_91 : decode b_M_about 91 = .ok (.getfield 21, 3) := by decide +kernel
theorem d_M_about_94 : decode b_M_about 94 = .ok (.bipush 12, 2) := by decide +kernel
theorem d_M_about_96 : decode b_M_about 96 = .ok (.iload_n 1, 1) := by decide +kernel
theorem d_M_about_97 : decode b_M_about 97 = .ok (.imul, 1) := by decide +kernel
theorem d_M_about_98 : decode b_M_about 98 = .ok (.iload_n 2, 1) := by decide +kernel
theorem d_M_about_99 : decode b_M_about 99 = .ok (.iadd, 1) := by decide +kernel
theorem d_M_about_100 : decode b_M_about 100 = .ok (.iconst 3, 1) := by decide +kernel
theorem d_M_about_101 : decode b_M_about 101 = .ok (.isub, 1) := by decide +kernel
theorem d_M_about_102 : decode b_M_about 102 = .ok (.iaload, 1) := by decide +kernel
theorem d_M_about_103 : decode b_M_about 103 = .ok (.goto 4, 3) := by decide +kernel
theorem d_M_about_106 : decode b_M_about 106 = .ok (.iconst (-1), 1) := by decide +kernel
theorem d_M_about_107 : decode b_M_about 107 = .ok (.ireturn, 1) := by decide +kernel
theorem d_M_count_0 : decode b_M_count 0 = .ok (.aload_n 0, 1) := by decide +kernel
theorem d_M_count_1 : decode b_M_count 1 = .ok (.iload_n 1, 1) := by decide +kernel
theorem d_M_count_2 : decode b_M_count 2 = .ok (.iconst 0, 1) := by decide +kernel
theorem d_M_count_3 : decode b_M_count 3 = .ok (.iconst 4, 1) := by decide +kernel
theorem d_M_count_4 : decode b_M_count 4 = .ok (.invokestatic 61, 3) := by decide +kernel
theorem d_M_count_7 : decode b_M_count 7 = .ok (.iconst 1, 1) := by decide +kernel
theorem d_M_count_8 : decode b_M_count 8 = .ok (.invokevirtual 69, 3) := by decide +kernel
theorem d_M_count_11 : decode b_M_count 11 = .ok (.ifCond .ne 5, 3) := by decide +kernel
theorem d_M_count_14 : decode b_M_count 14 = .ok (.iconst 0, 1) := by decide +kernel
theorem d_M_count_15 : decode b_M_count 15 = .ok (.ireturn, 1) := by decide +kernel
theorem d_M_count_16 : decode b_M_count 16 = .ok (.iload_n 1, 1) := by decide +kernel
theorem d_M_count_17 : decode b_M_count 17 = .ok (.iconst 2, 1) := by decide +kernel
theorem d_M_count_18 : decode b_M_count 18 = .ok (.if_icmp .ge 21, 3) := by decide +kernel
theorem d_M_count_21 : decode b_M_count 21 = .ok (.iload_n 1, 1) := by decide +kernel
theorem d_M_count_22 : decode b_M_count 22 = .ok (.ifCond .ne 10, 3) := by decide +kernel
theorem d_M_count_25 : decode b_M_count 25 = .ok (.aload_n 0, 1) := by decide +kernel
theorem d_M_count_26 : decode b_M_count 26 = .ok (.getfield 73, 3) := by decide +kernel
theorem d_M_count_29 : decode b_M_count 29 = .ok (.goto 9, 3) := by decide +kernel
theorem d_M_count_32 : decode b_M_count 32 = .ok (.aload_n 0, 1) := by decide +kernel
theorem d_M_count_33 : decode b_M_count 33 = .ok (.getfield 36, 3) := by decide +kernel
theorem d_M_count_36 : decode b_M_count 36 = .ok (.iconst 0, 1) := by decide +kernel
theorem d_M_count_37 : decode b_M_count 37 = .ok (.iaload, 1) := by decide +kernel
theorem d_M_count_38 : decode b_M_count 38 = .ok (.ireturn, 1) := by decide +kernel
theorem d_M_count_39 : decode b_M_count 39 = .ok (.iload_n 1, 1) := by decide +kernel
theorem d_M_count_40 : decode b_M_count 40 = .ok (.iconst 2, 1) := by decide +kernel
theorem d_M_count_41 : decode b_M_count 41 = .ok (.if_icmp .ne 8, 3) := by decide +kernel
theorem d_M_count_44 : decode b_M_count 44 = .ok (.aload_n 0, 1) := by decide +kernel
theorem d_M_count_45 : decode b_M_count 45 = .ok (.invokevirtual 76, 3) := by decide +kernel
theorem d_M_count_48 : decode b_M_count 48 = .ok (.ireturn, 1) := by decide +kernel
theorem d_M_count_49 : decode b_M_count 49 = .ok (.iload_n 1, 1) := by decide +kernel
theorem d_M_count_50 : decode b_M_count 50 = .ok (.iconst 3, 1) := by decide +kernel
theorem d_M_count_51 : decode b_M_count 51 = .ok (.if_icmp .ne 16, 3) := by decide +kernel
theorem d_M_count_54 : decode b_M_count 54 = .ok (.aload_n 0, 1) := by decide +kernel
theorem d_M_count_55 : decode b_M_count 55 = .ok (.getfield 104, 3) := by decide +kernel
theorem d_M_count_58 : decode b_M_count 58 = .ok (.ifCond .eq 7, 3) := by decide +kernel
theorem d_M_count_61 : decode b_M_count 61 = .ok (.iconst 1, 1) := by decide +kernel
theorem d_M_count_62 : decode b_M_count 62 = .ok (.goto 4, 3) := by decide +kernel
theorem d_M_count_65 : decode b_M_count 65 = .ok (.iconst 0, 1) := by decide +kernel
theorem d_M_count_66 : decode b_M_count 66 = .ok (.ireturn, 1) := by decide +kernel
theorem d_M_count_67 : decode b_M_count 67 = .ok (.iconst 0, 1) := by decide +kernel
theorem d_M_count_68 : decode b_M_count 68 = .ok (.istore_n 2, 1) := by decide +kernel
theorem d_M_count_69 : decode b_M_count 69 = .ok (.iconst 0, 1) := by decide +kernel
theorem d_M_count_70 : decode b_M_count 70 = .ok (.istore_n 3, 1) := by decide +kernel
theorem d_M_count_71 : decode b_M_count 71 = .ok (.iload_n 3, 1) := by decide +kernel
theorem d_M_count_72 : decode b_M_count 72 = .ok (.bipush 12, 2) := by decide +kernel
theorem d_M_count_74 : decode b_M_count 74 = .ok (.if_icmp .ge 34, 3) := by decide +kernel
theorem d_M_count_77 : decode b_M_count 77 = .ok (.aload_n 0, 1) := by decide +kernel
theorem d_M_count_78 : decode b_M_count 78 = .ok (.getfield 7, 3) := by decide +kernel
theorem d_M_count_81 : decode b_M_count 81 = .ok (.iload_n 3, 1) := by decide +kernel
theorem d_M_count_82 : decode b_M_count 82 = .ok (.baload, 1) := by decide +kernel
theorem d_M_count_83 : decode b_M_count 83 = .ok (.ifCond .eq 19, 3) := by decide +kernel
theorem d_M_count_86 : decode b_M_count 86 = .ok (.aload_n 0, 1) := by decide +kernel
theorem d_M_count_87 : decode b_M_count 87 = .ok (.getfield 73, 3) := by decide +kernel
theorem d_M_count_90 : decode b_M_count 90 = .ok (.ifCond .eq 12, 3) := by decide +kernel
theorem d_M_count_93 : decode b_M_count 93 = .ok (.iload_n 2, 1) := by decide +kernel
theorem d_M_count_94 : decode b_M_count 94 = .ok (.aload_n 0, 1) := by decide +kernel
theorem d_M_count_95 : decode b_M_count 95 = .ok (.getfield 30, 3) := by decide +kernel
theorem d_M_count_98 : decode b_M_count 98 = .ok (.iload_n 3, 1) := by decide +kernel
theorem d_M_count_99 : decode b_M_count 99 = .ok (.iaload, 1) := by decide +kernel
theorem d_M_count_100 : decode b_M_count 100 = .ok (.iadd, 1) := by decide +kernel
theorem d_M_count_101 : decode b_M_count 101 = .ok (.istore_n 2, 1) := by decide +kernel
theorem d_M_count_102 : decode b_M_count 102 = .ok (.iinc 3 1, 3) := by decide +kernel
theorem d_M_count_105 : decode b_M_count 105 = .ok (.goto (-34), 3) := by decide +kernel
theorem d_M_count_108 : decode b_M_count 108 = .ok (.iload_n 2, 1) := by decide +kernel
theorem d_M_count_109 : decode b_M_count 109 = .ok (.ireturn, 1) := by decide +kernel

