theorem d_L_law_0 : decode code 0 = .ok (.new 8, 3) := by decide +kernel
theorem d_L_law_3 : decode code 3 = .ok (.dup, 1) := by decide +kernel
theorem d_L_law_4 : decode code 4 = .ok (.invokespecial 66, 3) := by decide +kernel
theorem d_L_law_7 : decode code 7 = .ok (.astore_n 1, 1) := by decide +kernel
theorem d_L_law_8 : decode code 8 = .ok (.new 67, 3) := by decide +kernel
theorem d_L_law_11 : decode code 11 = .ok (.dup, 1) := by decide +kernel
theorem d_L_law_12 : decode code 12 = .ok (.invokespecial 69, 3) := by decide +kernel
theorem d_L_law_15 : decode code 15 = .ok (.astore_n 2, 1) := by decide +kernel
theorem d_L_law_16 : decode code 16 = .ok (.iconst 1, 1) := by decide +kernel
theorem d_L_law_17 : decode code 17 = .ok (.newarray .long, 2) := by decide +kernel
theorem d_L_law_19 : decode code 19 = .ok (.astore_n 3, 1) := by decide +kernel
theorem d_L_law_20 : decode code 20 = .ok (.iconst 1, 1) := by decide +kernel
theorem d_L_law_21 : decode code 21 = .ok (.newarray .double, 2) := by decide +kernel
theorem d_L_law_23 : decode code 23 = .ok (.astore 4, 2) := by decide +kernel
theorem d_L_law_25 : decode code 25 = .ok (.iconst 0, 1) := by decide +kernel
theorem d_L_law_26 : decode code 26 = .ok (.istore 5, 2) := by decide +kernel
theorem d_L_law_28 : decode code 28 = .ok (.iload 5, 2) := by decide +kernel
theorem d_L_law_30 : decode code 30 = .ok (.aload_n 0, 1) := by decide +kernel
theorem d_L_law_31 : decode code 31 = .ok (.arraylength, 1) := by decide +kernel
theorem d_L_law_32 : decode code 32 = .ok (.iconst 4, 1) := by decide +kernel
theorem d_L_law_33 : decode code 33 = .ok (.isub, 1) := by decide +kernel
theorem d_L_law_34 : decode code 34 = .ok (.if_icmp .gt 983, 3) := by decide +kernel
theorem d_L_law_37 : decode code 37 = .ok (.aload_n 0, 1) := by decide +kernel
theorem d_L_law_38 : decode code 38 = .ok (.iload 5, 2) := by decide +kernel
theorem d_L_law_40 : decode code 40 = .ok (.iaload, 1) := by decide +kernel
theorem d_L_law_41 : decode code 41 = .ok (.bipush 15, 2) := by decide +kernel
theorem d_L_law_43 : decode code 43 = .ok (.iand, 1) := by decide +kernel
theorem d_L_law_44 : decode code 44 = .ok (.tableswitch 967 0 13 #[72, 150, 240, 296, 392, 448, 492, 548, 592, 636, 713, 802, 843, 911], 72) := by decide +kernel
theorem d_L_law_116 : decode code 116 = .ok (.aload_n 1, 1) := by decide +kernel
theorem d_L_law_117 : decode code 117 = .ok (.aload_n 0, 1) := by decide +kernel
theorem d_L_law_118 : decode code 118 = .ok (.iload 5, 2) := by decide +kernel
theorem d_L_law_120 : decode code 120 = .ok (.iconst 1, 1) := by decide +kernel
theorem d_L_law_121 : decode code 121 = .ok (.iadd, 1) := by decide +kernel
theorem d_L_law_122 : decode code 122 = .ok (.iaload, 1) := by decide +kernel
theorem d_L_law_123 : decode code 123 = .ok (.aload_n 0, 1) := by decide +kernel
theorem d_L_law_124 : decode code 124 = .ok (.iload 5, 2) := by decide +kernel
theorem d_L_law_126 : decode code 126 = .ok (.iconst 2, 1) := by decide +kernel
theorem d_L_law_127 : decode code 127 = .ok (.iadd, 1) := by decide +kernel
theorem d_L_law_128 : decode code 128 = .ok (.iaload, 1) := by decide +kernel
theorem d_L_law_129 : decode code 129 = .ok (.i2d, 1) := by decide +kernel
theorem d_L_law_130 : decode code 130 = .ok (.ldc2_w 70, 3) := by decide +kernel
theorem d_L_law_133 : decode code 133 = .ok (.dmul, 1) := by decide +kernel
theorem d_L_law_134 : decode code 134 = .ok (.aload_n 3, 1) := by decide +kernel
theorem d_L_law_135 : decode code 135 = .ok (.invokestatic 72, 3) := by decide +kernel
theorem d_L_law_138 : decode code 138 = .ok (.istore 6, 2) := by decide +kernel
theorem d_L_law_140 : decode code 140 = .ok (.aload_n 2, 1) := by decide +kernel
theorem d_L_law_141 : decode code 141 = .ok (.aload_n 0, 1) := by decide +kernel
theorem d_L_law_142 : decode code 142 = .ok (.iload 5, 2) := by decide +kernel
theorem d_L_law_144 : decode code 144 = .ok (.iconst 1, 1) := by decide +kernel
theorem d_L_law_145 : decode code 145 = .ok (.iadd, 1) := by decide +kernel
theorem d_L_law_146 : decode code 146 = .ok (.iaload, 1) := by decide +kernel
theorem d_L_law_147 : decode code 147 = .ok (.aload_n 0, 1) := by decide +kernel
theorem d_L_law_148 : decode code 148 = .ok (.iload 5, 2) := by decide +kernel
theorem d_L_law_150 : decode code 150 = .ok (.iconst 2, 1) := by decide +kernel
theorem d_L_law_151 : decode code 151 = .ok (.iadd, 1) := by decide +kernel
theorem d_L_law_152 : decode code 152 = .ok (.iaload, 1) := by decide +kernel
theorem d_L_law_153 : decode code 153 = .ok (.i2d, 1) := by decide +kernel
theorem d_L_law_154 : decode code 154 = .ok (.ldc2_w 70, 3) := by decide +kernel
theorem d_L_law_157 : decode code 157 = .ok (.dmul, 1) := by decide +kernel
theorem d_L_law_158 : decode code 158 = .ok (.invokevirtual 77, 3) := by decide +kernel
theorem d_L_law_161 : decode code 161 = .ok (.istore 7, 2) := by decide +kernel
theorem d_L_law_163 : decode code 163 = .ok (.aload_n 2, 1) := by decide +kernel
theorem d_L_law_164 : decode code 164 = .ok (.invokevirtual 78, 3) := by decide +kernel
theorem d_L_law_167 : decode code 167 = .ok (.iload 6, 2) := by decide +kernel
theorem d_L_law_169 : decode code 169 = .ok (.if_icmp .eq 5, 3) := by decide +kernel
theorem d_L_law_172 : decode code 172 = .ok (.iconst 0, 1) := by decide +kernel
theorem d_L_law_173 : decode code 173 = .ok (.ireturn, 1) := by decide +kernel
theorem d_L_law_174 : decode code 174 = .ok (.iload 6, 2) := by decide +kernel
theorem d_L_law_176 : decode code 176 = .ok (.ifCond .ne 15, 3) := by decide +kernel
theorem d_L_law_179 : decode code 179 = .ok (.aload_n 3, 1) := by decide +kernel
theorem d_L_law_180 : decode code 180 = .ok (.iconst 0, 1) := by decide +kernel
theorem d_L_law_181 : decode code 181 = .ok (.laload, 1) := by decide +kernel
theorem d_L_law_182 : decode code 182 = .ok (.iload 7, 2) := by decide +kernel
theorem d_L_law_184 : decode code 184 = .ok (.i2l, 1) := by decide +kernel
theorem d_L_law_185 : decode code 185 = .ok (.lcmp, 1) := by decide +kernel
theorem d_L_law_186 : decode code 186 = .ok (.ifCond .eq 5, 3) := by decide +kernel
theorem d_L_law_189 : decode code 189 = .ok (.iconst 0, 1) := by decide +kernel
theorem d_L_law_190 : decode code 190 = .ok (.ireturn, 1) := by decide +kernel
theorem d_L_law_191 : decode code 191 = .ok (.goto 820, 3) := by decide +kernel
theorem d_L_law_194 : decode code 194 = .ok (.aload_n 1, 1) := by decide +kernel
theorem d_L_law_195 : decode code 195 = .ok (.aload_n 0, 1) := by decide +kernel
theorem d_L_law_196 : decode code 196 = .ok (.iload 5, 2) := by decide +kernel
theorem d_L_law_198 : decode code 198 = .ok (.iconst 1, 1) := by decide +kernel
theorem d_L_law_199 : decode code 199 = .ok (.iadd, 1) := by decide +kernel
theorem d_L_law_200 : decode code 200 = .ok (.iaload, 1) := by decide +kernel
theorem d_L_law_201 : decode code 201 = .ok (.aload_n 0, 1) := by decide +kernel
theorem d_L_law_202 : decode code 202 = .ok (.iload 5, 2) := by decide +kernel
theorem d_L_law_204 : decode code 204 = .ok (.iconst 2, 1) := by decide +kernel
theorem d_L_law_205 : decode code 205 = .ok (.iadd, 1) := by decide +kernel
theorem d_L_law_206 : decode code 206 = .ok (.iaload, 1) := by decide +kernel
theorem d_L_law_207 : decode code 207 = .ok (.aload_n 0, 1) := by decide +kernel
theorem d_L_law_208 : decode code 208 = .ok (.iload 5, 2) := by decide +kernel
theorem d_L_law_210 : decode code 210 = .ok (.iconst 3, 1) := by decide +kernel
theorem d_L_law_211 : decode code 211 = .ok (.iadd, 1) := by decide +kernel
theorem d_L_law_212 : decode code 212 = .ok (.iaload, 1) := by decide +kernel
theorem d_L_law_213 : decode code 213 = .ok (.i2d, 1) := by decide +kernel
theorem d_L_law_214 : decode code 214 = .ok (.ldc2_w 70, 3) := by decide +kernel
theorem d_L_law_217 : decode code 217 = .ok (.dmul, 1) := by decide +kernel
theorem d_L_law_218 : decode code 218 = .ok (.aload_n 3, 1) := by decide +kernel
theorem d_L_law_219 : decode code 219 = .ok (.invokestatic 81, 3) := by decide +kernel
theorem d_L_law_222 : decode code 222 = .ok (.istore 6, 2) := by decide +kernel
theorem d_L_law_224 : decode code 224 = .ok (.aload_n 2, 1) := by decide +kernel
theorem d_L_law_225 : decode code 225 = .ok (.aload_n 0, 1) := by decide +kernel
theorem d_L_law_226 : decode code 226 = .ok (.iload 5, 2) := by decide +kernel
theorem d_L_law_228 : decode code 228 = .ok (.iconst 1, 1) := by decide +kernel
theorem d_L_law_229 : decode code 229 = .ok (.iadd, 1) := by decide +kernel
theorem d_L_law_230 : decode code 230 = .ok (.iaload, 1) := by decide +kernel
theorem d_L_law_231 : decode code 231 = .ok (.aload_n 0, 1) := by decide +kernel
theorem d_L_law_232 : decode code 232 = .ok (.iload 5, 2) := by decide +kernel
theorem d_L_law_234 : decode code 234 = .ok (.iconst 2, 1) := by decide +kernel
theorem d_L_law_235 : decode code 235 = .ok (.iadd, 1) := by decide +kernel
theorem d_L_law_236 : decode code 236 = .ok (.iaload, 1) := by decide +kernel
theorem d_L_law_237 : decode code 237 = .ok (.aload_n 0, 1) := by decide +kernel
theorem d_L_law_238 : decode code 238 = .ok (.iload 5, 2) := by decide +kernel
theorem d_L_law_240 : decode code 240 = .ok (.iconst 3, 1) := by decide +kernel
theorem d_L_law_241 : decode code 241 = .ok (.iadd, 1) := by decide +kernel
theorem d_L_law_242 : decode code 242 = .ok (.iaload, 1) := by decide +kernel
theorem d_L_law_243 : decode code 243 = .ok (.i2d, 1) := by decide +kernel
theorem d_L_law_244 : decode code 244 = .ok (.ldc2_w 70, 3) := by decide +kernel
theorem d_L_law_247 : decode code 247 = .ok (.dmul, 1) := by decide +kernel
