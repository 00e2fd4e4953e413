/-! The law's decode rows, 1 of 10. -/
theorem d_Law_law_0 : decode b_Law_law 0 = .ok (.new 8, 3) := by decide +kernel
theorem d_Law_law_3 : decode b_Law_law 3 = .ok (.dup, 1) := by decide +kernel
theorem d_Law_law_4 : decode b_Law_law 4 = .ok (.invokespecial 87, 3) := by decide +kernel
theorem d_Law_law_7 : decode b_Law_law 7 = .ok (.astore_n 1, 1) := by decide +kernel
theorem d_Law_law_8 : decode b_Law_law 8 = .ok (.new 88, 3) := by decide +kernel
theorem d_Law_law_11 : decode b_Law_law 11 = .ok (.dup, 1) := by decide +kernel
theorem d_Law_law_12 : decode b_Law_law 12 = .ok (.invokespecial 90, 3) := by decide +kernel
theorem d_Law_law_15 : decode b_Law_law 15 = .ok (.astore_n 2, 1) := by decide +kernel
theorem d_Law_law_16 : decode b_Law_law 16 = .ok (.iconst 1, 1) := by decide +kernel
theorem d_Law_law_17 : decode b_Law_law 17 = .ok (.newarray .long, 2) := by decide +kernel
theorem d_Law_law_19 : decode b_Law_law 19 = .ok (.astore_n 3, 1) := by decide +kernel
theorem d_Law_law_20 : decode b_Law_law 20 = .ok (.iconst 0, 1) := by decide +kernel
theorem d_Law_law_21 : decode b_Law_law 21 = .ok (.istore 4, 2) := by decide +kernel
theorem d_Law_law_23 : decode b_Law_law 23 = .ok (.iload 4, 2) := by decide +kernel
theorem d_Law_law_25 : decode b_Law_law 25 = .ok (.aload_n 0, 1) := by decide +kernel
theorem d_Law_law_26 : decode b_Law_law 26 = .ok (.arraylength, 1) := by decide +kernel
theorem d_Law_law_27 : decode b_Law_law 27 = .ok (.iconst 5, 1) := by decide +kernel
theorem d_Law_law_28 : decode b_Law_law 28 = .ok (.isub, 1) := by decide +kernel
theorem d_Law_law_29 : decode b_Law_law 29 = .ok (.if_icmp .gt 1625, 3) := by decide +kernel
theorem d_Law_law_32 : decode b_Law_law 32 = .ok (.aload_n 0, 1) := by decide +kernel
theorem d_Law_law_33 : decode b_Law_law 33 = .ok (.iload 4, 2) := by decide +kernel
theorem d_Law_law_35 : decode b_Law_law 35 = .ok (.iaload, 1) := by decide +kernel
theorem d_Law_law_36 : decode b_Law_law 36 = .ok (.bipush 31, 2) := by decide +kernel
theorem d_Law_law_38 : decode b_Law_law 38 = .ok (.iand, 1) := by decide +kernel
theorem d_Law_law_39 : decode b_Law_law 39 = .ok (.tableswitch 1609 0 21 #[101, 169, 261, 353, 433, 501, 569, 625, 681, 737, 793, 873, 953, 1021, 1089, 1157, 1213, 1281, 1349, 1417, 1485, 1553], 101) := by decide +kernel
theorem d_Law_law_140 : decode b_Law_law 140 = .ok (.aload_n 1, 1) := by decide +kernel
theorem d_Law_law_141 : decode b_Law_law 141 = .ok (.aload_n 0, 1) := by decide +kernel
theorem d_Law_law_142 : decode b_Law_law 142 = .ok (.iload 4, 2) := by decide +kernel
theorem d_Law_law_144 : decode b_Law_law 144 = .ok (.iconst 1, 1) := by decide +kernel
theorem d_Law_law_145 : decode b_Law_law 145 = .ok (.iadd, 1) := by decide +kernel
theorem d_Law_law_146 : decode b_Law_law 146 = .ok (.iaload, 1) := by decide +kernel
theorem d_Law_law_147 : decode b_Law_law 147 = .ok (.aload_n 0, 1) := by decide +kernel
theorem d_Law_law_148 : decode b_Law_law 148 = .ok (.iload 4, 2) := by decide +kernel
theorem d_Law_law_150 : decode b_Law_law 150 = .ok (.iconst 2, 1) := by decide +kernel
theorem d_Law_law_151 : decode b_Law_law 151 = .ok (.iadd, 1) := by decide +kernel
theorem d_Law_law_152 : decode b_Law_law 152 = .ok (.iaload, 1) := by decide +kernel
theorem d_Law_law_153 : decode b_Law_law 153 = .ok (.aload_n 3, 1) := by decide +kernel
theorem d_Law_law_154 : decode b_Law_law 154 = .ok (.invokestatic 91, 3) := by decide +kernel
theorem d_Law_law_157 : decode b_Law_law 157 = .ok (.istore 5, 2) := by decide +kernel
theorem d_Law_law_159 : decode b_Law_law 159 = .ok (.aload_n 2, 1) := by decide +kernel
theorem d_Law_law_160 : decode b_Law_law 160 = .ok (.aload_n 0, 1) := by decide +kernel
theorem d_Law_law_161 : decode b_Law_law 161 = .ok (.iload 4, 2) := by decide +kernel
theorem d_Law_law_163 : decode b_Law_law 163 = .ok (.iconst 1, 1) := by decide +kernel
theorem d_Law_law_164 : decode b_Law_law 164 = .ok (.iadd, 1) := by decide +kernel
theorem d_Law_law_165 : decode b_Law_law 165 = .ok (.iaload, 1) := by decide +kernel
theorem d_Law_law_166 : decode b_Law_law 166 = .ok (.aload_n 0, 1) := by decide +kernel
theorem d_Law_law_167 : decode b_Law_law 167 = .ok (.iload 4, 2) := by decide +kernel
theorem d_Law_law_169 : decode b_Law_law 169 = .ok (.iconst 2, 1) := by decide +kernel
theorem d_Law_law_170 : decode b_Law_law 170 = .ok (.iadd, 1) := by decide +kernel
theorem d_Law_law_171 : decode b_Law_law 171 = .ok (.iaload, 1) := by decide +kernel
theorem d_Law_law_172 : decode b_Law_law 172 = .ok (.invokevirtual 96, 3) := by decide +kernel
theorem d_Law_law_175 : decode b_Law_law 175 = .ok (.istore 6, 2) := by decide +kernel
theorem d_Law_law_177 : decode b_Law_law 177 = .ok (.aload_n 2, 1) := by decide +kernel
theorem d_Law_law_178 : decode b_Law_law 178 = .ok (.invokevirtual 97, 3) := by decide +kernel
theorem d_Law_law_181 : decode b_Law_law 181 = .ok (.iload 5, 2) := by decide +kernel
theorem d_Law_law_183 : decode b_Law_law 183 = .ok (.if_icmp .eq 5, 3) := by decide +kernel
theorem d_Law_law_188 : decode b_Law_law 188 = .ok (.iload 5, 2) := by decide +kernel
theorem d_Law_law_190 : decode b_Law_law 190 = .ok (.ifCond .ne 15, 3) := by decide +kernel
theorem d_Law_law_193 : decode b_Law_law 193 = .ok (.aload_n 3, 1) := by decide +kernel
theorem d_Law_law_194 : decode b_Law_law 194 = .ok (.iconst 0, 1) := by decide +kernel
theorem d_Law_law_195 : decode b_Law_law 195 = .ok (.laload, 1) := by decide +kernel
theorem d_Law_law_196 : decode b_Law_law 196 = .ok (.iload 6, 2) := by decide +kernel
theorem d_Law_law_198 : decode b_Law_law 198 = .ok (.i2l, 1) := by decide +kernel
theorem d_Law_law_199 : decode b_Law_law 199 = .ok (.lcmp, 1) := by decide +kernel
theorem d_Law_law_200 : decode b_Law_law 200 = .ok (.ifCond .eq 5, 3) := by decide +kernel
theorem d_Law_law_205 : decode b_Law_law 205 = .ok (.goto 1443, 3) := by decide +kernel
theorem d_Law_law_208 : decode b_Law_law 208 = .ok (.aload_n 1, 1) := by decide +kernel
theorem d_Law_law_209 : decode b_Law_law 209 = .ok (.aload_n 0, 1) := by decide +kernel
theorem d_Law_law_210 : decode b_Law_law 210 = .ok (.iload 4, 2) := by decide +kernel
theorem d_Law_law_212 : decode b_Law_law 212 = .ok (.iconst 1, 1) := by decide +kernel
theorem d_Law_law_213 : decode b_Law_law 213 = .ok (.iadd, 1) := by decide +kernel
theorem d_Law_law_214 : decode b_Law_law 214 = .ok (.iaload, 1) := by decide +kernel
theorem d_Law_law_215 : decode b_Law_law 215 = .ok (.aload_n 0, 1) := by decide +kernel
theorem d_Law_law_216 : decode b_Law_law 216 = .ok (.iload 4, 2) := by decide +kernel
theorem d_Law_law_218 : decode b_Law_law 218 = .ok (.iconst 2, 1) := by decide +kernel
theorem d_Law_law_219 : decode b_Law_law 219 = .ok (.iadd, 1) := by decide +kernel
theorem d_Law_law_220 : decode b_Law_law 220 = .ok (.iaload, 1) := by decide +kernel
theorem d_Law_law_221 : decode b_Law_law 221 = .ok (.aload_n 0, 1) := by decide +kernel
theorem d_Law_law_222 : decode b_Law_law 222 = .ok (.iload 4, 2) := by decide +kernel
theorem d_Law_law_224 : decode b_Law_law 224 = .ok (.iconst 3, 1) := by decide +kernel
theorem d_Law_law_225 : decode b_Law_law 225 = .ok (.iadd, 1) := by decide +kernel
theorem d_Law_law_226 : decode b_Law_law 226 = .ok (.iaload, 1) := by decide +kernel
theorem d_Law_law_227 : decode b_Law_law 227 = .ok (.aload_n 0, 1) := by decide +kernel
theorem d_Law_law_228 : decode b_Law_law 228 = .ok (.iload 4, 2) := by decide +kernel
theorem d_Law_law_230 : decode b_Law_law 230 = .ok (.iconst 4, 1) := by decide +kernel
theorem d_Law_law_231 : decode b_Law_law 231 = .ok (.iadd, 1) := by decide +kernel
theorem d_Law_law_232 : decode b_Law_law 232 = .ok (.iaload, 1) := by decide +kernel
theorem d_Law_law_233 : decode b_Law_law 233 = .ok (.aload_n 3, 1) := by decide +kernel
theorem d_Law_law_234 : decode b_Law_law 234 = .ok (.invokestatic 101, 3) := by decide +kernel
theorem d_Law_law_237 : decode b_Law_law 237 = .ok (.istore 5, 2) := by decide +kernel
theorem d_Law_law_239 : decode b_Law_law 239 = .ok (.aload_n 2, 1) := by decide +kernel
theorem d_Law_law_240 : decode b_Law_law 240 = .ok (.aload_n 0, 1) := by decide +kernel
theorem d_Law_law_241 : decode b_Law_law 241 = .ok (.iload 4, 2) := by decide +kernel
theorem d_Law_law_243 : decode b_Law_law 243 = .ok (.iconst 1, 1) := by decide +kernel
theorem d_Law_law_244 : decode b_Law_law 244 = .ok (.iadd, 1) := by decide +kernel
