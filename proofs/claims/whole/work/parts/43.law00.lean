theorem d_La_law_0 : decode code 0 = .ok (.new 8, 3) := by decide +kernel
theorem d_La_law_3 : decode code 3 = .ok (.dup, 1) := by decide +kernel
theorem d_La_law_4 : decode code 4 = .ok (.aload_n 0, 1) := by decide +kernel
theorem d_La_law_5 : decode code 5 = .ok (.iconst 0, 1) := by decide +kernel
theorem d_La_law_6 : decode code 6 = .ok (.invokestatic 76, 3) := by decide +kernel
theorem d_La_law_9 : decode code 9 = .ok (.invokespecial 82, 3) := by decide +kernel
theorem d_La_law_12 : decode code 12 = .ok (.astore_n 1, 1) := by decide +kernel
theorem d_La_law_13 : decode code 13 = .ok (.new 85, 3) := by decide +kernel
theorem d_La_law_16 : decode code 16 = .ok (.dup, 1) := by decide +kernel
theorem d_La_law_17 : decode code 17 = .ok (.aload_n 0, 1) := by decide +kernel
theorem d_La_law_18 : decode code 18 = .ok (.iconst 0, 1) := by decide +kernel
theorem d_La_law_19 : decode code 19 = .ok (.invokestatic 76, 3) := by decide +kernel
theorem d_La_law_22 : decode code 22 = .ok (.invokespecial 87, 3) := by decide +kernel
theorem d_La_law_25 : decode code 25 = .ok (.astore_n 2, 1) := by decide +kernel
theorem d_La_law_26 : decode code 26 = .ok (.iconst 1, 1) := by decide +kernel
theorem d_La_law_27 : decode code 27 = .ok (.newarray .long, 2) := by decide +kernel
theorem d_La_law_29 : decode code 29 = .ok (.astore_n 3, 1) := by decide +kernel
theorem d_La_law_30 : decode code 30 = .ok (.iconst 1, 1) := by decide +kernel
theorem d_La_law_31 : decode code 31 = .ok (.istore 4, 2) := by decide +kernel
theorem d_La_law_33 : decode code 33 = .ok (.iload 4, 2) := by decide +kernel
theorem d_La_law_35 : decode code 35 = .ok (.aload_n 0, 1) := by decide +kernel
theorem d_La_law_36 : decode code 36 = .ok (.arraylength, 1) := by decide +kernel
theorem d_La_law_37 : decode code 37 = .ok (.iconst 5, 1) := by decide +kernel
theorem d_La_law_38 : decode code 38 = .ok (.isub, 1) := by decide +kernel
theorem d_La_law_39 : decode code 39 = .ok (.if_icmp .gt 1494, 3) := by decide +kernel
theorem d_La_law_42 : decode code 42 = .ok (.aload_n 0, 1) := by decide +kernel
theorem d_La_law_43 : decode code 43 = .ok (.iload 4, 2) := by decide +kernel
theorem d_La_law_45 : decode code 45 = .ok (.iaload, 1) := by decide +kernel
theorem d_La_law_46 : decode code 46 = .ok (.bipush 31, 2) := by decide +kernel
theorem d_La_law_48 : decode code 48 = .ok (.iand, 1) := by decide +kernel
theorem d_La_law_49 : decode code 49 = .ok (.tableswitch 1478 0 20 #[99, 167, 235, 303, 395, 475, 554, 622, 690, 782, 862, 965, 1033, 1046, 1109, 1165, 1190, 1238, 1293, 1306, 1386], 99) := by decide +kernel
theorem d_La_law_148 : decode code 148 = .ok (.aload_n 1, 1) := by decide +kernel
theorem d_La_law_149 : decode code 149 = .ok (.aload_n 0, 1) := by decide +kernel
theorem d_La_law_150 : decode code 150 = .ok (.iload 4, 2) := by decide +kernel
theorem d_La_law_152 : decode code 152 = .ok (.iconst 1, 1) := by decide +kernel
theorem d_La_law_153 : decode code 153 = .ok (.iadd, 1) := by decide +kernel
theorem d_La_law_154 : decode code 154 = .ok (.iaload, 1) := by decide +kernel
theorem d_La_law_155 : decode code 155 = .ok (.aload_n 0, 1) := by decide +kernel
theorem d_La_law_156 : decode code 156 = .ok (.iload 4, 2) := by decide +kernel
theorem d_La_law_158 : decode code 158 = .ok (.iconst 2, 1) := by decide +kernel
theorem d_La_law_159 : decode code 159 = .ok (.iadd, 1) := by decide +kernel
theorem d_La_law_160 : decode code 160 = .ok (.iaload, 1) := by decide +kernel
theorem d_La_law_161 : decode code 161 = .ok (.aload_n 3, 1) := by decide +kernel
theorem d_La_law_162 : decode code 162 = .ok (.invokestatic 88, 3) := by decide +kernel
theorem d_La_law_165 : decode code 165 = .ok (.istore 5, 2) := by decide +kernel
theorem d_La_law_167 : decode code 167 = .ok (.aload_n 2, 1) := by decide +kernel
theorem d_La_law_168 : decode code 168 = .ok (.aload_n 0, 1) := by decide +kernel
theorem d_La_law_169 : decode code 169 = .ok (.iload 4, 2) := by decide +kernel
theorem d_La_law_171 : decode code 171 = .ok (.iconst 1, 1) := by decide +kernel
theorem d_La_law_172 : decode code 172 = .ok (.iadd, 1) := by decide +kernel
theorem d_La_law_173 : decode code 173 = .ok (.iaload, 1) := by decide +kernel
theorem d_La_law_174 : decode code 174 = .ok (.aload_n 0, 1) := by decide +kernel
theorem d_La_law_175 : decode code 175 = .ok (.iload 4, 2) := by decide +kernel
theorem d_La_law_177 : decode code 177 = .ok (.iconst 2, 1) := by decide +kernel
theorem d_La_law_178 : decode code 178 = .ok (.iadd, 1) := by decide +kernel
theorem d_La_law_179 : decode code 179 = .ok (.iaload, 1) := by decide +kernel
theorem d_La_law_180 : decode code 180 = .ok (.invokevirtual 91, 3) := by decide +kernel
theorem d_La_law_183 : decode code 183 = .ok (.istore 6, 2) := by decide +kernel
theorem d_La_law_185 : decode code 185 = .ok (.aload_n 2, 1) := by decide +kernel
theorem d_La_law_186 : decode code 186 = .ok (.invokevirtual 92, 3) := by decide +kernel
theorem d_La_law_189 : decode code 189 = .ok (.iload 5, 2) := by decide +kernel
theorem d_La_law_191 : decode code 191 = .ok (.if_icmp .eq 5, 3) := by decide +kernel
theorem d_La_law_194 : decode code 194 = .ok (.iconst 0, 1) := by decide +kernel
theorem d_La_law_195 : decode code 195 = .ok (.ireturn, 1) := by decide +kernel
theorem d_La_law_196 : decode code 196 = .ok (.iload 5, 2) := by decide +kernel
theorem d_La_law_198 : decode code 198 = .ok (.ifCond .ne 15, 3) := by decide +kernel
theorem d_La_law_201 : decode code 201 = .ok (.aload_n 3, 1) := by decide +kernel
theorem d_La_law_202 : decode code 202 = .ok (.iconst 0, 1) := by decide +kernel
theorem d_La_law_203 : decode code 203 = .ok (.laload, 1) := by decide +kernel
theorem d_La_law_204 : decode code 204 = .ok (.iload 6, 2) := by decide +kernel
theorem d_La_law_206 : decode code 206 = .ok (.i2l, 1) := by decide +kernel
theorem d_La_law_207 : decode code 207 = .ok (.lcmp, 1) := by decide +kernel
theorem d_La_law_208 : decode code 208 = .ok (.ifCond .eq 5, 3) := by decide +kernel
theorem d_La_law_211 : decode code 211 = .ok (.iconst 0, 1) := by decide +kernel
theorem d_La_law_212 : decode code 212 = .ok (.ireturn, 1) := by decide +kernel
theorem d_La_law_213 : decode code 213 = .ok (.goto 1314, 3) := by decide +kernel
theorem d_La_law_216 : decode code 216 = .ok (.aload_n 1, 1) := by decide +kernel
theorem d_La_law_217 : decode code 217 = .ok (.aload_n 0, 1) := by decide +kernel
theorem d_La_law_218 : decode code 218 = .ok (.iload 4, 2) := by decide +kernel
theorem d_La_law_220 : decode code 220 = .ok (.iconst 1, 1) := by decide +kernel
theorem d_La_law_221 : decode code 221 = .ok (.iadd, 1) := by decide +kernel
theorem d_La_law_222 : decode code 222 = .ok (.iaload, 1) := by decide +kernel
theorem d_La_law_223 : decode code 223 = .ok (.aload_n 0, 1) := by decide +kernel
theorem d_La_law_224 : decode code 224 = .ok (.iload 4, 2) := by decide +kernel
theorem d_La_law_226 : decode code 226 = .ok (.iconst 2, 1) := by decide +kernel
theorem d_La_law_227 : decode code 227 = .ok (.iadd, 1) := by decide +kernel
theorem d_La_law_228 : decode code 228 = .ok (.iaload, 1) := by decide +kernel
theorem d_La_law_229 : decode code 229 = .ok (.aload_n 3, 1) := by decide +kernel
theorem d_La_law_230 : decode code 230 = .ok (.invokestatic 96, 3) := by decide +kernel
theorem d_La_law_233 : decode code 233 = .ok (.istore 5, 2) := by decide +kernel
theorem d_La_law_235 : decode code 235 = .ok (.aload_n 2, 1) := by decide +kernel
theorem d_La_law_236 : decode code 236 = .ok (.aload_n 0, 1) := by decide +kernel
theorem d_La_law_237 : decode code 237 = .ok (.iload 4, 2) := by decide +kernel
theorem d_La_law_239 : decode code 239 = .ok (.iconst 1, 1) := by decide +kernel
theorem d_La_law_240 : decode code 240 = .ok (.iadd, 1) := by decide +kernel
theorem d_La_law_241 : decode code 241 = .ok (.iaload, 1) := by decide +kernel
theorem d_La_law_242 : decode code 242 = .ok (.aload_n 0, 1) := by decide +kernel
theorem d_La_law_243 : decode code 243 = .ok (.iload 4, 2) := by decide +kernel
theorem d_La_law_245 : decode code 245 = .ok (.iconst 2, 1) := by decide +kernel
theorem d_La_law_246 : decode code 246 = .ok (.iadd, 1) := by decide +kernel
theorem d_La_law_247 : decode code 247 = .ok (.iaload, 1) := by decide +kernel
theorem d_La_law_248 : decode code 248 = .ok (.invokevirtual 98, 3) := by decide +kernel
theorem d_La_law_251 : decode code 251 = .ok (.istore 6, 2) := by decide +kernel
theorem d_La_law_253 : decode code 253 = .ok (.aload_n 2, 1) := by decide +kernel
theorem d_La_law_254 : decode code 254 = .ok (.invokevirtual 92, 3) := by decide +kernel
theorem d_La_law_257 : decode code 257 = .ok (.iload 5, 2) := by decide +kernel
theorem d_La_law_259 : decode code 259 = .ok (.if_icmp .eq 5, 3) := by decide +kernel
theorem d_La_law_262 : decode code 262 = .ok (.iconst 0, 1) := by decide +kernel
theorem d_La_law_263 : decode code 263 = .ok (.ireturn, 1) := by decide +kernel
theorem d_La_law_264 : decode code 264 = .ok (.iload 5, 2) := by decide +kernel
theorem d_La_law_266 : decode code 266 = .ok (.ifCond .ne 15, 3) := by decide +kernel
theorem d_La_law_269 : decode code 269 = .ok (.aload_n 3, 1) := by decide +kernel
theorem d_La_law_270 : decode code 270 = .ok (.iconst 0, 1) := by decide +kernel
theorem d_La_law_271 : decode code 271 = .ok (.laload, 1) := by decide +kernel
theorem d_La_law_272 : decode code 272 = .ok (.iload 6, 2) := by decide +kernel
theorem d_La_law_274 : decode code 274 = .ok (.i2l, 1) := by decide +kernel
theorem d_La_law_275 : decode code 275 = .ok (.lcmp, 1) := by decide +kernel
theorem d_La_law_276 : decode code 276 = .ok (.ifCond .eq 5, 3) := by decide +kernel
theorem d_La_law_279 : decode code 279 = .ok (.iconst 0, 1) := by decide +kernel
theorem d_La_law_280 : decode code 280 = .ok (.ireturn, 1) := by decide +kernel
