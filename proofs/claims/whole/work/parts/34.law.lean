abbrev b_LW_cell : ByteArray := method_2_code
def y_LW_cell : MethodName := ⟨R_LW, "cell", "([II)I"⟩
theorem d_LW_cell_0 : decode b_LW_cell 0 = .ok (.iload_n 1, 1) := by decide +kernel
theorem d_LW_cell_1 : decode b_LW_cell 1 = .ok (.aload_n 0, 1) := by decide +kernel
theorem d_LW_cell_2 : decode b_LW_cell 2 = .ok (.arraylength, 1) := by decide +kernel
theorem d_LW_cell_3 : decode b_LW_cell 3 = .ok (.if_icmp .ge 9, 3) := by decide +kernel
theorem d_LW_cell_6 : decode b_LW_cell 6 = .ok (.aload_n 0, 1) := by decide +kernel
theorem d_LW_cell_7 : decode b_LW_cell 7 = .ok (.iload_n 1, 1) := by decide +kernel
theorem d_LW_cell_8 : decode b_LW_cell 8 = .ok (.iaload, 1) := by decide +kernel
theorem d_LW_cell_9 : decode b_LW_cell 9 = .ok (.goto 4, 3) := by decide +kernel
theorem d_LW_cell_12 : decode b_LW_cell 12 = .ok (.iconst 0, 1) := by decide +kernel
theorem d_LW_cell_13 : decode b_LW_cell 13 = .ok (.ireturn, 1) := by decide +kernel
abbrev b_LW_add : ByteArray := method_3_code
def y_LW_add : MethodName := ⟨R_LW, "add", "(LFencedLedger;I[J)I"⟩
theorem d_LW_add_0 : decode b_LW_add 0 = .ok (.aload_n 2, 1) := by decide +kernel
theorem d_LW_add_1 : decode b_LW_add 1 = .ok (.iconst 0, 1) := by decide +kernel
theorem d_LW_add_2 : decode b_LW_add 2 = .ok (.aload_n 0, 1) := by decide +kernel
theorem d_LW_add_3 : decode b_LW_add 3 = .ok (.iload_n 1, 1) := by decide +kernel
theorem d_LW_add_4 : decode b_LW_add 4 = .ok (.invokevirtual 7, 3) := by decide +kernel
theorem d_LW_add_7 : decode b_LW_add 7 = .ok (.i2l, 1) := by decide +kernel
theorem d_LW_add_8 : decode b_LW_add 8 = .ok (.lastore, 1) := by decide +kernel
theorem d_LW_add_9 : decode b_LW_add 9 = .ok (.goto 9, 3) := by decide +kernel
theorem d_LW_add_12 : decode b_LW_add 12 = .ok (.astore_n 3, 1) := by decide +kernel
theorem d_LW_add_13 : decode b_LW_add 13 = .ok (.iconst 1, 1) := by decide +kernel
theorem d_LW_add_14 : decode b_LW_add 14 = .ok (.ireturn, 1) := by decide +kernel
theorem d_LW_add_15 : decode b_LW_add 15 = .ok (.astore_n 3, 1) := by decide +kernel
theorem d_LW_add_16 : decode b_LW_add 16 = .ok (.iconst 2, 1) := by decide +kernel
theorem d_LW_add_17 : decode b_LW_add 17 = .ok (.ireturn, 1) := by decide +kernel
theorem d_LW_add_18 : decode b_LW_add 18 = .ok (.iconst 0, 1) := by decide +kernel
theorem d_LW_add_19 : decode b_LW_add 19 = .ok (.ireturn, 1) := by decide +kernel
abbrev b_LW_read : ByteArray := method_4_code
def y_LW_read : MethodName := ⟨R_LW, "read", "(LFencedLedger;I[J)I"⟩
theorem d_LW_read_0 : decode b_LW_read 0 = .ok (.aload_n 2, 1) := by decide +kernel
theorem d_LW_read_1 : decode b_LW_read 1 = .ok (.iconst 0, 1) := by decide +kernel
theorem d_LW_read_2 : decode b_LW_read 2 = .ok (.aload_n 0, 1) := by decide +kernel
theorem d_LW_read_3 : decode b_LW_read 3 = .ok (.iload_n 1, 1) := by decide +kernel
theorem d_LW_read_4 : decode b_LW_read 4 = .ok (.invokevirtual 17, 3) := by decide +kernel
theorem d_LW_read_7 : decode b_LW_read 7 = .ok (.i2l, 1) := by decide +kernel
theorem d_LW_read_8 : decode b_LW_read 8 = .ok (.lastore, 1) := by decide +kernel
theorem d_LW_read_9 : decode b_LW_read 9 = .ok (.goto 12, 3) := by decide +kernel
theorem d_LW_read_12 : decode b_LW_read 12 = .ok (.astore_n 3, 1) := by decide +kernel
theorem d_LW_read_13 : decode b_LW_read 13 = .ok (.iconst 1, 1) := by decide +kernel
theorem d_LW_read_14 : decode b_LW_read 14 = .ok (.ireturn, 1) := by decide +kernel
theorem d_LW_read_15 : decode b_LW_read 15 = .ok (.astore_n 3, 1) := by decide +kernel
theorem d_LW_read_16 : decode b_LW_read 16 = .ok (.iconst 2, 1) := by decide +kernel
theorem d_LW_read_17 : decode b_LW_read 17 = .ok (.ireturn, 1) := by decide +kernel
theorem d_LW_read_18 : decode b_LW_read 18 = .ok (.astore_n 3, 1) := by decide +kernel
theorem d_LW_read_19 : decode b_LW_read 19 = .ok (.iconst 3, 1) := by decide +kernel
theorem d_LW_read_20 : decode b_LW_read 20 = .ok (.ireturn, 1) := by decide +kernel
theorem d_LW_read_21 : decode b_LW_read 21 = .ok (.iconst 0, 1) := by decide +kernel
theorem d_LW_read_22 : decode b_LW_read 22 = .ok (.ireturn, 1) := by decide +kernel
abbrev b_LW_law : ByteArray := code
def y_LW_law : MethodName := ⟨R_LW, "law", "([I)Z"⟩
theorem d_LW_law_0 : decode b_LW_law 0 = .ok (.new 8, 3) := by decide +kernel
theorem d_LW_law_3 : decode b_LW_law 3 = .ok (.dup, 1) := by decide +kernel
theorem d_LW_law_4 : decode b_LW_law 4 = .ok (.aload_n 0, 1) := by decide +kernel
theorem d_LW_law_5 : decode b_LW_law 5 = .ok (.iconst 0, 1) := by decide +kernel
theorem d_LW_law_6 : decode b_LW_law 6 = .ok (.invokestatic 22, 3) := by decide +kernel
theorem d_LW_law_9 : decode b_LW_law 9 = .ok (.aload_n 0, 1) := by decide +kernel
theorem d_LW_law_10 : decode b_LW_law 10 = .ok (.iconst 1, 1) := by decide +kernel
theorem d_LW_law_11 : decode b_LW_law 11 = .ok (.invokestatic 22, 3) := by decide +kernel
theorem d_LW_law_14 : decode b_LW_law 14 = .ok (.aload_n 0, 1) := by decide +kernel
theorem d_LW_law_15 : decode b_LW_law 15 = .ok (.iconst 2, 1) := by decide +kernel
theorem d_LW_law_16 : decode b_LW_law 16 = .ok (.invokestatic 22, 3) := by decide +kernel
theorem d_LW_law_19 : decode b_LW_law 19 = .ok (.invokespecial 28, 3) := by decide +kernel
theorem d_LW_law_22 : decode b_LW_law 22 = .ok (.astore_n 1, 1) := by decide +kernel
theorem d_LW_law_23 : decode b_LW_law 23 = .ok (.new 31, 3) := by decide +kernel
theorem d_LW_law_26 : decode b_LW_law 26 = .ok (.dup, 1) := by decide +kernel
theorem d_LW_law_27 : decode b_LW_law 27 = .ok (.aload_n 0, 1) := by decide +kernel
theorem d_LW_law_28 : decode b_LW_law 28 = .ok (.iconst 0, 1) := by decide +kernel
theorem d_LW_law_29 : decode b_LW_law 29 = .ok (.invokestatic 22, 3) := by decide +kernel
theorem d_LW_law_32 : decode b_LW_law 32 = .ok (.aload_n 0, 1) := by decide +kernel
theorem d_LW_law_33 : decode b_LW_law 33 = .ok (.iconst 1, 1) := by decide +kernel
theorem d_LW_law_34 : decode b_LW_law 34 = .ok (.invokestatic 22, 3) := by decide +kernel
theorem d_LW_law_37 : decode b_LW_law 37 = .ok (.aload_n 0, 1) := by decide +kernel
theorem d_LW_law_38 : decode b_LW_law 38 = .ok (.iconst 2, 1) := by decide +kernel
theorem d_LW_law_39 : decode b_LW_law 39 = .ok (.invokestatic 22, 3) := by decide +kernel
theorem d_LW_law_42 : decode b_LW_law 42 = .ok (.invokespecial 33, 3) := by decide +kernel
theorem d_LW_law_45 : decode b_LW_law 45 = .ok (.astore_n 2, 1) := by decide +kernel
theorem d_LW_law_46 : decode b_LW_law 46 = .ok (.iconst 1, 1) := by decide +kernel
theorem d_LW_law_47 : decode b_LW_law 47 = .ok (.newarray .long, 2) := by decide +kernel
theorem d_LW_law_49 : decode b_LW_law 49 = .ok (.astore_n 3, 1) := by decide +kernel
theorem d_LW_law_50 : decode b_LW_law 50 = .ok (.iconst 3, 1) := by decide +kernel
theorem d_LW_law_51 : decode b_LW_law 51 = .ok (.istore 4, 2) := by decide +kernel
theorem d_LW_law_53 : decode b_LW_law 53 = .ok (.iload 4, 2) := by decide +kernel
theorem d_LW_law_55 : decode b_LW_law 55 = .ok (.aload_n 0, 1) := by decide +kernel
theorem d_LW_law_56 : decode b_LW_law 56 = .ok (.arraylength, 1) := by decide +kernel
theorem d_LW_law_57 : decode b_LW_law 57 = .ok (.iconst 3, 1) := by decide +kernel
theorem d_LW_law_58 : decode b_LW_law 58 = .ok (.isub, 1) := by decide +kernel
theorem d_LW_law_59 : decode b_LW_law 59 = .ok (.if_icmp .gt 684, 3) := by decide +kernel
theorem d_LW_law_62 : decode b_LW_law 62 = .ok (.aload_n 0, 1) := by decide +kernel
theorem d_LW_law_63 : decode b_LW_law 63 = .ok (.iload 4, 2) := by decide +kernel
theorem d_LW_law_65 : decode b_LW_law 65 = .ok (.iaload, 1) := by decide +kernel
theorem d_LW_law_66 : decode b_LW_law 66 = .ok (.bipush 31, 2) := by decide +kernel
theorem d_LW_law_68 : decode b_LW_law 68 = .ok (.iand, 1) := by decide +kernel
theorem d_LW_law_69 : decode b_LW_law 69 = .ok (.tableswitch 668 0 18 #[91, 147, 172, 185, 198, 223, 248, 273, 298, 323, 336, 373, 426, 463, 500, 525, 550, 587, 612], 91) := by decide +kernel
theorem d_LW_law_160 : decode b_LW_law 160 = .ok (.aload_n 1, 1) := by decide +kernel
theorem d_LW_law_161 : decode b_LW_law 161 = .ok (.aload_n 0, 1) := by decide +kernel
theorem d_LW_law_162 : decode b_LW_law 162 = .ok (.iload 4, 2) := by decide +kernel
theorem d_LW_law_164 : decode b_LW_law 164 = .ok (.iconst 1, 1) := by decide +kernel
theorem d_LW_law_165 : decode b_LW_law 165 = .ok (.iadd, 1) := by decide +kernel
theorem d_LW_law_166 : decode b_LW_law 166 = .ok (.iaload, 1) := by decide +kernel
theorem d_LW_law_167 : decode b_LW_law 167 = .ok (.aload_n 3, 1) := by decide +kernel
theorem d_LW_law_168 : decode b_LW_law 168 = .ok (.invokestatic 34, 3) := by decide +kernel
theorem d_LW_law_171 : decode b_LW_law 171 = .ok (.istore 5, 2) := by decide +kernel
theorem d_LW_law_173 : decode b_LW_law 173 = .ok (.aload_n 2, 1) := by decide +kernel
theorem d_LW_law_174 : decode b_LW_law 174 = .ok (.aload_n 0, 1) := by decide +kernel
theorem d_LW_law_175 : decode b_LW_law 175 = .ok (.iload 4, 2) := by decide +kernel
theorem d_LW_law_177 : decode b_LW_law 177 = .ok (.iconst 1, 1) := by decide +kernel
theorem d_LW_law_178 : decode b_LW_law 178 = .ok (.iadd, 1) := by decide +kernel
theorem d_LW_law_179 : decode b_LW_law 179 = .ok (.iaload, 1) := by decide +kernel
theorem d_LW_law_180 : decode b_LW_law 180 = .ok (.invokevirtual 37, 3) := by decide +kernel
theorem d_LW_law_183 : decode b_LW_law 183 = .ok (.istore 6, 2) := by decide +kernel
theorem d_LW_law_185 : decode b_LW_law 185 = .ok (.aload_n 2, 1) := by decide +kernel
theorem d_LW_law_186 : decode b_LW_law 186 = .ok (.invokevirtual 38, 3) := by decide +kernel
theorem d_LW_law_189 : decode b_LW_law 189 = .ok (.iload 5, 2) := by decide +kernel
theorem d_LW_law_191 : decode b_LW_law 191 = .ok (.if_icmp .eq 5, 3) := by decide +kernel
theorem d_LW_law_194 : decode b_LW_law 194 = .ok (.iconst 0, 1) := by decide +kernel
theorem d_LW_law_195 : decode b_LW_law 195 = .ok (.ireturn, 1) := by decide +kernel
theorem d_LW_law_196 : decode b_LW_law 196 = .ok (.iload 5, 2) := by decide +kernel
theorem d_LW_law_198 : decode b_LW_law 198 = .ok (.ifCond .ne 15, 3) := by decide +kernel
theorem d_LW_law_201 : decode b_LW_law 201 = .ok (.aload_n 3, 1) := by decide +kernel
theorem d_LW_law_202 : decode b_LW_law 202 = .ok (.iconst 0, 1) := by decide +kernel
theorem d_LW_law_203 : decode b_LW_law 203 = .ok (.laload, 1) := by decide +kernel
theorem d_LW_law_204 : decode b_LW_law 204 = .ok (.iload 6, 2) := by decide +kernel
theorem d_LW_law_206 : decode b_LW_law 206 = .ok (.i2l, 1) := by decide +kernel
theorem d_LW_law_207 : decode b_LW_law 207 = .ok (.lcmp, 1) := by decide +kernel
theorem d_LW_law_208 : decode b_LW_law 208 = .ok (.ifCond .eq 5, 3) := by decide +kernel
theorem d_LW_law_211 : decode b_LW_law 211 = .ok (.iconst 0, 1) := by decide +kernel
theorem d_LW_law_212 : decode b_LW_law 212 = .ok (.ireturn, 1) := by decide +kernel
theorem d_LW_law_213 : decode b_LW_law 213 = .ok (.goto 524, 3) := by decide +kernel
theorem d_LW_law_216 : decode b_LW_law 216 = .ok (.aload_n 1, 1) := by decide +kernel
theorem d_LW_law_217 : decode b_LW_law 217 = .ok (.aload_n 0, 1) := by decide +kernel
theorem d_LW_law_218 : decode b_LW_law 218 = .ok (.iload 4, 2) := by decide +kernel
theorem d_LW_law_220 : decode b_LW_law 220 = .ok (.iconst 1, 1) := by decide +kernel
theorem d_LW_law_221 : decode b_LW_law 221 = .ok (.iadd, 1) := by decide +kernel
theorem d_LW_law_222 : decode b_LW_law 222 = .ok (.iaload, 1) := by decide +kernel
theorem d_LW_law_223 : decode b_LW_law 223 = .ok (.invokevirtual 42, 3) := by decide +kernel
theorem d_LW_law_226 : decode b_LW_law 226 = .ok (.aload_n 2, 1) := by decide +kernel
theorem d_LW_law_227 : decode b_LW_law 227 = .ok (.aload_n 0, 1) := by decide +kernel
theorem d_LW_law_228 : decode b_LW_law 228 = .ok (.iload 4, 2) := by decide +kernel
theorem d_LW_law_230 : decode b_LW_law 230 = .ok (.iconst 1, 1) := by decide +kernel
theorem d_LW_law_231 : decode b_LW_law 231 = .ok (.iadd, 1) := by decide +kernel
theorem d_LW_law_232 : decode b_LW_law 232 = .ok (.iaload, 1) := by decide +kernel
theorem d_LW_law_233 : decode b_LW_law 233 = .ok (.invokevirtual 45, 3) := by decide +kernel
theorem d_LW_law_236 : decode b_LW_law 236 = .ok (.if_icmp .eq 501, 3) := by decide +kernel
theorem d_LW_law_239 : decode b_LW_law 239 = .ok (.iconst 0, 1) := by decide +kernel
theorem d_LW_law_240 : decode b_LW_law 240 = .ok (.ireturn, 1) := by decide +kernel
theorem d_LW_law_241 : decode b_LW_law 241 = .ok (.aload_n 1, 1) := by decide +kernel
theorem d_LW_law_242 : decode b_LW_law 242 = .ok (.invokevirtual 46, 3) := by decide +kernel
theorem d_LW_law_245 : decode b_LW_law 245 = .ok (.aload_n 2, 1) := by decide +kernel
theorem d_LW_law_246 : decode b_LW_law 246 = .ok (.invokevirtual 50, 3) := by decide +kernel
theorem d_LW_law_249 : decode b_LW_law 249 = .ok (.if_icmp .eq 488, 3) := by decide +kernel
theorem d_LW_law_252 : decode b_LW_law 252 = .ok (.iconst 0, 1) := by decide +kernel
theorem d_LW_law_253 : decode b_LW_law 253 = .ok (.ireturn, 1) := by decide +kernel
theorem d_LW_law_254 : decode b_LW_law 254 = .ok (.aload_n 1, 1) := by decide +kernel
theorem d_LW_law_255 : decode b_LW_law 255 = .ok (.invokevirtual 51, 3) := by decide +kernel
theorem d_LW_law_258 : decode b_LW_law 258 = .ok (.aload_n 2, 1) := by decide +kernel
theorem d_LW_law_259 : decode b_LW_law 259 = .ok (.invokevirtual 54, 3) := by decide +kernel
theorem d_LW_law_262 : decode b_LW_law 262 = .ok (.if_icmp .eq 475, 3) := by decide +kernel
theorem d_LW_law_265 : decode b_LW_law 265 = .ok (.iconst 0, 1) := by decide +kernel
theorem d_LW_law_266 : decode b_LW_law 266 = .ok (.ireturn, 1) := by decide +kernel
theorem d_LW_law_267 : decode b_LW_law 267 = .ok (.aload_n 1, 1) := by decide +kernel
theorem d_LW_law_268 : decode b_LW_law 268 = .ok (.aload_n 0, 1) := by decide +kernel
theorem d_LW_law_269 : decode b_LW_law 269 = .ok (.iload 4, 2) := by decide +kernel
theorem d_LW_law_271 : decode b_LW_law 271 = .ok (.iconst 1, 1) := by decide +kernel
theorem d_LW_law_272 : decode b_LW_law 272 = .ok (.iadd, 1) := by decide +kernel
theorem d_LW_law_273 : decode b_LW_law 273 = .ok (.iaload, 1) := by decide +kernel
theorem d_LW_law_274 : decode b_LW_law 274 = .ok (.invokevirtual 55, 3) := by decide +kernel
theorem d_LW_law_277 : decode b_LW_law 277 = .ok (.aload_n 2, 1) := by decide +kernel
theorem d_LW_law_278 : decode b_LW_law 278 = .ok (.aload_n 0, 1) := by decide +kernel
theorem d_LW_law_279 : decode b_LW_law 279 = .ok (.iload 4, 2) := by decide +kernel
theorem d_LW_law_281 : decode b_LW_law 281 = .ok (.iconst 1, 1) := by decide +kernel
theorem d_LW_law_282 : decode b_LW_law 282 = .ok (.iadd, 1) := by decide +kernel
theorem d_LW_law_283 : decode b_LW_law 283 = .ok (.iaload, 1) := by decide +kernel
theorem d_LW_law_284 : decode b_LW_law 284 = .ok (.invokevirtual 59, 3) := by decide +kernel
theorem d_LW_law_287 : decode b_LW_law 287 = .ok (.if_icmp .eq 450, 3) := by decide +kernel
theorem d_LW_law_290 : decode b_LW_law 290 = .ok (.iconst 0, 1) := by decide +kernel
theorem d_LW_law_291 : decode b_LW_law 291 = .ok (.ireturn, 1) := by decide +kernel
theorem d_LW_law_292 : decode b_LW_law 292 = .ok (.aload_n 1, 1) := by decide +kernel
theorem d_LW_law_293 : decode b_LW_law 293 = .ok (.aload_n 0, 1) := by decide +kernel
theorem d_LW_law_294 : decode b_LW_law 294 = .ok (.iload 4, 2) := by decide +kernel
theorem d_LW_law_296 : decode b_LW_law 296 = .ok (.iconst 1, 1) := by decide +kernel
theorem d_LW_law_297 : decode b_LW_law 297 = .ok (.iadd, 1) := by decide +kernel
theorem d_LW_law_298 : decode b_LW_law 298 = .ok (.iaload, 1) := by decide +kernel
theorem d_LW_law_299 : decode b_LW_law 299 = .ok (.invokevirtual 60, 3) := by decide +kernel
theorem d_LW_law_302 : decode b_LW_law 302 = .ok (.aload_n 2, 1) := by decide +kernel
theorem d_LW_law_303 : decode b_LW_law 303 = .ok (.aload_n 0, 1) := by decide +kernel
theorem d_LW_law_304 : decode b_LW_law 304 = .ok (.iload 4, 2) := by decide +kernel
theorem d_LW_law_306 : decode b_LW_law 306 = .ok (.iconst 1, 1) := by decide +kernel
theorem d_LW_law_307 : decode b_LW_law 307 = .ok (.iadd, 1) := by decide +kernel
theorem d_LW_law_308 : decode b_LW_law 308 = .ok (.iaload, 1) := by decide +kernel
theorem d_LW_law_309 : decode b_LW_law 309 = .ok (.invokevirtual 63, 3) := by decide +kernel
theorem d_LW_law_312 : decode b_LW_law 312 = .ok (.if_icmp .eq 425, 3) := by decide +kernel
theorem d_LW_law_315 : decode b_LW_law 315 = .ok (.iconst 0, 1) := by decide +kernel
theorem d_LW_law_316 : decode b_LW_law 316 = .ok (.ireturn, 1) := by decide +kernel
theorem d_LW_law_317 : decode b_LW_law 317 = .ok (.aload_n 1, 1) := by decide +kernel
theorem d_LW_law_318 : decode b_LW_law 318 = .ok (.aload_n 0, 1) := by decide +kernel
theorem d_LW_law_319 : decode b_LW_law 319 = .ok (.iload 4, 2) := by decide +kernel
theorem d_LW_law_321 : decode b_LW_law 321 = .ok (.iconst 1, 1) := by decide +kernel
theorem d_LW_law_322 : decode b_LW_law 322 = .ok (.iadd, 1) := by decide +kernel
theorem d_LW_law_323 : decode b_LW_law 323 = .ok (.iaload, 1) := by decide +kernel
theorem d_LW_law_324 : decode b_LW_law 324 = .ok (.invokevirtual 64, 3) := by decide +kernel
theorem d_LW_law_327 : decode b_LW_law 327 = .ok (.aload_n 2, 1) := by decide +kernel
theorem d_LW_law_328 : decode b_LW_law 328 = .ok (.aload_n 0, 1) := by decide +kernel
theorem d_LW_law_329 : decode b_LW_law 329 = .ok (.iload 4, 2) := by decide +kernel
theorem d_LW_law_331 : decode b_LW_law 331 = .ok (.iconst 1, 1) := by decide +kernel
theorem d_LW_law_332 : decode b_LW_law 332 = .ok (.iadd, 1) := by decide +kernel
theorem d_LW_law_333 : decode b_LW_law 333 = .ok (.iaload, 1) := by decide +kernel
theorem d_LW_law_334 : decode b_LW_law 334 = .ok (.invokevirtual 67, 3) := by decide +kernel
theorem d_LW_law_337 : decode b_LW_law 337 = .ok (.if_icmp .eq 400, 3) := by decide +kernel
theorem d_LW_law_340 : decode b_LW_law 340 = .ok (.iconst 0, 1) := by decide +kernel
theorem d_LW_law_341 : decode b_LW_law 341 = .ok (.ireturn, 1) := by decide +kernel
theorem d_LW_law_342 : decode b_LW_law 342 = .ok (.aload_n 1, 1) := by decide +kernel
theorem d_LW_law_343 : decode b_LW_law 343 = .ok (.aload_n 0, 1) := by decide +kernel
theorem d_LW_law_344 : decode b_LW_law 344 = .ok (.iload 4, 2) := by decide +kernel
theorem d_LW_law_346 : decode b_LW_law 346 = .ok (.iconst 1, 1) := by decide +kernel
theorem d_LW_law_347 : decode b_LW_law 347 = .ok (.iadd, 1) := by decide +kernel
theorem d_LW_law_348 : decode b_LW_law 348 = .ok (.iaload, 1) := by decide +kernel
theorem d_LW_law_349 : decode b_LW_law 349 = .ok (.invokevirtual 68, 3) := by decide +kernel
theorem d_LW_law_352 : decode b_LW_law 352 = .ok (.aload_n 2, 1) := by decide +kernel
theorem d_LW_law_353 : decode b_LW_law 353 = .ok (.aload_n 0, 1) := by decide +kernel
theorem d_LW_law_354 : decode b_LW_law 354 = .ok (.iload 4, 2) := by decide +kernel
theorem d_LW_law_356 : decode b_LW_law 356 = .ok (.iconst 1, 1) := by decide +kernel
theorem d_LW_law_357 : decode b_LW_law 357 = .ok (.iadd, 1) := by decide +kernel
theorem d_LW_law_358 : decode b_LW_law 358 = .ok (.iaload, 1) := by decide +kernel
theorem d_LW_law_359 : decode b_LW_law 359 = .ok (.invokevirtual 71, 3) := by decide +kernel
theorem d_LW_law_362 : decode b_LW_law 362 = .ok (.if_icmp .eq 375, 3) := by decide +kernel
theorem d_LW_law_365 : decode b_LW_law 365 = .ok (.iconst 0, 1) := by decide +kernel
theorem d_LW_law_366 : decode b_LW_law 366 = .ok (.ireturn, 1) := by decide +kernel
theorem d_LW_law_367 : decode b_LW_law 367 = .ok (.aload_n 1, 1) := by decide +kernel
theorem d_LW_law_368 : decode b_LW_law 368 = .ok (.aload_n 0, 1) := by decide +kernel
theorem d_LW_law_369 : decode b_LW_law 369 = .ok (.iload 4, 2) := by decide +kernel
theorem d_LW_law_371 : decode b_LW_law 371 = .ok (.iconst 1, 1) := by decide +kernel
theorem d_LW_law_372 : decode b_LW_law 372 = .ok (.iadd, 1) := by decide +kernel
theorem d_LW_law_373 : decode b_LW_law 373 = .ok (.iaload, 1) := by decide +kernel
theorem d_LW_law_374 : decode b_LW_law 374 = .ok (.invokevirtual 72, 3) := by decide +kernel
theorem d_LW_law_377 : decode b_LW_law 377 = .ok (.aload_n 2, 1) := by decide +kernel
theorem d_LW_law_378 : decode b_LW_law 378 = .ok (.aload_n 0, 1) := by decide +kernel
theorem d_LW_law_379 : decode b_LW_law 379 = .ok (.iload 4, 2) := by decide +kernel
theorem d_LW_law_381 : decode b_LW_law 381 = .ok (.iconst 1, 1) := by decide +kernel
theorem d_LW_law_382 : decode b_LW_law 382 = .ok (.iadd, 1) := by decide +kernel
theorem d_LW_law_383 : decode b_LW_law 383 = .ok (.iaload, 1) := by decide +kernel
theorem d_LW_law_384 : decode b_LW_law 384 = .ok (.invokevirtual 75, 3) := by decide +kernel
theorem d_LW_law_387 : decode b_LW_law 387 = .ok (.if_icmp .eq 350, 3) := by decide +kernel
theorem d_LW_law_390 : decode b_LW_law 390 = .ok (.iconst 0, 1) := by decide +kernel
theorem d_LW_law_391 : decode b_LW_law 391 = .ok (.ireturn, 1) := by decide +kernel
theorem d_LW_law_392 : decode b_LW_law 392 = .ok (.aload_n 1, 1) := by decide +kernel
theorem d_LW_law_393 : decode b_LW_law 393 = .ok (.invokevirtual 76, 3) := by decide +kernel
theorem d_LW_law_396 : decode b_LW_law 396 = .ok (.aload_n 2, 1) := by decide +kernel
theorem d_LW_law_397 : decode b_LW_law 397 = .ok (.invokevirtual 79, 3) := by decide +kernel
theorem d_LW_law_400 : decode b_LW_law 400 = .ok (.if_icmp .eq 337, 3) := by decide +kernel
theorem d_LW_law_403 : decode b_LW_law 403 = .ok (.iconst 0, 1) := by decide +kernel
theorem d_LW_law_404 : decode b_LW_law 404 = .ok (.ireturn, 1) := by decide +kernel
theorem d_LW_law_405 : decode b_LW_law 405 = .ok (.aload_n 1, 1) := by decide +kernel
theorem d_LW_law_406 : decode b_LW_law 406 = .ok (.aload_n 0, 1) := by decide +kernel
theorem d_LW_law_407 : decode b_LW_law 407 = .ok (.iload 4, 2) := by decide +kernel
theorem d_LW_law_409 : decode b_LW_law 409 = .ok (.iconst 1, 1) := by decide +kernel
theorem d_LW_law_410 : decode b_LW_law 410 = .ok (.iadd, 1) := by decide +kernel
theorem d_LW_law_411 : decode b_LW_law 411 = .ok (.iaload, 1) := by decide +kernel
theorem d_LW_law_412 : decode b_LW_law 412 = .ok (.aload_n 0, 1) := by decide +kernel
theorem d_LW_law_413 : decode b_LW_law 413 = .ok (.iload 4, 2) := by decide +kernel
theorem d_LW_law_415 : decode b_LW_law 415 = .ok (.iconst 2, 1) := by decide +kernel
theorem d_LW_law_416 : decode b_LW_law 416 = .ok (.iadd, 1) := by decide +kernel
theorem d_LW_law_417 : decode b_LW_law 417 = .ok (.iaload, 1) := by decide +kernel
theorem d_LW_law_418 : decode b_LW_law 418 = .ok (.invokevirtual 80, 3) := by decide +kernel
theorem d_LW_law_421 : decode b_LW_law 421 = .ok (.aload_n 2, 1) := by decide +kernel
theorem d_LW_law_422 : decode b_LW_law 422 = .ok (.aload_n 0, 1) := by decide +kernel
theorem d_LW_law_423 : decode b_LW_law 423 = .ok (.iload 4, 2) := by decide +kernel
theorem d_LW_law_425 : decode b_LW_law 425 = .ok (.iconst 1, 1) := by decide +kernel
theorem d_LW_law_426 : decode b_LW_law 426 = .ok (.iadd, 1) := by decide +kernel
theorem d_LW_law_427 : decode b_LW_law 427 = .ok (.iaload, 1) := by decide +kernel
theorem d_LW_law_428 : decode b_LW_law 428 = .ok (.aload_n 0, 1) := by decide +kernel
theorem d_LW_law_429 : decode b_LW_law 429 = .ok (.iload 4, 2) := by decide +kernel
theorem d_LW_law_431 : decode b_LW_law 431 = .ok (.iconst 2, 1) := by decide +kernel
theorem d_LW_law_432 : decode b_LW_law 432 = .ok (.iadd, 1) := by decide +kernel
theorem d_LW_law_433 : decode b_LW_law 433 = .ok (.iaload, 1) := by decide +kernel
theorem d_LW_law_434 : decode b_LW_law 434 = .ok (.invokevirtual 84, 3) := by decide +kernel
theorem d_LW_law_437 : decode b_LW_law 437 = .ok (.if_icmp .eq 300, 3) := by decide +kernel
theorem d_LW_law_440 : decode b_LW_law 440 = .ok (.iconst 0, 1) := by decide +kernel
theorem d_LW_law_441 : decode b_LW_law 441 = .ok (.ireturn, 1) := by decide +kernel
theorem d_LW_law_442 : decode b_LW_law 442 = .ok (.aload_n 1, 1) := by decide +kernel
theorem d_LW_law_443 : decode b_LW_law 443 = .ok (.aload_n 0, 1) := by decide +kernel
theorem d_LW_law_444 : decode b_LW_law 444 = .ok (.iload 4, 2) := by decide +kernel
theorem d_LW_law_446 : decode b_LW_law 446 = .ok (.iconst 1, 1) := by decide +kernel
theorem d_LW_law_447 : decode b_LW_law 447 = .ok (.iadd, 1) := by decide +kernel
theorem d_LW_law_448 : decode b_LW_law 448 = .ok (.iaload, 1) := by decide +kernel
theorem d_LW_law_449 : decode b_LW_law 449 = .ok (.aload_n 0, 1) := by decide +kernel
theorem d_LW_law_450 : decode b_LW_law 450 = .ok (.iload 4, 2) := by decide +kernel
theorem d_LW_law_452 : decode b_LW_law 452 = .ok (.iconst 2, 1) := by decide +kernel
theorem d_LW_law_453 : decode b_LW_law 453 = .ok (.iadd, 1) := by decide +kernel
theorem d_LW_law_454 : decode b_LW_law 454 = .ok (.iaload, 1) := by decide +kernel
theorem d_LW_law_455 : decode b_LW_law 455 = .ok (.ifCond .eq 7, 3) := by decide +kernel
theorem d_LW_law_458 : decode b_LW_law 458 = .ok (.iconst 1, 1) := by decide +kernel
theorem d_LW_law_459 : decode b_LW_law 459 = .ok (.goto 4, 3) := by decide +kernel
theorem d_LW_law_462 : decode b_LW_law 462 = .ok (.iconst 0, 1) := by decide +kernel
theorem d_LW_law_463 : decode b_LW_law 463 = .ok (.invokevirtual 85, 3) := by decide +kernel
theorem d_LW_law_466 : decode b_LW_law 466 = .ok (.aload_n 2, 1) := by decide +kernel
theorem d_LW_law_467 : decode b_LW_law 467 = .ok (.aload_n 0, 1) := by decide +kernel
theorem d_LW_law_468 : decode b_LW_law 468 = .ok (.iload 4, 2) := by decide +kernel
theorem d_LW_law_470 : decode b_LW_law 470 = .ok (.iconst 1, 1) := by decide +kernel
theorem d_LW_law_471 : decode b_LW_law 471 = .ok (.iadd, 1) := by decide +kernel
theorem d_LW_law_472 : decode b_LW_law 472 = .ok (.iaload, 1) := by decide +kernel
theorem d_LW_law_473 : decode b_LW_law 473 = .ok (.aload_n 0, 1) := by decide +kernel
theorem d_LW_law_474 : decode b_LW_law 474 = .ok (.iload 4, 2) := by decide +kernel
theorem d_LW_law_476 : decode b_LW_law 476 = .ok (.iconst 2, 1) := by decide +kernel
theorem d_LW_law_477 : decode b_LW_law 477 = .ok (.iadd, 1) := by decide +kernel
theorem d_LW_law_478 : decode b_LW_law 478 = .ok (.iaload, 1) := by decide +kernel
theorem d_LW_law_479 : decode b_LW_law 479 = .ok (.ifCond .eq 7, 3) := by decide +kernel
theorem d_LW_law_482 : decode b_LW_law 482 = .ok (.iconst 1, 1) := by decide +kernel
theorem d_LW_law_483 : decode b_LW_law 483 = .ok (.goto 4, 3) := by decide +kernel
theorem d_LW_law_486 : decode b_LW_law 486 = .ok (.iconst 0, 1) := by decide +kernel
theorem d_LW_law_487 : decode b_LW_law 487 = .ok (.invokevirtual 89, 3) := by decide +kernel
theorem d_LW_law_490 : decode b_LW_law 490 = .ok (.if_icmp .eq 247, 3) := by decide +kernel
theorem d_LW_law_493 : decode b_LW_law 493 = .ok (.iconst 0, 1) := by decide +kernel
theorem d_LW_law_494 : decode b_LW_law 494 = .ok (.ireturn, 1) := by decide +kernel
theorem d_LW_law_495 : decode b_LW_law 495 = .ok (.aload_n 1, 1) := by decide +kernel
theorem d_LW_law_496 : decode b_LW_law 496 = .ok (.aload_n 0, 1) := by decide +kernel
theorem d_LW_law_497 : decode b_LW_law 497 = .ok (.iload 4, 2) := by decide +kernel
theorem d_LW_law_499 : decode b_LW_law 499 = .ok (.iconst 1, 1) := by decide +kernel
theorem d_LW_law_500 : decode b_LW_law 500 = .ok (.iadd, 1) := by decide +kernel
theorem d_LW_law_501 : decode b_LW_law 501 = .ok (.iaload, 1) := by decide +kernel
theorem d_LW_law_502 : decode b_LW_law 502 = .ok (.aload_n 0, 1) := by decide +kernel
theorem d_LW_law_503 : decode b_LW_law 503 = .ok (.iload 4, 2) := by decide +kernel
theorem d_LW_law_505 : decode b_LW_law 505 = .ok (.iconst 2, 1) := by decide +kernel
theorem d_LW_law_506 : decode b_LW_law 506 = .ok (.iadd, 1) := by decide +kernel
theorem d_LW_law_507 : decode b_LW_law 507 = .ok (.iaload, 1) := by decide +kernel
theorem d_LW_law_508 : decode b_LW_law 508 = .ok (.invokevirtual 90, 3) := by decide +kernel
theorem d_LW_law_511 : decode b_LW_law 511 = .ok (.aload_n 2, 1) := by decide +kernel
theorem d_LW_law_512 : decode b_LW_law 512 = .ok (.aload_n 0, 1) := by decide +kernel
theorem d_LW_law_513 : decode b_LW_law 513 = .ok (.iload 4, 2) := by decide +kernel
theorem d_LW_law_515 : decode b_LW_law 515 = .ok (.iconst 1, 1) := by decide +kernel
theorem d_LW_law_516 : decode b_LW_law 516 = .ok (.iadd, 1) := by decide +kernel
theorem d_LW_law_517 : decode b_LW_law 517 = .ok (.iaload, 1) := by decide +kernel
theorem d_LW_law_518 : decode b_LW_law 518 = .ok (.aload_n 0, 1) := by decide +kernel
theorem d_LW_law_519 : decode b_LW_law 519 = .ok (.iload 4, 2) := by decide +kernel
theorem d_LW_law_521 : decode b_LW_law 521 = .ok (.iconst 2, 1) := by decide +kernel
theorem d_LW_law_522 : decode b_LW_law 522 = .ok (.iadd, 1) := by decide +kernel
theorem d_LW_law_523 : decode b_LW_law 523 = .ok (.iaload, 1) := by decide +kernel
theorem d_LW_law_524 : decode b_LW_law 524 = .ok (.invokevirtual 93, 3) := by decide +kernel
theorem d_LW_law_527 : decode b_LW_law 527 = .ok (.if_icmp .eq 210, 3) := by decide +kernel
theorem d_LW_law_530 : decode b_LW_law 530 = .ok (.iconst 0, 1) := by decide +kernel
theorem d_LW_law_531 : decode b_LW_law 531 = .ok (.ireturn, 1) := by decide +kernel
theorem d_LW_law_532 : decode b_LW_law 532 = .ok (.aload_n 1, 1) := by decide +kernel
theorem d_LW_law_533 : decode b_LW_law 533 = .ok (.aload_n 0, 1) := by decide +kernel
theorem d_LW_law_534 : decode b_LW_law 534 = .ok (.iload 4, 2) := by decide +kernel
theorem d_LW_law_536 : decode b_LW_law 536 = .ok (.iconst 1, 1) := by decide +kernel
theorem d_LW_law_537 : decode b_LW_law 537 = .ok (.iadd, 1) := by decide +kernel
theorem d_LW_law_538 : decode b_LW_law 538 = .ok (.iaload, 1) := by decide +kernel
theorem d_LW_law_539 : decode b_LW_law 539 = .ok (.aload_n 0, 1) := by decide +kernel
theorem d_LW_law_540 : decode b_LW_law 540 = .ok (.iload 4, 2) := by decide +kernel
theorem d_LW_law_542 : decode b_LW_law 542 = .ok (.iconst 2, 1) := by decide +kernel
theorem d_LW_law_543 : decode b_LW_law 543 = .ok (.iadd, 1) := by decide +kernel
theorem d_LW_law_544 : decode b_LW_law 544 = .ok (.iaload, 1) := by decide +kernel
theorem d_LW_law_545 : decode b_LW_law 545 = .ok (.invokevirtual 94, 3) := by decide +kernel
theorem d_LW_law_548 : decode b_LW_law 548 = .ok (.aload_n 2, 1) := by decide +kernel
theorem d_LW_law_549 : decode b_LW_law 549 = .ok (.aload_n 0, 1) := by decide +kernel
theorem d_LW_law_550 : decode b_LW_law 550 = .ok (.iload 4, 2) := by decide +kernel
theorem d_LW_law_552 : decode b_LW_law 552 = .ok (.iconst 1, 1) := by decide +kernel
theorem d_LW_law_553 : decode b_LW_law 553 = .ok (.iadd, 1) := by decide +kernel
theorem d_LW_law_554 : decode b_LW_law 554 = .ok (.iaload, 1) := by decide +kernel
theorem d_LW_law_555 : decode b_LW_law 555 = .ok (.aload_n 0, 1) := by decide +kernel
theorem d_LW_law_556 : decode b_LW_law 556 = .ok (.iload 4, 2) := by decide +kernel
theorem d_LW_law_558 : decode b_LW_law 558 = .ok (.iconst 2, 1) := by decide +kernel
theorem d_LW_law_559 : decode b_LW_law 559 = .ok (.iadd, 1) := by decide +kernel
theorem d_LW_law_560 : decode b_LW_law 560 = .ok (.iaload, 1) := by decide +kernel
theorem d_LW_law_561 : decode b_LW_law 561 = .ok (.invokevirtual 98, 3) := by decide +kernel
theorem d_LW_law_564 : decode b_LW_law 564 = .ok (.if_icmp .eq 173, 3) := by decide +kernel
theorem d_LW_law_567 : decode b_LW_law 567 = .ok (.iconst 0, 1) := by decide +kernel
theorem d_LW_law_568 : decode b_LW_law 568 = .ok (.ireturn, 1) := by decide +kernel
theorem d_LW_law_569 : decode b_LW_law 569 = .ok (.aload_n 1, 1) := by decide +kernel
theorem d_LW_law_570 : decode b_LW_law 570 = .ok (.aload_n 0, 1) := by decide +kernel
theorem d_LW_law_571 : decode b_LW_law 571 = .ok (.iload 4, 2) := by decide +kernel
theorem d_LW_law_573 : decode b_LW_law 573 = .ok (.iconst 1, 1) := by decide +kernel
theorem d_LW_law_574 : decode b_LW_law 574 = .ok (.iadd, 1) := by decide +kernel
theorem d_LW_law_575 : decode b_LW_law 575 = .ok (.iaload, 1) := by decide +kernel
theorem d_LW_law_576 : decode b_LW_law 576 = .ok (.invokevirtual 99, 3) := by decide +kernel
theorem d_LW_law_579 : decode b_LW_law 579 = .ok (.aload_n 2, 1) := by decide +kernel
theorem d_LW_law_580 : decode b_LW_law 580 = .ok (.aload_n 0, 1) := by decide +kernel
theorem d_LW_law_581 : decode b_LW_law 581 = .ok (.iload 4, 2) := by decide +kernel
theorem d_LW_law_583 : decode b_LW_law 583 = .ok (.iconst 1, 1) := by decide +kernel
theorem d_LW_law_584 : decode b_LW_law 584 = .ok (.iadd, 1) := by decide +kernel
theorem d_LW_law_585 : decode b_LW_law 585 = .ok (.iaload, 1) := by decide +kernel
theorem d_LW_law_586 : decode b_LW_law 586 = .ok (.invokevirtual 102, 3) := by decide +kernel
theorem d_LW_law_589 : decode b_LW_law 589 = .ok (.if_icmp .eq 148, 3) := by decide +kernel
theorem d_LW_law_592 : decode b_LW_law 592 = .ok (.iconst 0, 1) := by decide +kernel
theorem d_LW_law_593 : decode b_LW_law 593 = .ok (.ireturn, 1) := by decide +kernel
theorem d_LW_law_594 : decode b_LW_law 594 = .ok (.aload_n 1, 1) := by decide +kernel
theorem d_LW_law_595 : decode b_LW_law 595 = .ok (.aload_n 0, 1) := by decide +kernel
theorem d_LW_law_596 : decode b_LW_law 596 = .ok (.iload 4, 2) := by decide +kernel
theorem d_LW_law_598 : decode b_LW_law 598 = .ok (.iconst 1, 1) := by decide +kernel
theorem d_LW_law_599 : decode b_LW_law 599 = .ok (.iadd, 1) := by decide +kernel
theorem d_LW_law_600 : decode b_LW_law 600 = .ok (.iaload, 1) := by decide +kernel
theorem d_LW_law_601 : decode b_LW_law 601 = .ok (.invokevirtual 103, 3) := by decide +kernel
theorem d_LW_law_604 : decode b_LW_law 604 = .ok (.aload_n 2, 1) := by decide +kernel
theorem d_LW_law_605 : decode b_LW_law 605 = .ok (.aload_n 0, 1) := by decide +kernel
theorem d_LW_law_606 : decode b_LW_law 606 = .ok (.iload 4, 2) := by decide +kernel
theorem d_LW_law_608 : decode b_LW_law 608 = .ok (.iconst 1, 1) := by decide +kernel
theorem d_LW_law_609 : decode b_LW_law 609 = .ok (.iadd, 1) := by decide +kernel
theorem d_LW_law_610 : decode b_LW_law 610 = .ok (.iaload, 1) := by decide +kernel
theorem d_LW_law_611 : decode b_LW_law 611 = .ok (.invokevirtual 106, 3) := by decide +kernel
theorem d_LW_law_614 : decode b_LW_law 614 = .ok (.if_icmp .eq 123, 3) := by decide +kernel
theorem d_LW_law_617 : decode b_LW_law 617 = .ok (.iconst 0, 1) := by decide +kernel
theorem d_LW_law_618 : decode b_LW_law 618 = .ok (.ireturn, 1) := by decide +kernel
theorem d_LW_law_619 : decode b_LW_law 619 = .ok (.aload_n 1, 1) := by decide +kernel
theorem d_LW_law_620 : decode b_LW_law 620 = .ok (.aload_n 0, 1) := by decide +kernel
theorem d_LW_law_621 : decode b_LW_law 621 = .ok (.iload 4, 2) := by decide +kernel
theorem d_LW_law_623 : decode b_LW_law 623 = .ok (.iconst 1, 1) := by decide +kernel
theorem d_LW_law_624 : decode b_LW_law 624 = .ok (.iadd, 1) := by decide +kernel
theorem d_LW_law_625 : decode b_LW_law 625 = .ok (.iaload, 1) := by decide +kernel
theorem d_LW_law_626 : decode b_LW_law 626 = .ok (.aload_n 0, 1) := by decide +kernel
theorem d_LW_law_627 : decode b_LW_law 627 = .ok (.iload 4, 2) := by decide +kernel
theorem d_LW_law_629 : decode b_LW_law 629 = .ok (.iconst 2, 1) := by decide +kernel
theorem d_LW_law_630 : decode b_LW_law 630 = .ok (.iadd, 1) := by decide +kernel
theorem d_LW_law_631 : decode b_LW_law 631 = .ok (.iaload, 1) := by decide +kernel
theorem d_LW_law_632 : decode b_LW_law 632 = .ok (.invokevirtual 107, 3) := by decide +kernel
theorem d_LW_law_635 : decode b_LW_law 635 = .ok (.aload_n 2, 1) := by decide +kernel
theorem d_LW_law_636 : decode b_LW_law 636 = .ok (.aload_n 0, 1) := by decide +kernel
theorem d_LW_law_637 : decode b_LW_law 637 = .ok (.iload 4, 2) := by decide +kernel
theorem d_LW_law_639 : decode b_LW_law 639 = .ok (.iconst 1, 1) := by decide +kernel
theorem d_LW_law_640 : decode b_LW_law 640 = .ok (.iadd, 1) := by decide +kernel
theorem d_LW_law_641 : decode b_LW_law 641 = .ok (.iaload, 1) := by decide +kernel
theorem d_LW_law_642 : decode b_LW_law 642 = .ok (.aload_n 0, 1) := by decide +kernel
theorem d_LW_law_643 : decode b_LW_law 643 = .ok (.iload 4, 2) := by decide +kernel
theorem d_LW_law_645 : decode b_LW_law 645 = .ok (.iconst 2, 1) := by decide +kernel
theorem d_LW_law_646 : decode b_LW_law 646 = .ok (.iadd, 1) := by decide +kernel
theorem d_LW_law_647 : decode b_LW_law 647 = .ok (.iaload, 1) := by decide +kernel
theorem d_LW_law_648 : decode b_LW_law 648 = .ok (.invokevirtual 110, 3) := by decide +kernel
theorem d_LW_law_651 : decode b_LW_law 651 = .ok (.if_icmp .eq 86, 3) := by decide +kernel
theorem d_LW_law_654 : decode b_LW_law 654 = .ok (.iconst 0, 1) := by decide +kernel
theorem d_LW_law_655 : decode b_LW_law 655 = .ok (.ireturn, 1) := by decide +kernel
theorem d_LW_law_656 : decode b_LW_law 656 = .ok (.aload_n 1, 1) := by decide +kernel
theorem d_LW_law_657 : decode b_LW_law 657 = .ok (.aload_n 0, 1) := by decide +kernel
theorem d_LW_law_658 : decode b_LW_law 658 = .ok (.iload 4, 2) := by decide +kernel
theorem d_LW_law_660 : decode b_LW_law 660 = .ok (.iconst 1, 1) := by decide +kernel
theorem d_LW_law_661 : decode b_LW_law 661 = .ok (.iadd, 1) := by decide +kernel
theorem d_LW_law_662 : decode b_LW_law 662 = .ok (.iaload, 1) := by decide +kernel
theorem d_LW_law_663 : decode b_LW_law 663 = .ok (.invokevirtual 111, 3) := by decide +kernel
theorem d_LW_law_666 : decode b_LW_law 666 = .ok (.aload_n 2, 1) := by decide +kernel
theorem d_LW_law_667 : decode b_LW_law 667 = .ok (.aload_n 0, 1) := by decide +kernel
theorem d_LW_law_668 : decode b_LW_law 668 = .ok (.iload 4, 2) := by decide +kernel
theorem d_LW_law_670 : decode b_LW_law 670 = .ok (.iconst 1, 1) := by decide +kernel
theorem d_LW_law_671 : decode b_LW_law 671 = .ok (.iadd, 1) := by decide +kernel
theorem d_LW_law_672 : decode b_LW_law 672 = .ok (.iaload, 1) := by decide +kernel
theorem d_LW_law_673 : decode b_LW_law 673 = .ok (.invokevirtual 114, 3) := by decide +kernel
theorem d_LW_law_676 : decode b_LW_law 676 = .ok (.if_icmp .eq 61, 3) := by decide +kernel
theorem d_LW_law_679 : decode b_LW_law 679 = .ok (.iconst 0, 1) := by decide +kernel
theorem d_LW_law_680 : decode b_LW_law 680 = .ok (.ireturn, 1) := by decide +kernel
theorem d_LW_law_681 : decode b_LW_law 681 = .ok (.aload_n 1, 1) := by decide +kernel
theorem d_LW_law_682 : decode b_LW_law 682 = .ok (.aload_n 0, 1) := by decide +kernel
theorem d_LW_law_683 : decode b_LW_law 683 = .ok (.iload 4, 2) := by decide +kernel
theorem d_LW_law_685 : decode b_LW_law 685 = .ok (.iconst 1, 1) := by decide +kernel
theorem d_LW_law_686 : decode b_LW_law 686 = .ok (.iadd, 1) := by decide +kernel
theorem d_LW_law_687 : decode b_LW_law 687 = .ok (.iaload, 1) := by decide +kernel
theorem d_LW_law_688 : decode b_LW_law 688 = .ok (.aload_n 3, 1) := by decide +kernel
theorem d_LW_law_689 : decode b_LW_law 689 = .ok (.invokestatic 115, 3) := by decide +kernel
theorem d_LW_law_692 : decode b_LW_law 692 = .ok (.istore 5, 2) := by decide +kernel
theorem d_LW_law_694 : decode b_LW_law 694 = .ok (.aload_n 2, 1) := by decide +kernel
theorem d_LW_law_695 : decode b_LW_law 695 = .ok (.aload_n 0, 1) := by decide +kernel
theorem d_LW_law_696 : decode b_LW_law 696 = .ok (.iload 4, 2) := by decide +kernel
theorem d_LW_law_698 : decode b_LW_law 698 = .ok (.iconst 1, 1) := by decide +kernel
theorem d_LW_law_699 : decode b_LW_law 699 = .ok (.iadd, 1) := by decide +kernel
theorem d_LW_law_700 : decode b_LW_law 700 = .ok (.iaload, 1) := by decide +kernel
theorem d_LW_law_701 : decode b_LW_law 701 = .ok (.invokevirtual 117, 3) := by decide +kernel
theorem d_LW_law_704 : decode b_LW_law 704 = .ok (.istore 6, 2) := by decide +kernel
theorem d_LW_law_706 : decode b_LW_law 706 = .ok (.aload_n 2, 1) := by decide +kernel
theorem d_LW_law_707 : decode b_LW_law 707 = .ok (.invokevirtual 38, 3) := by decide +kernel
theorem d_LW_law_710 : decode b_LW_law 710 = .ok (.iload 5, 2) := by decide +kernel
theorem d_LW_law_712 : decode b_LW_law 712 = .ok (.if_icmp .eq 5, 3) := by decide +kernel
theorem d_LW_law_715 : decode b_LW_law 715 = .ok (.iconst 0, 1) := by decide +kernel
theorem d_LW_law_716 : decode b_LW_law 716 = .ok (.ireturn, 1) := by decide +kernel
theorem d_LW_law_717 : decode b_LW_law 717 = .ok (.iload 5, 2) := by decide +kernel
theorem d_LW_law_719 : decode b_LW_law 719 = .ok (.ifCond .ne 15, 3) := by decide +kernel
theorem d_LW_law_722 : decode b_LW_law 722 = .ok (.aload_n 3, 1) := by decide +kernel
theorem d_LW_law_723 : decode b_LW_law 723 = .ok (.iconst 0, 1) := by decide +kernel
theorem d_LW_law_724 : decode b_LW_law 724 = .ok (.laload, 1) := by decide +kernel
theorem d_LW_law_725 : decode b_LW_law 725 = .ok (.iload 6, 2) := by decide +kernel
theorem d_LW_law_727 : decode b_LW_law 727 = .ok (.i2l, 1) := by decide +kernel
theorem d_LW_law_728 : decode b_LW_law 728 = .ok (.lcmp, 1) := by decide +kernel
theorem d_LW_law_729 : decode b_LW_law 729 = .ok (.ifCond .eq 5, 3) := by decide +kernel
theorem d_LW_law_732 : decode b_LW_law 732 = .ok (.iconst 0, 1) := by decide +kernel
theorem d_LW_law_733 : decode b_LW_law 733 = .ok (.ireturn, 1) := by decide +kernel
theorem d_LW_law_734 : decode b_LW_law 734 = .ok (.goto 3, 3) := by decide +kernel
theorem d_LW_law_737 : decode b_LW_law 737 = .ok (.iinc 4 3, 3) := by decide +kernel
theorem d_LW_law_740 : decode b_LW_law 740 = .ok (.goto (-687), 3) := by decide +kernel
theorem d_LW_law_743 : decode b_LW_law 743 = .ok (.iconst 1, 1) := by decide +kernel
theorem d_LW_law_744 : decode b_LW_law 744 = .ok (.ireturn, 1) := by decide +kernel
def hh_add : List (Nat × Nat × Nat × Nat) := [(0, 9, 12, 13), (0, 9, 15, 15)]
def w_LW_add : List Cond := .codeWith y_LW_add b_LW_add 4 (some .int) hh_add :: fw_ws
abbrev r_LW_add : Room := { frames := 7, cells := 1, slots := 6, locals := 104 }
def fn_LW_add (K : Nat → Nat × Nat) (I : Nat → Nat → Int32) (k0 : Nat) (x1 : Int32) (z : Int64) : Option (Int32 × (Nat → Nat → Int32) × Int64) := match fn_FL_add K I k0 x1 with
  | none => none
  | some (0, v, I2) => some (0, I2, v.toInt64)
  | some (t + 1, _, I2) => some (Int32.ofNat (t + 1), I2, z)
set_option maxHeartbeats 4000000 in
set_option maxRecDepth 100000 in
theorem ct_LW_add (l : Launch) (hst : l.stackTraces = false) (D : va_G) (aC : Nat → ClassId) (g : Nat → Nat) (n : Nat) (K : Nat → Nat × Nat) (I : Nat → Nat → Int32) (k0 : Nat) (x1 : Int32) (q : Nat) (z : Int64) (Rr : Int32 × (Nat → Nat → Int32) × Int64) (hn : ∀ k, (K k).1 < 99 → k < n) (hk0 : (K k0).1 = 5) (hqn : ∀ k, k < n → g k ≠ q) (htg : ∀ t v, fn_FL_add K I k0 x1 = some (t, v) → t ≤ 2) (h : fn_LW_add K I k0 x1 z = some Rr) : fw_Mx l y_LW_add w_LW_add r_LW_add D aC g n K I q z [.ref (g k0), .int x1, .ref q] Rr := by
  refine fw_ofGx (cc := b_LW_add) (maxL := 4) (ws' := fw_ws) (hh := hh_add) (by decide +kernel) hn (Nat.le_of_ble_eq_true rfl) rfl ?_
  intro p e s m args below meth c A Q hC hN hT hn1 hA hAq hsta htab he
  have hF := hC.1
  have hw : ∀ w ∈ fw_ws, w.before args s = true := fun w hw => hF.2.2.2.2 w (List.mem_cons_of_mem _ hw)
  have h2 : fw_stays g n (lw_o aC q z) := lw_o_stays hqn
  unfold fn_LW_add at h
  change fw_F p l e r_LW_add s m args below meth c 0 0 Q 4 D aC A g n K I (lw_o aC q z) 0 [(0, .ref (g k0)), (1, .int x1), (2, .ref q)] []
  refine fx_aload_n (pc' := 1) hF d_LW_add_0 rfl 2 rfl rfl ?_
  refine fx_iconst (pc' := 2) hF (v := (0 : Int32)) d_LW_add_1 rfl rfl ?_
  refine fx_aload_n (pc' := 3) hF d_LW_add_2 rfl 0 rfl rfl ?_
  refine fx_iload_n (pc' := 4) hF d_LW_add_3 rfl 1 rfl rfl ?_
  cases hf : fn_FL_add K I k0 x1 with
  | none =>
    rw [hf] at h
    cases h
  | some r =>
    obtain ⟨t, v, I2⟩ := r
    have ht := htg _ _ hf
    rw [hf] at h
    match t, ht, hf, h with
    | 0, _, hf, h =>
      refine fx_callVf (pc' := 7) (As := [.int x1]) (st := [.int 0, .ref q]) hC hN hA h2 hk0 (by decide) rfl (ct_FL_add l D aC g n K I k0 x1 (v, I2) hn hk0 hf) (cwV 1 hF.2.2.2.2 (fw_gV wq_2_224 wq_2_225 wq_2_226 wq_1_1 wq_2_227) rfl rfl rfl ⟨rfl, by decide +kernel, by decide +kernel, by decide +kernel⟩ ⟨Nat.le_of_ble_eq_true rfl, Nat.le_of_ble_eq_true rfl⟩) ⟨Nat.zero_le _, Nat.zero_le _⟩ rfl rfl (Nat.le_of_ble_eq_true rfl) d_LW_add_4 rfl ?_
      refine fx_i2l (pc' := 8) hF d_LW_add_7 rfl ?_
      refine fx_lastO (pc' := 9) hC hAq (lw_Wd_set hqn) d_LW_add_8 rfl ?_
      refine fx_goto hF (tgt := 18) d_LW_add_9 rfl ?_
      refine fx_iconst (pc' := 19) hF (v := (0 : Int32)) d_LW_add_18 rfl rfl ?_
      exact he I2 v.toInt64 _ 0 rfl _ 0 0 (by decide) (by decide) d_LW_add_19 h
    | 1, _, hf, h =>
      refine fx_callT (As := [.int x1]) (st := [.int 0, .ref q]) hC hN hT hsta h2 hk0 (by decide) rfl (cq_FL_add l hst D aC g n K I k0 x1 1 (v, I2) (by decide) hn hk0 hf) (cwV 1 hF.2.2.2.2 (fw_gV wq_2_224 wq_2_225 wq_2_226 wq_1_1 wq_2_227) rfl rfl rfl ⟨rfl, by decide +kernel, by decide +kernel, by decide +kernel⟩ ⟨Nat.le_of_ble_eq_true rfl, Nat.le_of_ble_eq_true rfl⟩) ⟨by decide, by decide⟩ rfl rfl (Nat.le_of_ble_eq_true rfl) d_LW_add_4 [] ⟨0, 9, 12, 13⟩ [⟨0, 9, 15, 15⟩] htab (fun z hz => by cases hz) rfl (by decide) (hw _ wq_2_222) (fw_N_use wn_2_230 hN) (fun x => ?_)
      refine fx_astore_n (pc' := 13) hF (lv' := [(3, .ref x), (0, .ref (g k0)), (1, .int x1), (2, .ref q)]) d_LW_add_12 rfl (by decide) rfl rfl ?_
      refine fx_iconst (pc' := 14) hF (v := Int32.ofNat 1) d_LW_add_13 rfl rfl ?_
      exact he I2 z _ _ rfl _ 1 6 (by decide) (by decide) d_LW_add_14 h
    | 2, _, hf, h =>
      refine fx_callT (As := [.int x1]) (st := [.int 0, .ref q]) hC hN hT hsta h2 hk0 (by decide) rfl (cq_FL_add l hst D aC g n K I k0 x1 2 (v, I2) (by decide) hn hk0 hf) (cwV 1 hF.2.2.2.2 (fw_gV wq_2_224 wq_2_225 wq_2_226 wq_1_1 wq_2_227) rfl rfl rfl ⟨rfl, by decide +kernel, by decide +kernel, by decide +kernel⟩ ⟨Nat.le_of_ble_eq_true rfl, Nat.le_of_ble_eq_true rfl⟩) ⟨by decide, by decide⟩ rfl rfl (Nat.le_of_ble_eq_true rfl) d_LW_add_4 [⟨0, 9, 12, 13⟩] ⟨0, 9, 15, 15⟩ [] htab (fun z hz => by
          simp only [List.mem_cons, List.not_mem_nil, or_false] at hz
          rcases hz with rfl
          · exact ⟨"java/lang/IllegalStateException", (by decide), hw _ wq_2_222, hn1.1⟩) rfl (by decide) (hw _ wq_2_223) (fw_N_use wn_3_62 hN) (fun x => ?_)
      refine fx_astore_n (pc' := 16) hF (lv' := [(3, .ref x), (0, .ref (g k0)), (1, .int x1), (2, .ref q)]) d_LW_add_15 rfl (by decide) rfl rfl ?_
      refine fx_iconst (pc' := 17) hF (v := Int32.ofNat 2) d_LW_add_16 rfl rfl ?_
      exact he I2 z _ _ rfl _ 1 6 (by decide) (by decide) d_LW_add_17 h
    | t + 3, ht, _, _ => exact absurd ht (by omega)
def hh_read : List (Nat × Nat × Nat × Nat) := [(0, 9, 12, 13), (0, 9, 15, 15), (0, 9, 18, 20)]
def w_LW_read : List Cond := .codeWith y_LW_read b_LW_read 4 (some .int) hh_read :: fw_ws
abbrev r_LW_read : Room := { frames := 7, cells := 1, slots := 6, locals := 104 }
def fn_LW_read (K : Nat → Nat × Nat) (I : Nat → Nat → Int32) (k0 : Nat) (x1 : Int32) (z : Int64) : Option (Int32 × (Nat → Nat → Int32) × Int64) := match fn_FL_read K I k0 x1 with
  | none => none
  | some (0, v, I2) => some (0, I2, v.toInt64)
  | some (t + 1, _, I2) => some (Int32.ofNat (t + 1), I2, z)
set_option maxHeartbeats 4000000 in
set_option maxRecDepth 100000 in
theorem ct_LW_read (l : Launch) (hst : l.stackTraces = false) (D : va_G) (aC : Nat → ClassId) (g : Nat → Nat) (n : Nat) (K : Nat → Nat × Nat) (I : Nat → Nat → Int32) (k0 : Nat) (x1 : Int32) (q : Nat) (z : Int64) (Rr : Int32 × (Nat → Nat → Int32) × Int64) (hn : ∀ k, (K k).1 < 99 → k < n) (hk0 : (K k0).1 = 5) (hqn : ∀ k, k < n → g k ≠ q) (htg : ∀ t v, fn_FL_read K I k0 x1 = some (t, v) → t ≤ 3) (h : fn_LW_read K I k0 x1 z = some Rr) : fw_Mx l y_LW_read w_LW_read r_LW_read D aC g n K I q z [.ref (g k0), .int x1, .ref q] Rr := by
  refine fw_ofGx (cc := b_LW_read) (maxL := 4) (ws' := fw_ws) (hh := hh_read) (by decide +kernel) hn (Nat.le_of_ble_eq_true rfl) rfl ?_
  intro p e s m args below meth c A Q hC hN hT hn1 hA hAq hsta htab he
  have hF := hC.1
  have hw : ∀ w ∈ fw_ws, w.before args s = true := fun w hw => hF.2.2.2.2 w (List.mem_cons_of_mem _ hw)
  have h2 : fw_stays g n (lw_o aC q z) := lw_o_stays hqn
  unfold fn_LW_read at h
  change fw_F p l e r_LW_read s m args below meth c 0 0 Q 4 D aC A g n K I (lw_o aC q z) 0 [(0, .ref (g k0)), (1, .int x1), (2, .ref q)] []
  refine fx_aload_n (pc' := 1) hF d_LW_read_0 rfl 2 rfl rfl ?_
  refine fx_iconst (pc' := 2) hF (v := (0 : Int32)) d_LW_read_1 rfl rfl ?_
  refine fx_aload_n (pc' := 3) hF d_LW_read_2 rfl 0 rfl rfl ?_
  refine fx_iload_n (pc' := 4) hF d_LW_read_3 rfl 1 rfl rfl ?_
  cases hf : fn_FL_read K I k0 x1 with
  | none =>
    rw [hf] at h
    cases h
  | some r =>
    obtain ⟨t, v, I2⟩ := r
    have ht := htg _ _ hf
    rw [hf] at h
    match t, ht, hf, h with
    | 0, _, hf, h =>
      refine fx_callVf (pc' := 7) (As := [.int x1]) (st := [.int 0, .ref q]) hC hN hA h2 hk0 (by decide) rfl (ct_FL_read l D aC g n K I k0 x1 (v, I2) hn hk0 hf) (cwV 1 hF.2.2.2.2 (fw_gV wq_3_84 wq_3_85 wq_3_86 wq_1_1 wq_3_87) rfl rfl rfl ⟨rfl, by decide +kernel, by decide +kernel, by decide +kernel⟩ ⟨Nat.le_of_ble_eq_true rfl, Nat.le_of_ble_eq_true rfl⟩) ⟨Nat.zero_le _, Nat.zero_le _⟩ rfl rfl (Nat.le_of_ble_eq_true rfl) d_LW_read_4 rfl ?_
      refine fx_i2l (pc' := 8) hF d_LW_read_7 rfl ?_
      refine fx_lastO (pc' := 9) hC hAq (lw_Wd_set hqn) d_LW_read_8 rfl ?_
      refine fx_goto hF (tgt := 21) d_LW_read_9 rfl ?_
      refine fx_iconst (pc' := 22) hF (v := (0 : Int32)) d_LW_read_21 rfl rfl ?_
      exact he I2 v.toInt64 _ 0 rfl _ 0 0 (by decide) (by decide) d_LW_read_22 h
    | 1, _, hf, h =>
      refine fx_callT (As := [.int x1]) (st := [.int 0, .ref q]) hC hN hT hsta h2 hk0 (by decide) rfl (cq_FL_read l hst D aC g n K I k0 x1 1 (v, I2) (by decide) hn hk0 hf) (cwV 1 hF.2.2.2.2 (fw_gV wq_3_84 wq_3_85 wq_3_86 wq_1_1 wq_3_87) rfl rfl rfl ⟨rfl, by decide +kernel, by decide +kernel, by decide +kernel⟩ ⟨Nat.le_of_ble_eq_true rfl, Nat.le_of_ble_eq_true rfl⟩) ⟨by decide, by decide⟩ rfl rfl (Nat.le_of_ble_eq_true rfl) d_LW_read_4 [] ⟨0, 9, 12, 13⟩ [⟨0, 9, 15, 15⟩, ⟨0, 9, 18, 20⟩] htab (fun z hz => by cases hz) rfl (by decide) (hw _ wq_2_222) (fw_N_use wn_2_230 hN) (fun x => ?_)
      refine fx_astore_n (pc' := 13) hF (lv' := [(3, .ref x), (0, .ref (g k0)), (1, .int x1), (2, .ref q)]) d_LW_read_12 rfl (by decide) rfl rfl ?_
      refine fx_iconst (pc' := 14) hF (v := Int32.ofNat 1) d_LW_read_13 rfl rfl ?_
      exact he I2 z _ _ rfl _ 1 6 (by decide) (by decide) d_LW_read_14 h
    | 2, _, hf, h =>
      refine fx_callT (As := [.int x1]) (st := [.int 0, .ref q]) hC hN hT hsta h2 hk0 (by decide) rfl (cq_FL_read l hst D aC g n K I k0 x1 2 (v, I2) (by decide) hn hk0 hf) (cwV 1 hF.2.2.2.2 (fw_gV wq_3_84 wq_3_85 wq_3_86 wq_1_1 wq_3_87) rfl rfl rfl ⟨rfl, by decide +kernel, by decide +kernel, by decide +kernel⟩ ⟨Nat.le_of_ble_eq_true rfl, Nat.le_of_ble_eq_true rfl⟩) ⟨by decide, by decide⟩ rfl rfl (Nat.le_of_ble_eq_true rfl) d_LW_read_4 [⟨0, 9, 12, 13⟩] ⟨0, 9, 15, 15⟩ [⟨0, 9, 18, 20⟩] htab (fun z hz => by
          simp only [List.mem_cons, List.not_mem_nil, or_false] at hz
          rcases hz with rfl
          · exact ⟨"java/lang/IllegalStateException", (by decide), hw _ wq_2_222, hn1.1⟩) rfl (by decide) (hw _ wq_2_223) (fw_N_use wn_3_62 hN) (fun x => ?_)
      refine fx_astore_n (pc' := 16) hF (lv' := [(3, .ref x), (0, .ref (g k0)), (1, .int x1), (2, .ref q)]) d_LW_read_15 rfl (by decide) rfl rfl ?_
      refine fx_iconst (pc' := 17) hF (v := Int32.ofNat 2) d_LW_read_16 rfl rfl ?_
      exact he I2 z _ _ rfl _ 1 6 (by decide) (by decide) d_LW_read_17 h
    | 3, _, hf, h =>
      refine fx_callT (As := [.int x1]) (st := [.int 0, .ref q]) hC hN hT hsta h2 hk0 (by decide) rfl (cq_FL_read l hst D aC g n K I k0 x1 3 (v, I2) (by decide) hn hk0 hf) (cwV 1 hF.2.2.2.2 (fw_gV wq_3_84 wq_3_85 wq_3_86 wq_1_1 wq_3_87) rfl rfl rfl ⟨rfl, by decide +kernel, by decide +kernel, by decide +kernel⟩ ⟨Nat.le_of_ble_eq_true rfl, Nat.le_of_ble_eq_true rfl⟩) ⟨by decide, by decide⟩ rfl rfl (Nat.le_of_ble_eq_true rfl) d_LW_read_4 [⟨0, 9, 12, 13⟩, ⟨0, 9, 15, 15⟩] ⟨0, 9, 18, 20⟩ [] htab (fun z hz => by
          simp only [List.mem_cons, List.not_mem_nil, or_false] at hz
          rcases hz with rfl | rfl
          · exact ⟨"java/lang/IllegalStateException", (by decide), hw _ wq_2_222, hn1.2.1⟩
          · exact ⟨"java/lang/IndexOutOfBoundsException", (by decide), hw _ wq_2_223, hn1.2.2⟩) rfl (by decide) (hw _ wq_3_83) (fw_N_use wn_3_96 hN) (fun x => ?_)
      refine fx_astore_n (pc' := 19) hF (lv' := [(3, .ref x), (0, .ref (g k0)), (1, .int x1), (2, .ref q)]) d_LW_read_18 rfl (by decide) rfl rfl ?_
      refine fx_iconst (pc' := 20) hF (v := Int32.ofNat 3) d_LW_read_19 rfl rfl ?_
      exact he I2 z _ _ rfl _ 1 6 (by decide) (by decide) d_LW_read_20 h
    | t + 4, ht, _, _ => exact absurd ht (by omega)
