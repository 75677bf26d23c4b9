theorem dX10_step_165 : decode cX10_step 165 = .ok (.getfield 68, 3) := by decide +kernel
theorem dX10_step_168 : decode cX10_step 168 = .ok (.bipush 11, 2) := by decide +kernel
theorem dX10_step_170 : decode cX10_step 170 = .ok (.aload_n 0, 1) := by decide +kernel
theorem dX10_step_171 : decode cX10_step 171 = .ok (.getfield 113, 3) := by decide +kernel
theorem dX10_step_174 : decode cX10_step 174 = .ok (.imul, 1) := by decide +kernel
theorem dX10_step_175 : decode cX10_step 175 = .ok (.iload_n 3, 1) := by decide +kernel
theorem dX10_step_176 : decode cX10_step 176 = .ok (.iadd, 1) := by decide +kernel
theorem dX10_step_177 : decode cX10_step 177 = .ok (.aload_n 0, 1) := by decide +kernel
theorem dX10_step_178 : decode cX10_step 178 = .ok (.getfield 92, 3) := by decide +kernel
theorem dX10_step_181 : decode cX10_step 181 = .ok (.iload_n 3, 1) := by decide +kernel
theorem dX10_step_182 : decode cX10_step 182 = .ok (.iaload, 1) := by decide +kernel
theorem dX10_step_183 : decode cX10_step 183 = .ok (.iastore, 1) := by decide +kernel
theorem dX10_step_184 : decode cX10_step 184 = .ok (.iinc 3 1, 3) := by decide +kernel
theorem dX10_step_187 : decode cX10_step 187 = .ok (.goto (-29), 3) := by decide +kernel
theorem dX10_step_190 : decode cX10_step 190 = .ok (.aload_n 0, 1) := by decide +kernel
theorem dX10_step_191 : decode cX10_step 191 = .ok (.getfield 68, 3) := by decide +kernel
theorem dX10_step_194 : decode cX10_step 194 = .ok (.bipush 11, 2) := by decide +kernel
theorem dX10_step_196 : decode cX10_step 196 = .ok (.aload_n 0, 1) := by decide +kernel
theorem dX10_step_197 : decode cX10_step 197 = .ok (.getfield 113, 3) := by decide +kernel
theorem dX10_step_200 : decode cX10_step 200 = .ok (.imul, 1) := by decide +kernel
theorem dX10_step_201 : decode cX10_step 201 = .ok (.bipush 9, 2) := by decide +kernel
theorem dX10_step_203 : decode cX10_step 203 = .ok (.iadd, 1) := by decide +kernel
theorem dX10_step_204 : decode cX10_step 204 = .ok (.aload_n 0, 1) := by decide +kernel
theorem dX10_step_205 : decode cX10_step 205 = .ok (.getfield 109, 3) := by decide +kernel
theorem dX10_step_208 : decode cX10_step 208 = .ok (.aload_n 0, 1) := by decide +kernel
theorem dX10_step_209 : decode cX10_step 209 = .ok (.getfield 65, 3) := by decide +kernel
theorem dX10_step_212 : decode cX10_step 212 = .ok (.aload_n 0, 1) := by decide +kernel
theorem dX10_step_213 : decode cX10_step 213 = .ok (.getfield 92, 3) := by decide +kernel
theorem dX10_step_216 : decode cX10_step 216 = .ok (.iconst 0, 1) := by decide +kernel
theorem dX10_step_217 : decode cX10_step 217 = .ok (.iaload, 1) := by decide +kernel
theorem dX10_step_218 : decode cX10_step 218 = .ok (.iconst 2, 1) := by decide +kernel
theorem dX10_step_219 : decode cX10_step 219 = .ok (.idiv, 1) := by decide +kernel
theorem dX10_step_220 : decode cX10_step 220 = .ok (.iaload, 1) := by decide +kernel
theorem dX10_step_221 : decode cX10_step 221 = .ok (.iadd, 1) := by decide +kernel
theorem dX10_step_222 : decode cX10_step 222 = .ok (.iastore, 1) := by decide +kernel
theorem dX10_step_223 : decode cX10_step 223 = .ok (.aload_n 0, 1) := by decide +kernel
theorem dX10_step_224 : decode cX10_step 224 = .ok (.getfield 68, 3) := by decide +kernel
theorem dX10_step_227 : decode cX10_step 227 = .ok (.bipush 11, 2) := by decide +kernel
theorem dX10_step_229 : decode cX10_step 229 = .ok (.aload_n 0, 1) := by decide +kernel
theorem dX10_step_230 : decode cX10_step 230 = .ok (.getfield 113, 3) := by decide +kernel
theorem dX10_step_233 : decode cX10_step 233 = .ok (.imul, 1) := by decide +kernel
theorem dX10_step_234 : decode cX10_step 234 = .ok (.bipush 10, 2) := by decide +kernel
theorem dX10_step_236 : decode cX10_step 236 = .ok (.iadd, 1) := by decide +kernel
theorem dX10_step_237 : decode cX10_step 237 = .ok (.aload_n 0, 1) := by decide +kernel
theorem dX10_step_238 : decode cX10_step 238 = .ok (.getfield 228, 3) := by decide +kernel
theorem dX10_step_241 : decode cX10_step 241 = .ok (.iastore, 1) := by decide +kernel
theorem dX10_step_242 : decode cX10_step 242 = .ok (.aload_n 0, 1) := by decide +kernel
theorem dX10_step_243 : decode cX10_step 243 = .ok (.dup, 1) := by decide +kernel
theorem dX10_step_244 : decode cX10_step 244 = .ok (.getfield 228, 3) := by decide +kernel
theorem dX10_step_247 : decode cX10_step 247 = .ok (.iconst 1, 1) := by decide +kernel
theorem dX10_step_248 : decode cX10_step 248 = .ok (.iadd, 1) := by decide +kernel
theorem dX10_step_249 : decode cX10_step 249 = .ok (.putfield 228, 3) := by decide +kernel
theorem dX10_step_252 : decode cX10_step 252 = .ok (.aload_n 0, 1) := by decide +kernel
theorem dX10_step_253 : decode cX10_step 253 = .ok (.dup, 1) := by decide +kernel
theorem dX10_step_254 : decode cX10_step 254 = .ok (.getfield 113, 3) := by decide +kernel
theorem dX10_step_257 : decode cX10_step 257 = .ok (.iconst 1, 1) := by decide +kernel
theorem dX10_step_258 : decode cX10_step 258 = .ok (.iadd, 1) := by decide +kernel
theorem dX10_step_259 : decode cX10_step 259 = .ok (.putfield 113, 3) := by decide +kernel
theorem dX10_step_262 : decode cX10_step 262 = .ok (.aload_n 0, 1) := by decide +kernel
theorem dX10_step_263 : decode cX10_step 263 = .ok (.getfield 92, 3) := by decide +kernel
theorem dX10_step_266 : decode cX10_step 266 = .ok (.iconst 0, 1) := by decide +kernel
theorem dX10_step_267 : decode cX10_step 267 = .ok (.iaload, 1) := by decide +kernel
theorem dX10_step_268 : decode cX10_step 268 = .ok (.istore_n 3, 1) := by decide +kernel
theorem dX10_step_269 : decode cX10_step 269 = .ok (.aload_n 0, 1) := by decide +kernel
theorem dX10_step_270 : decode cX10_step 270 = .ok (.getfield 22, 3) := by decide +kernel
theorem dX10_step_273 : decode cX10_step 273 = .ok (.iload_n 3, 1) := by decide +kernel
theorem dX10_step_274 : decode cX10_step 274 = .ok (.iaload, 1) := by decide +kernel
theorem dX10_step_275 : decode cX10_step 275 = .ok (.iconst 1, 1) := by decide +kernel
theorem dX10_step_276 : decode cX10_step 276 = .ok (.if_icmp .ne 49, 3) := by decide +kernel
theorem dX10_step_279 : decode cX10_step 279 = .ok (.aload_n 0, 1) := by decide +kernel
theorem dX10_step_280 : decode cX10_step 280 = .ok (.getfield 92, 3) := by decide +kernel
theorem dX10_step_283 : decode cX10_step 283 = .ok (.iconst 1, 1) := by decide +kernel
theorem dX10_step_284 : decode cX10_step 284 = .ok (.iaload, 1) := by decide +kernel
theorem dX10_step_285 : decode cX10_step 285 = .ok (.ifCond .ne 23, 3) := by decide +kernel
theorem dX10_step_288 : decode cX10_step 288 = .ok (.aload_n 0, 1) := by decide +kernel
theorem dX10_step_289 : decode cX10_step 289 = .ok (.iload_n 3, 1) := by decide +kernel
theorem dX10_step_290 : decode cX10_step 290 = .ok (.aload_n 0, 1) := by decide +kernel
theorem dX10_step_291 : decode cX10_step 291 = .ok (.getfield 92, 3) := by decide +kernel
theorem dX10_step_294 : decode cX10_step 294 = .ok (.iconst 2, 1) := by decide +kernel
theorem dX10_step_295 : decode cX10_step 295 = .ok (.iaload, 1) := by decide +kernel
theorem dX10_step_296 : decode cX10_step 296 = .ok (.aload_n 0, 1) := by decide +kernel
theorem dX10_step_297 : decode cX10_step 297 = .ok (.getfield 92, 3) := by decide +kernel
theorem dX10_step_300 : decode cX10_step 300 = .ok (.iconst 3, 1) := by decide +kernel
theorem dX10_step_301 : decode cX10_step 301 = .ok (.iaload, 1) := by decide +kernel
theorem dX10_step_302 : decode cX10_step 302 = .ok (.invokevirtual 234, 3) := by decide +kernel
theorem dX10_step_305 : decode cX10_step 305 = .ok (.goto 20, 3) := by decide +kernel
theorem dX10_step_308 : decode cX10_step 308 = .ok (.aload_n 0, 1) := by decide +kernel
theorem dX10_step_309 : decode cX10_step 309 = .ok (.iload_n 3, 1) := by decide +kernel
theorem dX10_step_310 : decode cX10_step 310 = .ok (.aload_n 0, 1) := by decide +kernel
theorem dX10_step_311 : decode cX10_step 311 = .ok (.getfield 92, 3) := by decide +kernel
theorem dX10_step_314 : decode cX10_step 314 = .ok (.iconst 2, 1) := by decide +kernel
theorem dX10_step_315 : decode cX10_step 315 = .ok (.iaload, 1) := by decide +kernel
theorem dX10_step_316 : decode cX10_step 316 = .ok (.aload_n 0, 1) := by decide +kernel
theorem dX10_step_317 : decode cX10_step 317 = .ok (.getfield 92, 3) := by decide +kernel
theorem dX10_step_320 : decode cX10_step 320 = .ok (.iconst 1, 1) := by decide +kernel
theorem dX10_step_321 : decode cX10_step 321 = .ok (.iaload, 1) := by decide +kernel
theorem dX10_step_322 : decode cX10_step 322 = .ok (.invokevirtual 238, 3) := by decide +kernel
theorem dX10_step_325 : decode cX10_step 325 = .ok (.iload_n 3, 1) := by decide +kernel
theorem dX10_step_326 : decode cX10_step 326 = .ok (.ireturn, 1) := by decide +kernel
theorem dX10_tells_0 : decode cX10_tells 0 = .ok (.iload_n 1, 1) := by decide +kernel
theorem dX10_tells_1 : decode cX10_tells 1 = .ok (.iconst 2, 1) := by decide +kernel
theorem dX10_tells_2 : decode cX10_tells 2 = .ok (.irem, 1) := by decide +kernel
theorem dX10_tells_3 : decode cX10_tells 3 = .ok (.istore 6, 2) := by decide +kernel
theorem dX10_tells_5 : decode cX10_tells 5 = .ok (.iconst 5, 1) := by decide +kernel
theorem dX10_tells_6 : decode cX10_tells 6 = .ok (.sipush 600, 3) := by decide +kernel
theorem dX10_tells_9 : decode cX10_tells 9 = .ok (.iload 6, 2) := by decide +kernel
theorem dX10_tells_11 : decode cX10_tells 11 = .ok (.imul, 1) := by decide +kernel
theorem dX10_tells_12 : decode cX10_tells 12 = .ok (.aload_n 0, 1) := by decide +kernel
theorem dX10_tells_13 : decode cX10_tells 13 = .ok (.getfield 77, 3) := by decide +kernel
theorem dX10_tells_16 : decode cX10_tells 16 = .ok (.iload 6, 2) := by decide +kernel
theorem dX10_tells_18 : decode cX10_tells 18 = .ok (.iaload, 1) := by decide +kernel
theorem dX10_tells_19 : decode cX10_tells 19 = .ok (.iadd, 1) := by decide +kernel
theorem dX10_tells_20 : decode cX10_tells 20 = .ok (.imul, 1) := by decide +kernel
theorem dX10_tells_21 : decode cX10_tells 21 = .ok (.istore 7, 2) := by decide +kernel
theorem dX10_tells_23 : decode cX10_tells 23 = .ok (.aload_n 0, 1) := by decide +kernel
theorem dX10_tells_24 : decode cX10_tells 24 = .ok (.getfield 71, 3) := by decide +kernel
theorem dX10_tells_27 : decode cX10_tells 27 = .ok (.iload 7, 2) := by decide +kernel
theorem dX10_tells_29 : decode cX10_tells 29 = .ok (.iload_n 1, 1) := by decide +kernel
theorem dX10_tells_30 : decode cX10_tells 30 = .ok (.iastore, 1) := by decide +kernel
theorem dX10_tells_31 : decode cX10_tells 31 = .ok (.aload_n 0, 1) := by decide +kernel
theorem dX10_tells_32 : decode cX10_tells 32 = .ok (.getfield 71, 3) := by decide +kernel
theorem dX10_tells_35 : decode cX10_tells 35 = .ok (.iload 7, 2) := by decide +kernel
theorem dX10_tells_37 : decode cX10_tells 37 = .ok (.iconst 1, 1) := by decide +kernel
theorem dX10_tells_38 : decode cX10_tells 38 = .ok (.iadd, 1) := by decide +kernel
theorem dX10_tells_39 : decode cX10_tells 39 = .ok (.iload_n 2, 1) := by decide +kernel
theorem dX10_tells_40 : decode cX10_tells 40 = .ok (.iastore, 1) := by decide +kernel
theorem dX10_tells_41 : decode cX10_tells 41 = .ok (.aload_n 0, 1) := by decide +kernel
theorem dX10_tells_42 : decode cX10_tells 42 = .ok (.getfield 71, 3) := by decide +kernel
theorem dX10_tells_45 : decode cX10_tells 45 = .ok (.iload 7, 2) := by decide +kernel
theorem dX10_tells_47 : decode cX10_tells 47 = .ok (.iconst 2, 1) := by decide +kernel
theorem dX10_tells_48 : decode cX10_tells 48 = .ok (.iadd, 1) := by decide +kernel
theorem dX10_tells_49 : decode cX10_tells 49 = .ok (.iload_n 3, 1) := by decide +kernel
theorem dX10_tells_50 : decode cX10_tells 50 = .ok (.iastore, 1) := by decide +kernel
theorem dX10_tells_51 : decode cX10_tells 51 = .ok (.aload_n 0, 1) := by decide +kernel
theorem dX10_tells_52 : decode cX10_tells 52 = .ok (.getfield 71, 3) := by decide +kernel
theorem dX10_tells_55 : decode cX10_tells 55 = .ok (.iload 7, 2) := by decide +kernel
theorem dX10_tells_57 : decode cX10_tells 57 = .ok (.iconst 3, 1) := by decide +kernel
theorem dX10_tells_58 : decode cX10_tells 58 = .ok (.iadd, 1) := by decide +kernel
theorem dX10_tells_59 : decode cX10_tells 59 = .ok (.iload 4, 2) := by decide +kernel
theorem dX10_tells_61 : decode cX10_tells 61 = .ok (.iastore, 1) := by decide +kernel
theorem dX10_tells_62 : decode cX10_tells 62 = .ok (.aload_n 0, 1) := by decide +kernel
theorem dX10_tells_63 : decode cX10_tells 63 = .ok (.getfield 71, 3) := by decide +kernel
theorem dX10_tells_66 : decode cX10_tells 66 = .ok (.iload 7, 2) := by decide +kernel
theorem dX10_tells_68 : decode cX10_tells 68 = .ok (.iconst 4, 1) := by decide +kernel
theorem dX10_tells_69 : decode cX10_tells 69 = .ok (.iadd, 1) := by decide +kernel
theorem dX10_tells_70 : decode cX10_tells 70 = .ok (.iload 5, 2) := by decide +kernel
theorem dX10_tells_72 : decode cX10_tells 72 = .ok (.iastore, 1) := by decide +kernel
theorem dX10_tells_73 : decode cX10_tells 73 = .ok (.aload_n 0, 1) := by decide +kernel
theorem dX10_tells_74 : decode cX10_tells 74 = .ok (.getfield 77, 3) := by decide +kernel
theorem dX10_tells_77 : decode cX10_tells 77 = .ok (.iload 6, 2) := by decide +kernel
theorem dX10_tells_79 : decode cX10_tells 79 = .ok (.dup2, 1) := by decide +kernel
theorem dX10_tells_80 : decode cX10_tells 80 = .ok (.iaload, 1) := by decide +kernel
theorem dX10_tells_81 : decode cX10_tells 81 = .ok (.iconst 1, 1) := by decide +kernel
theorem dX10_tells_82 : decode cX10_tells 82 = .ok (.iadd, 1) := by decide +kernel
theorem dX10_tells_83 : decode cX10_tells 83 = .ok (.iastore, 1) := by decide +kernel
theorem dX10_tells_84 : decode cX10_tells 84 = .ok (.return_, 1) := by decide +kernel
theorem dX10_tellsOldest_0 : decode cX10_tellsOldest 0 = .ok (.bipush 28, 2) := by decide +kernel
theorem dX10_tellsOldest_2 : decode cX10_tellsOldest 2 = .ok (.iload_n 1, 1) := by decide +kernel
theorem dX10_tellsOldest_3 : decode cX10_tellsOldest 3 = .ok (.imul, 1) := by decide +kernel
theorem dX10_tellsOldest_4 : decode cX10_tellsOldest 4 = .ok (.istore 4, 2) := by decide +kernel
theorem dX10_tellsOldest_6 : decode cX10_tellsOldest 6 = .ok (.aload_n 0, 1) := by decide +kernel
theorem dX10_tellsOldest_7 : decode cX10_tellsOldest 7 = .ok (.iload_n 1, 1) := by decide +kernel
theorem dX10_tellsOldest_8 : decode cX10_tellsOldest 8 = .ok (.aload_n 0, 1) := by decide +kernel
theorem dX10_tellsOldest_9 : decode cX10_tellsOldest 9 = .ok (.getfield 31, 3) := by decide +kernel
theorem dX10_tellsOldest_12 : decode cX10_tellsOldest 12 = .ok (.iload 4, 2) := by decide +kernel
theorem dX10_tellsOldest_14 : decode cX10_tellsOldest 14 = .ok (.iconst 1, 1) := by decide +kernel
theorem dX10_tellsOldest_15 : decode cX10_tellsOldest 15 = .ok (.iadd, 1) := by decide +kernel
theorem dX10_tellsOldest_16 : decode cX10_tellsOldest 16 = .ok (.iaload, 1) := by decide +kernel
theorem dX10_tellsOldest_17 : decode cX10_tellsOldest 17 = .ok (.aload_n 0, 1) := by decide +kernel
theorem dX10_tellsOldest_18 : decode cX10_tellsOldest 18 = .ok (.getfield 31, 3) := by decide +kernel
theorem dX10_tellsOldest_21 : decode cX10_tellsOldest 21 = .ok (.iload 4, 2) := by decide +kernel
theorem dX10_tellsOldest_23 : decode cX10_tellsOldest 23 = .ok (.iconst 0, 1) := by decide +kernel
theorem dX10_tellsOldest_24 : decode cX10_tellsOldest 24 = .ok (.iadd, 1) := by decide +kernel
theorem dX10_tellsOldest_25 : decode cX10_tellsOldest 25 = .ok (.iaload, 1) := by decide +kernel
theorem dX10_tellsOldest_26 : decode cX10_tellsOldest 26 = .ok (.iload_n 2, 1) := by decide +kernel
theorem dX10_tellsOldest_27 : decode cX10_tellsOldest 27 = .ok (.iload_n 3, 1) := by decide +kernel
theorem dX10_tellsOldest_28 : decode cX10_tellsOldest 28 = .ok (.invokevirtual 241, 3) := by decide +kernel
theorem dX10_tellsOldest_31 : decode cX10_tellsOldest 31 = .ok (.aload_n 0, 1) := by decide +kernel
theorem dX10_tellsOldest_32 : decode cX10_tellsOldest 32 = .ok (.getfield 28, 3) := by decide +kernel
theorem dX10_tellsOldest_35 : decode cX10_tellsOldest 35 = .ok (.iload_n 1, 1) := by decide +kernel
theorem dX10_tellsOldest_36 : decode cX10_tellsOldest 36 = .ok (.dup2, 1) := by decide +kernel
theorem dX10_tellsOldest_37 : decode cX10_tellsOldest 37 = .ok (.iaload, 1) := by decide +kernel
theorem dX10_tellsOldest_38 : decode cX10_tellsOldest 38 = .ok (.iconst 1, 1) := by decide +kernel
theorem dX10_tellsOldest_39 : decode cX10_tellsOldest 39 = .ok (.isub, 1) := by decide +kernel
theorem dX10_tellsOldest_40 : decode cX10_tellsOldest 40 = .ok (.iastore, 1) := by decide +kernel
theorem dX10_tellsOldest_41 : decode cX10_tellsOldest 41 = .ok (.iconst 0, 1) := by decide +kernel
theorem dX10_tellsOldest_42 : decode cX10_tellsOldest 42 = .ok (.istore 5, 2) := by decide +kernel
theorem dX10_tellsOldest_44 : decode cX10_tellsOldest 44 = .ok (.iload 5, 2) := by decide +kernel
theorem dX10_tellsOldest_46 : decode cX10_tellsOldest 46 = .ok (.bipush 7, 2) := by decide +kernel
theorem dX10_tellsOldest_48 : decode cX10_tellsOldest 48 = .ok (.aload_n 0, 1) := by decide +kernel
theorem dX10_tellsOldest_49 : decode cX10_tellsOldest 49 = .ok (.getfield 28, 3) := by decide +kernel
theorem dX10_tellsOldest_52 : decode cX10_tellsOldest 52 = .ok (.iload_n 1, 1) := by decide +kernel
theorem dX10_tellsOldest_53 : decode cX10_tellsOldest 53 = .ok (.iaload, 1) := by decide +kernel
theorem dX10_tellsOldest_54 : decode cX10_tellsOldest 54 = .ok (.imul, 1) := by decide +kernel
theorem dX10_tellsOldest_55 : decode cX10_tellsOldest 55 = .ok (.if_icmp .ge 32, 3) := by decide +kernel
theorem dX10_tellsOldest_58 : decode cX10_tellsOldest 58 = .ok (.aload_n 0, 1) := by decide +kernel
theorem dX10_tellsOldest_59 : decode cX10_tellsOldest 59 = .ok (.getfield 31, 3) := by decide +kernel
theorem dX10_tellsOldest_62 : decode cX10_tellsOldest 62 = .ok (.iload 4, 2) := by decide +kernel
theorem dX10_tellsOldest_64 : decode cX10_tellsOldest 64 = .ok (.iload 5, 2) := by decide +kernel
theorem dX10_tellsOldest_66 : decode cX10_tellsOldest 66 = .ok (.iadd, 1) := by decide +kernel
theorem dX10_tellsOldest_67 : decode cX10_tellsOldest 67 = .ok (.aload_n 0, 1) := by decide +kernel
theorem dX10_tellsOldest_68 : decode cX10_tellsOldest 68 = .ok (.getfield 31, 3) := by decide +kernel
theorem dX10_tellsOldest_71 : decode cX10_tellsOldest 71 = .ok (.iload 4, 2) := by decide +kernel
theorem dX10_tellsOldest_73 : decode cX10_tellsOldest 73 = .ok (.bipush 7, 2) := by decide +kernel
theorem dX10_tellsOldest_75 : decode cX10_tellsOldest 75 = .ok (.iadd, 1) := by decide +kernel
theorem dX10_tellsOldest_76 : decode cX10_tellsOldest 76 = .ok (.iload 5, 2) := by decide +kernel
theorem dX10_tellsOldest_78 : decode cX10_tellsOldest 78 = .ok (.iadd, 1) := by decide +kernel
theorem dX10_tellsOldest_79 : decode cX10_tellsOldest 79 = .ok (.iaload, 1) := by decide +kernel
theorem dX10_tellsOldest_80 : decode cX10_tellsOldest 80 = .ok (.iastore, 1) := by decide +kernel
theorem dX10_tellsOldest_81 : decode cX10_tellsOldest 81 = .ok (.iinc 5 1, 3) := by decide +kernel
theorem dX10_tellsOldest_84 : decode cX10_tellsOldest 84 = .ok (.goto (-40), 3) := by decide +kernel
theorem dX10_tellsOldest_87 : decode cX10_tellsOldest 87 = .ok (.aload_n 0, 1) := by decide +kernel
theorem dX10_tellsOldest_88 : decode cX10_tellsOldest 88 = .ok (.getfield 43, 3) := by decide +kernel
theorem dX10_tellsOldest_91 : decode cX10_tellsOldest 91 = .ok (.iload_n 1, 1) := by decide +kernel
theorem dX10_tellsOldest_92 : decode cX10_tellsOldest 92 = .ok (.iconst 0, 1) := by decide +kernel
theorem dX10_tellsOldest_93 : decode cX10_tellsOldest 93 = .ok (.iastore, 1) := by decide +kernel
theorem dX10_tellsOldest_94 : decode cX10_tellsOldest 94 = .ok (.aload_n 0, 1) := by decide +kernel
theorem dX10_tellsOldest_95 : decode cX10_tellsOldest 95 = .ok (.getfield 46, 3) := by decide +kernel
theorem dX10_tellsOldest_98 : decode cX10_tellsOldest 98 = .ok (.iload_n 1, 1) := by decide +kernel
theorem dX10_tellsOldest_99 : decode cX10_tellsOldest 99 = .ok (.iconst 0, 1) := by decide +kernel
theorem dX10_tellsOldest_100 : decode cX10_tellsOldest 100 = .ok (.iastore, 1) := by decide +kernel
theorem dX10_tellsOldest_101 : decode cX10_tellsOldest 101 = .ok (.return_, 1) := by decide +kernel
theorem dX10_breaks_0 : decode cX10_breaks 0 = .ok (.aload_n 0, 1) := by decide +kernel
theorem dX10_breaks_1 : decode cX10_breaks 1 = .ok (.getfield 22, 3) := by decide +kernel
theorem dX10_breaks_4 : decode cX10_breaks 4 = .ok (.iload_n 1, 1) := by decide +kernel
theorem dX10_breaks_5 : decode cX10_breaks 5 = .ok (.iconst 2, 1) := by decide +kernel
theorem dX10_breaks_6 : decode cX10_breaks 6 = .ok (.iastore, 1) := by decide +kernel
theorem dX10_breaks_7 : decode cX10_breaks 7 = .ok (.aload_n 0, 1) := by decide +kernel
theorem dX10_breaks_8 : decode cX10_breaks 8 = .ok (.getfield 28, 3) := by decide +kernel
theorem dX10_breaks_11 : decode cX10_breaks 11 = .ok (.iload_n 1, 1) := by decide +kernel
theorem dX10_breaks_12 : decode cX10_breaks 12 = .ok (.iaload, 1) := by decide +kernel
theorem dX10_breaks_13 : decode cX10_breaks 13 = .ok (.ifCond .le 13, 3) := by decide +kernel
theorem dX10_breaks_16 : decode cX10_breaks 16 = .ok (.aload_n 0, 1) := by decide +kernel
theorem dX10_breaks_17 : decode cX10_breaks 17 = .ok (.iload_n 1, 1) := by decide +kernel
theorem dX10_breaks_18 : decode cX10_breaks 18 = .ok (.iconst 2, 1) := by decide +kernel
theorem dX10_breaks_19 : decode cX10_breaks 19 = .ok (.iconst 0, 1) := by decide +kernel
theorem dX10_breaks_20 : decode cX10_breaks 20 = .ok (.invokevirtual 245, 3) := by decide +kernel
theorem dX10_breaks_23 : decode cX10_breaks 23 = .ok (.goto (-16), 3) := by decide +kernel
theorem dX10_breaks_26 : decode cX10_breaks 26 = .ok (.iconst 0, 1) := by decide +kernel
theorem dX10_breaks_27 : decode cX10_breaks 27 = .ok (.istore_n 2, 1) := by decide +kernel
theorem dX10_breaks_28 : decode cX10_breaks 28 = .ok (.iload_n 2, 1) := by decide +kernel
theorem dX10_breaks_29 : decode cX10_breaks 29 = .ok (.aload_n 0, 1) := by decide +kernel
theorem dX10_breaks_30 : decode cX10_breaks 30 = .ok (.getfield 37, 3) := by decide +kernel
theorem dX10_breaks_33 : decode cX10_breaks 33 = .ok (.iload_n 1, 1) := by decide +kernel
theorem dX10_breaks_34 : decode cX10_breaks 34 = .ok (.iaload, 1) := by decide +kernel
theorem dX10_breaks_35 : decode cX10_breaks 35 = .ok (.if_icmp .ge 27, 3) := by decide +kernel
theorem dX10_breaks_38 : decode cX10_breaks 38 = .ok (.aload_n 0, 1) := by decide +kernel
theorem dX10_breaks_39 : decode cX10_breaks 39 = .ok (.iload_n 1, 1) := by decide +kernel
theorem dX10_breaks_40 : decode cX10_breaks 40 = .ok (.iconst 5, 1) := by decide +kernel
theorem dX10_breaks_41 : decode cX10_breaks 41 = .ok (.iconst (-1), 1) := by decide +kernel
theorem dX10_breaks_42 : decode cX10_breaks 42 = .ok (.iconst 2, 1) := by decide +kernel
theorem dX10_breaks_43 : decode cX10_breaks 43 = .ok (.aload_n 0, 1) := by decide +kernel
theorem dX10_breaks_44 : decode cX10_breaks 44 = .ok (.getfield 40, 3) := by decide +kernel
theorem dX10_breaks_47 : decode cX10_breaks 47 = .ok (.iconst 3, 1) := by decide +kernel
theorem dX10_breaks_48 : decode cX10_breaks 48 = .ok (.iload_n 1, 1) := by decide +kernel
theorem dX10_breaks_49 : decode cX10_breaks 49 = .ok (.imul, 1) := by decide +kernel
theorem dX10_breaks_50 : decode cX10_breaks 50 = .ok (.iload_n 2, 1) := by decide +kernel
theorem dX10_breaks_51 : decode cX10_breaks 51 = .ok (.iadd, 1) := by decide +kernel
theorem dX10_breaks_52 : decode cX10_breaks 52 = .ok (.iaload, 1) := by decide +kernel
theorem dX10_breaks_53 : decode cX10_breaks 53 = .ok (.invokevirtual 241, 3) := by decide +kernel
theorem dX10_breaks_56 : decode cX10_breaks 56 = .ok (.iinc 2 1, 3) := by decide +kernel
theorem dX10_breaks_59 : decode cX10_breaks 59 = .ok (.goto (-31), 3) := by decide +kernel
theorem dX10_breaks_62 : decode cX10_breaks 62 = .ok (.aload_n 0, 1) := by decide +kernel
theorem dX10_breaks_63 : decode cX10_breaks 63 = .ok (.getfield 37, 3) := by decide +kernel
theorem dX10_breaks_66 : decode cX10_breaks 66 = .ok (.iload_n 1, 1) := by decide +kernel
theorem dX10_breaks_67 : decode cX10_breaks 67 = .ok (.iconst 0, 1) := by decide +kernel
theorem dX10_breaks_68 : decode cX10_breaks 68 = .ok (.iastore, 1) := by decide +kernel
theorem dX10_breaks_69 : decode cX10_breaks 69 = .ok (.return_, 1) := by decide +kernel
theorem dX10_sendsWork_0 : decode cX10_sendsWork 0 = .ok (.bipush 7, 2) := by decide +kernel
theorem dX10_sendsWork_2 : decode cX10_sendsWork 2 = .ok (.iconst 4, 1) := by decide +kernel
theorem dX10_sendsWork_3 : decode cX10_sendsWork 3 = .ok (.iload_n 1, 1) := by decide +kernel
theorem dX10_sendsWork_4 : decode cX10_sendsWork 4 = .ok (.imul, 1) := by decide +kernel
theorem dX10_sendsWork_5 : decode cX10_sendsWork 5 = .ok (.iload_n 2, 1) := by decide +kernel
theorem dX10_sendsWork_6 : decode cX10_sendsWork 6 = .ok (.iadd, 1) := by decide +kernel
theorem dX10_sendsWork_7 : decode cX10_sendsWork 7 = .ok (.imul, 1) := by decide +kernel
theorem dX10_sendsWork_8 : decode cX10_sendsWork 8 = .ok (.istore_n 3, 1) := by decide +kernel
theorem dX10_sendsWork_9 : decode cX10_sendsWork 9 = .ok (.aload_n 0, 1) := by decide +kernel
theorem dX10_sendsWork_10 : decode cX10_sendsWork 10 = .ok (.iload_n 1, 1) := by decide +kernel
theorem dX10_sendsWork_11 : decode cX10_sendsWork 11 = .ok (.iconst 0, 1) := by decide +kernel
theorem dX10_sendsWork_12 : decode cX10_sendsWork 12 = .ok (.aload_n 0, 1) := by decide +kernel
theorem dX10_sendsWork_13 : decode cX10_sendsWork 13 = .ok (.getfield 31, 3) := by decide +kernel
theorem dX10_sendsWork_16 : decode cX10_sendsWork 16 = .ok (.iload_n 3, 1) := by decide +kernel
theorem dX10_sendsWork_17 : decode cX10_sendsWork 17 = .ok (.iconst 0, 1) := by decide +kernel
theorem dX10_sendsWork_18 : decode cX10_sendsWork 18 = .ok (.iadd, 1) := by decide +kernel
theorem dX10_sendsWork_19 : decode cX10_sendsWork 19 = .ok (.iaload, 1) := by decide +kernel
theorem dX10_sendsWork_20 : decode cX10_sendsWork 20 = .ok (.iconst 0, 1) := by decide +kernel
theorem dX10_sendsWork_21 : decode cX10_sendsWork 21 = .ok (.iload_n 3, 1) := by decide +kernel
theorem dX10_sendsWork_22 : decode cX10_sendsWork 22 = .ok (.invokevirtual 248, 3) := by decide +kernel
theorem dX10_sendsWork_25 : decode cX10_sendsWork 25 = .ok (.return_, 1) := by decide +kernel
theorem dX10_again_0 : decode cX10_again 0 = .ok (.aload_n 0, 1) := by decide +kernel
theorem dX10_again_1 : decode cX10_again 1 = .ok (.getfield 43, 3) := by decide +kernel
theorem dX10_again_4 : decode cX10_again 4 = .ok (.iload_n 1, 1) := by decide +kernel
theorem dX10_again_5 : decode cX10_again 5 = .ok (.dup2, 1) := by decide +kernel
theorem dX10_again_6 : decode cX10_again 6 = .ok (.iaload, 1) := by decide +kernel
theorem dX10_again_7 : decode cX10_again 7 = .ok (.iconst 1, 1) := by decide +kernel
theorem dX10_again_8 : decode cX10_again 8 = .ok (.iadd, 1) := by decide +kernel
theorem dX10_again_9 : decode cX10_again 9 = .ok (.iastore, 1) := by decide +kernel
theorem dX10_again_10 : decode cX10_again 10 = .ok (.aload_n 0, 1) := by decide +kernel
theorem dX10_again_11 : decode cX10_again 11 = .ok (.getfield 43, 3) := by decide +kernel
theorem dX10_again_14 : decode cX10_again 14 = .ok (.iload_n 1, 1) := by decide +kernel
theorem dX10_again_15 : decode cX10_again 15 = .ok (.iaload, 1) := by decide +kernel
theorem dX10_again_16 : decode cX10_again 16 = .ok (.iconst 4, 1) := by decide +kernel
theorem dX10_again_17 : decode cX10_again 17 = .ok (.if_icmp .ne 16, 3) := by decide +kernel
theorem dX10_again_20 : decode cX10_again 20 = .ok (.aload_n 0, 1) := by decide +kernel
theorem dX10_again_21 : decode cX10_again 21 = .ok (.iload_n 1, 1) := by decide +kernel
theorem dX10_again_22 : decode cX10_again 22 = .ok (.iconst 3, 1) := by decide +kernel
theorem dX10_again_23 : decode cX10_again 23 = .ok (.iconst 0, 1) := by decide +kernel
theorem dX10_again_24 : decode cX10_again 24 = .ok (.invokevirtual 245, 3) := by decide +kernel
theorem dX10_again_27 : decode cX10_again 27 = .ok (.aload_n 0, 1) := by decide +kernel
theorem dX10_again_28 : decode cX10_again 28 = .ok (.iload_n 1, 1) := by decide +kernel
theorem dX10_again_29 : decode cX10_again 29 = .ok (.invokevirtual 223, 3) := by decide +kernel
theorem dX10_again_32 : decode cX10_again 32 = .ok (.return_, 1) := by decide +kernel
theorem dX10_again_33 : decode cX10_again 33 = .ok (.iconst 0, 1) := by decide +kernel
theorem dX10_again_34 : decode cX10_again 34 = .ok (.istore_n 2, 1) := by decide +kernel
theorem dX10_again_35 : decode cX10_again 35 = .ok (.iload_n 2, 1) := by decide +kernel
theorem dX10_again_36 : decode cX10_again 36 = .ok (.aload_n 0, 1) := by decide +kernel
theorem dX10_again_37 : decode cX10_again 37 = .ok (.getfield 28, 3) := by decide +kernel
theorem dX10_again_40 : decode cX10_again 40 = .ok (.iload_n 1, 1) := by decide +kernel
theorem dX10_again_41 : decode cX10_again 41 = .ok (.iaload, 1) := by decide +kernel
theorem dX10_again_42 : decode cX10_again 42 = .ok (.if_icmp .ge 15, 3) := by decide +kernel
theorem dX10_again_45 : decode cX10_again 45 = .ok (.aload_n 0, 1) := by decide +kernel
theorem dX10_again_46 : decode cX10_again 46 = .ok (.iload_n 1, 1) := by decide +kernel
theorem dX10_again_47 : decode cX10_again 47 = .ok (.iload_n 2, 1) := by decide +kernel
theorem dX10_again_48 : decode cX10_again 48 = .ok (.invokevirtual 251, 3) := by decide +kernel
theorem dX10_again_51 : decode cX10_again 51 = .ok (.iinc 2 1, 3) := by decide +kernel
theorem dX10_again_54 : decode cX10_again 54 = .ok (.goto (-19), 3) := by decide +kernel
theorem dX10_again_57 : decode cX10_again 57 = .ok (.return_, 1) := by decide +kernel
theorem dX10_requested_0 : decode cX10_requested 0 = .ok (.iload_n 2, 1) := by decide +kernel
theorem dX10_requested_1 : decode cX10_requested 1 = .ok (.aload_n 0, 1) := by decide +kernel
theorem dX10_requested_2 : decode cX10_requested 2 = .ok (.getfield 34, 3) := by decide +kernel
theorem dX10_requested_5 : decode cX10_requested 5 = .ok (.iload_n 1, 1) := by decide +kernel
theorem dX10_requested_6 : decode cX10_requested 6 = .ok (.iaload, 1) := by decide +kernel
theorem dX10_requested_7 : decode cX10_requested 7 = .ok (.if_icmp .le 36, 3) := by decide +kernel
theorem dX10_requested_10 : decode cX10_requested 10 = .ok (.aload_n 0, 1) := by decide +kernel
theorem dX10_requested_11 : decode cX10_requested 11 = .ok (.getfield 49, 3) := by decide +kernel
theorem dX10_requested_14 : decode cX10_requested 14 = .ok (.iload_n 1, 1) := by decide +kernel
theorem dX10_requested_15 : decode cX10_requested 15 = .ok (.baload, 1) := by decide +kernel
theorem dX10_requested_16 : decode cX10_requested 16 = .ok (.ifCond .ne 98, 3) := by decide +kernel
theorem dX10_requested_19 : decode cX10_requested 19 = .ok (.aload_n 0, 1) := by decide +kernel
theorem dX10_requested_20 : decode cX10_requested 20 = .ok (.iload_n 1, 1) := by decide +kernel
theorem dX10_requested_21 : decode cX10_requested 21 = .ok (.iconst 2, 1) := by decide +kernel
theorem dX10_requested_22 : decode cX10_requested 22 = .ok (.aload_n 0, 1) := by decide +kernel
theorem dX10_requested_23 : decode cX10_requested 23 = .ok (.getfield 34, 3) := by decide +kernel
theorem dX10_requested_26 : decode cX10_requested 26 = .ok (.iload_n 1, 1) := by decide +kernel
theorem dX10_requested_27 : decode cX10_requested 27 = .ok (.iaload, 1) := by decide +kernel
theorem dX10_requested_28 : decode cX10_requested 28 = .ok (.iconst 0, 1) := by decide +kernel
theorem dX10_requested_29 : decode cX10_requested 29 = .ok (.iconst (-1), 1) := by decide +kernel
theorem dX10_requested_30 : decode cX10_requested 30 = .ok (.invokevirtual 248, 3) := by decide +kernel
theorem dX10_requested_33 : decode cX10_requested 33 = .ok (.aload_n 0, 1) := by decide +kernel
theorem dX10_requested_34 : decode cX10_requested 34 = .ok (.getfield 49, 3) := by decide +kernel
theorem dX10_requested_37 : decode cX10_requested 37 = .ok (.iload_n 1, 1) := by decide +kernel
theorem dX10_requested_38 : decode cX10_requested 38 = .ok (.iconst 1, 1) := by decide +kernel
theorem dX10_requested_39 : decode cX10_requested 39 = .ok (.bastore, 1) := by decide +kernel
theorem dX10_requested_40 : decode cX10_requested 40 = .ok (.goto 74, 3) := by decide +kernel
theorem dX10_requested_43 : decode cX10_requested 43 = .ok (.iload_n 3, 1) := by decide +kernel
theorem dX10_requested_44 : decode cX10_requested 44 = .ok (.iconst 2, 1) := by decide +kernel
theorem dX10_requested_45 : decode cX10_requested 45 = .ok (.if_icmp .eq 17, 3) := by decide +kernel
theorem dX10_requested_48 : decode cX10_requested 48 = .ok (.iload_n 2, 1) := by decide +kernel
theorem dX10_requested_49 : decode cX10_requested 49 = .ok (.aload_n 0, 1) := by decide +kernel
theorem dX10_requested_50 : decode cX10_requested 50 = .ok (.getfield 34, 3) := by decide +kernel
theorem dX10_requested_53 : decode cX10_requested 53 = .ok (.iload_n 1, 1) := by decide +kernel
theorem dX10_requested_54 : decode cX10_requested 54 = .ok (.iaload, 1) := by decide +kernel
theorem dX10_requested_55 : decode cX10_requested 55 = .ok (.if_icmp .ne 17, 3) := by decide +kernel
theorem dX10_requested_58 : decode cX10_requested 58 = .ok (.iload_n 3, 1) := by decide +kernel
theorem dX10_requested_59 : decode cX10_requested 59 = .ok (.ifCond .eq 13, 3) := by decide +kernel
theorem dX10_requested_62 : decode cX10_requested 62 = .ok (.aload_n 0, 1) := by decide +kernel
theorem dX10_requested_63 : decode cX10_requested 63 = .ok (.iload_n 1, 1) := by decide +kernel
theorem dX10_requested_64 : decode cX10_requested 64 = .ok (.iload_n 2, 1) := by decide +kernel
theorem dX10_requested_65 : decode cX10_requested 65 = .ok (.iload_n 3, 1) := by decide +kernel
theorem dX10_requested_66 : decode cX10_requested 66 = .ok (.invokevirtual 254, 3) := by decide +kernel
theorem dX10_requested_69 : decode cX10_requested 69 = .ok (.goto 45, 3) := by decide +kernel
theorem dX10_requested_72 : decode cX10_requested 72 = .ok (.iload_n 2, 1) := by decide +kernel
theorem dX10_requested_73 : decode cX10_requested 73 = .ok (.aload_n 0, 1) := by decide +kernel
theorem dX10_requested_74 : decode cX10_requested 74 = .ok (.getfield 34, 3) := by decide +kernel
theorem dX10_requested_77 : decode cX10_requested 77 = .ok (.iload_n 1, 1) := by decide +kernel
theorem dX10_requested_78 : decode cX10_requested 78 = .ok (.iaload, 1) := by decide +kernel
theorem dX10_requested_79 : decode cX10_requested 79 = .ok (.if_icmp .ne 12, 3) := by decide +kernel
theorem dX10_requested_82 : decode cX10_requested 82 = .ok (.aload_n 0, 1) := by decide +kernel
theorem dX10_requested_83 : decode cX10_requested 83 = .ok (.iload_n 1, 1) := by decide +kernel
theorem dX10_requested_84 : decode cX10_requested 84 = .ok (.iload_n 2, 1) := by decide +kernel
theorem dX10_requested_85 : decode cX10_requested 85 = .ok (.invokevirtual 257, 3) := by decide +kernel
theorem dX10_requested_88 : decode cX10_requested 88 = .ok (.goto 26, 3) := by decide +kernel
theorem dX10_requested_91 : decode cX10_requested 91 = .ok (.iload_n 3, 1) := by decide +kernel
theorem dX10_requested_92 : decode cX10_requested 92 = .ok (.iconst 2, 1) := by decide +kernel
theorem dX10_requested_93 : decode cX10_requested 93 = .ok (.if_icmp .ge 15, 3) := by decide +kernel
theorem dX10_requested_96 : decode cX10_requested 96 = .ok (.aload_n 0, 1) := by decide +kernel
theorem dX10_requested_97 : decode cX10_requested 97 = .ok (.iload_n 1, 1) := by decide +kernel
theorem dX10_requested_98 : decode cX10_requested 98 = .ok (.iconst 1, 1) := by decide +kernel
theorem dX10_requested_99 : decode cX10_requested 99 = .ok (.iload_n 2, 1) := by decide +kernel
theorem dX10_requested_100 : decode cX10_requested 100 = .ok (.iconst 0, 1) := by decide +kernel
theorem dX10_requested_101 : decode cX10_requested 101 = .ok (.iconst (-1), 1) := by decide +kernel
theorem dX10_requested_102 : decode cX10_requested 102 = .ok (.invokevirtual 248, 3) := by decide +kernel
theorem dX10_requested_105 : decode cX10_requested 105 = .ok (.goto 9, 3) := by decide +kernel
theorem dX10_requested_108 : decode cX10_requested 108 = .ok (.aload_n 0, 1) := by decide +kernel
theorem dX10_requested_109 : decode cX10_requested 109 = .ok (.iload_n 1, 1) := by decide +kernel
theorem dX10_requested_110 : decode cX10_requested 110 = .ok (.iload_n 2, 1) := by decide +kernel
theorem dX10_requested_111 : decode cX10_requested 111 = .ok (.invokevirtual 259, 3) := by decide +kernel
theorem dX10_requested_114 : decode cX10_requested 114 = .ok (.return_, 1) := by decide +kernel
theorem dX10_tellsAgain_0 : decode cX10_tellsAgain 0 = .ok (.iconst 0, 1) := by decide +kernel
theorem dX10_tellsAgain_1 : decode cX10_tellsAgain 1 = .ok (.istore_n 3, 1) := by decide +kernel
theorem dX10_tellsAgain_2 : decode cX10_tellsAgain 2 = .ok (.iload_n 3, 1) := by decide +kernel
theorem dX10_tellsAgain_3 : decode cX10_tellsAgain 3 = .ok (.aload_n 0, 1) := by decide +kernel
theorem dX10_tellsAgain_4 : decode cX10_tellsAgain 4 = .ok (.getfield 53, 3) := by decide +kernel
theorem dX10_tellsAgain_7 : decode cX10_tellsAgain 7 = .ok (.iload_n 1, 1) := by decide +kernel
theorem dX10_tellsAgain_8 : decode cX10_tellsAgain 8 = .ok (.iaload, 1) := by decide +kernel
theorem dX10_tellsAgain_9 : decode cX10_tellsAgain 9 = .ok (.if_icmp .ge 47, 3) := by decide +kernel
theorem dX10_tellsAgain_12 : decode cX10_tellsAgain 12 = .ok (.aload_n 0, 1) := by decide +kernel
theorem dX10_tellsAgain_13 : decode cX10_tellsAgain 13 = .ok (.getfield 56, 3) := by decide +kernel
theorem dX10_tellsAgain_16 : decode cX10_tellsAgain 16 = .ok (.iconst 4, 1) := by decide +kernel
theorem dX10_tellsAgain_17 : decode cX10_tellsAgain 17 = .ok (.iload_n 1, 1) := by decide +kernel
theorem dX10_tellsAgain_18 : decode cX10_tellsAgain 18 = .ok (.imul, 1) := by decide +kernel
theorem dX10_tellsAgain_19 : decode cX10_tellsAgain 19 = .ok (.iconst 2, 1) := by decide +kernel
theorem dX10_tellsAgain_20 : decode cX10_tellsAgain 20 = .ok (.iload_n 3, 1) := by decide +kernel
theorem dX10_tellsAgain_21 : decode cX10_tellsAgain 21 = .ok (.imul, 1) := by decide +kernel
theorem dX10_tellsAgain_22 : decode cX10_tellsAgain 22 = .ok (.iadd, 1) := by decide +kernel
theorem dX10_tellsAgain_23 : decode cX10_tellsAgain 23 = .ok (.iaload, 1) := by decide +kernel
theorem dX10_tellsAgain_24 : decode cX10_tellsAgain 24 = .ok (.iload_n 2, 1) := by decide +kernel
theorem dX10_tellsAgain_25 : decode cX10_tellsAgain 25 = .ok (.if_icmp .ne 25, 3) := by decide +kernel
theorem dX10_tellsAgain_28 : decode cX10_tellsAgain 28 = .ok (.aload_n 0, 1) := by decide +kernel
theorem dX10_tellsAgain_29 : decode cX10_tellsAgain 29 = .ok (.iload_n 1, 1) := by decide +kernel
theorem dX10_tellsAgain_30 : decode cX10_tellsAgain 30 = .ok (.iconst 1, 1) := by decide +kernel
theorem dX10_tellsAgain_31 : decode cX10_tellsAgain 31 = .ok (.iload_n 2, 1) := by decide +kernel
theorem dX10_tellsAgain_32 : decode cX10_tellsAgain 32 = .ok (.aload_n 0, 1) := by decide +kernel
theorem dX10_tellsAgain_33 : decode cX10_tellsAgain 33 = .ok (.getfield 56, 3) := by decide +kernel
theorem dX10_tellsAgain_36 : decode cX10_tellsAgain 36 = .ok (.iconst 4, 1) := by decide +kernel
theorem dX10_tellsAgain_37 : decode cX10_tellsAgain 37 = .ok (.iload_n 1, 1) := by decide +kernel
theorem dX10_tellsAgain_38 : decode cX10_tellsAgain 38 = .ok (.imul, 1) := by decide +kernel
theorem dX10_tellsAgain_39 : decode cX10_tellsAgain 39 = .ok (.iconst 2, 1) := by decide +kernel
theorem dX10_tellsAgain_40 : decode cX10_tellsAgain 40 = .ok (.iload_n 3, 1) := by decide +kernel
theorem dX10_tellsAgain_41 : decode cX10_tellsAgain 41 = .ok (.imul, 1) := by decide +kernel
theorem dX10_tellsAgain_42 : decode cX10_tellsAgain 42 = .ok (.iadd, 1) := by decide +kernel
theorem dX10_tellsAgain_43 : decode cX10_tellsAgain 43 = .ok (.iconst 1, 1) := by decide +kernel
theorem dX10_tellsAgain_44 : decode cX10_tellsAgain 44 = .ok (.iadd, 1) := by decide +kernel
theorem dX10_tellsAgain_45 : decode cX10_tellsAgain 45 = .ok (.iaload, 1) := by decide +kernel
theorem dX10_tellsAgain_46 : decode cX10_tellsAgain 46 = .ok (.iconst (-1), 1) := by decide +kernel
theorem dX10_tellsAgain_47 : decode cX10_tellsAgain 47 = .ok (.invokevirtual 248, 3) := by decide +kernel
theorem dX10_tellsAgain_50 : decode cX10_tellsAgain 50 = .ok (.iinc 3 1, 3) := by decide +kernel
theorem dX10_tellsAgain_53 : decode cX10_tellsAgain 53 = .ok (.goto (-51), 3) := by decide +kernel
theorem dX10_tellsAgain_56 : decode cX10_tellsAgain 56 = .ok (.return_, 1) := by decide +kernel
theorem dX10_receives_0 : decode cX10_receives 0 = .ok (.aload_n 0, 1) := by decide +kernel
theorem dX10_receives_1 : decode cX10_receives 1 = .ok (.getfield 37, 3) := by decide +kernel
theorem dX10_receives_4 : decode cX10_receives 4 = .ok (.iload_n 1, 1) := by decide +kernel
theorem dX10_receives_5 : decode cX10_receives 5 = .ok (.iaload, 1) := by decide +kernel
theorem dX10_receives_6 : decode cX10_receives 6 = .ok (.ifCond .ne 13, 3) := by decide +kernel
theorem dX10_receives_9 : decode cX10_receives 9 = .ok (.aload_n 0, 1) := by decide +kernel
theorem dX10_receives_10 : decode cX10_receives 10 = .ok (.iload_n 1, 1) := by decide +kernel
theorem dX10_receives_11 : decode cX10_receives 11 = .ok (.iconst 3, 1) := by decide +kernel
theorem dX10_receives_12 : decode cX10_receives 12 = .ok (.iload_n 2, 1) := by decide +kernel
theorem dX10_receives_13 : decode cX10_receives 13 = .ok (.iconst 0, 1) := by decide +kernel
theorem dX10_receives_14 : decode cX10_receives 14 = .ok (.iconst (-1), 1) := by decide +kernel
theorem dX10_receives_15 : decode cX10_receives 15 = .ok (.invokevirtual 248, 3) := by decide +kernel
theorem dX10_receives_18 : decode cX10_receives 18 = .ok (.return_, 1) := by decide +kernel
theorem dX10_receives_19 : decode cX10_receives 19 = .ok (.aload_n 0, 1) := by decide +kernel
theorem dX10_receives_20 : decode cX10_receives 20 = .ok (.getfield 92, 3) := by decide +kernel
theorem dX10_receives_23 : decode cX10_receives 23 = .ok (.bipush 6, 2) := by decide +kernel
theorem dX10_receives_25 : decode cX10_receives 25 = .ok (.iaload, 1) := by decide +kernel
theorem dX10_receives_26 : decode cX10_receives 26 = .ok (.istore_n 3, 1) := by decide +kernel
theorem dX10_receives_27 : decode cX10_receives 27 = .ok (.aload_n 0, 1) := by decide +kernel
theorem dX10_receives_28 : decode cX10_receives 28 = .ok (.getfield 7, 3) := by decide +kernel
theorem dX10_receives_31 : decode cX10_receives 31 = .ok (.bipush 12, 2) := by decide +kernel
theorem dX10_receives_33 : decode cX10_receives 33 = .ok (.iload_n 1, 1) := by decide +kernel
theorem dX10_receives_34 : decode cX10_receives 34 = .ok (.iconst 2, 1) := by decide +kernel
theorem dX10_receives_35 : decode cX10_receives 35 = .ok (.irem, 1) := by decide +kernel
theorem dX10_receives_36 : decode cX10_receives 36 = .ok (.imul, 1) := by decide +kernel
theorem dX10_receives_37 : decode cX10_receives 37 = .ok (.aload_n 0, 1) := by decide +kernel
theorem dX10_receives_38 : decode cX10_receives 38 = .ok (.getfield 40, 3) := by decide +kernel
theorem dX10_receives_41 : decode cX10_receives 41 = .ok (.iconst 3, 1) := by decide +kernel
theorem dX10_receives_42 : decode cX10_receives 42 = .ok (.iload_n 1, 1) := by decide +kernel
theorem dX10_receives_43 : decode cX10_receives 43 = .ok (.imul, 1) := by decide +kernel
theorem dX10_receives_44 : decode cX10_receives 44 = .ok (.iaload, 1) := by decide +kernel
theorem dX10_receives_45 : decode cX10_receives 45 = .ok (.iadd, 1) := by decide +kernel
theorem dX10_receives_46 : decode cX10_receives 46 = .ok (.iload_n 3, 1) := by decide +kernel
theorem dX10_receives_47 : decode cX10_receives 47 = .ok (.iastore, 1) := by decide +kernel
theorem dX10_receives_48 : decode cX10_receives 48 = .ok (.aload_n 0, 1) := by decide +kernel
theorem dX10_receives_49 : decode cX10_receives 49 = .ok (.getfield 37, 3) := by decide +kernel
theorem dX10_receives_52 : decode cX10_receives 52 = .ok (.iload_n 1, 1) := by decide +kernel
theorem dX10_receives_53 : decode cX10_receives 53 = .ok (.dup2, 1) := by decide +kernel
theorem dX10_receives_54 : decode cX10_receives 54 = .ok (.iaload, 1) := by decide +kernel
theorem dX10_receives_55 : decode cX10_receives 55 = .ok (.iconst 1, 1) := by decide +kernel
theorem dX10_receives_56 : decode cX10_receives 56 = .ok (.isub, 1) := by decide +kernel
theorem dX10_receives_57 : decode cX10_receives 57 = .ok (.iastore, 1) := by decide +kernel
theorem dX10_receives_58 : decode cX10_receives 58 = .ok (.iconst 0, 1) := by decide +kernel
theorem dX10_receives_59 : decode cX10_receives 59 = .ok (.istore 4, 2) := by decide +kernel
theorem dX10_receives_61 : decode cX10_receives 61 = .ok (.iload 4, 2) := by decide +kernel
theorem dX10_receives_63 : decode cX10_receives 63 = .ok (.aload_n 0, 1) := by decide +kernel
theorem dX10_receives_64 : decode cX10_receives 64 = .ok (.getfield 37, 3) := by decide +kernel
theorem dX10_receives_67 : decode cX10_receives 67 = .ok (.iload_n 1, 1) := by decide +kernel
theorem dX10_receives_68 : decode cX10_receives 68 = .ok (.iaload, 1) := by decide +kernel
theorem dX10_receives_69 : decode cX10_receives 69 = .ok (.if_icmp .ge 33, 3) := by decide +kernel
theorem dX10_receives_72 : decode cX10_receives 72 = .ok (.aload_n 0, 1) := by decide +kernel
theorem dX10_receives_73 : decode cX10_receives 73 = .ok (.getfield 40, 3) := by decide +kernel
theorem dX10_receives_76 : decode cX10_receives 76 = .ok (.iconst 3, 1) := by decide +kernel
theorem dX10_receives_77 : decode cX10_receives 77 = .ok (.iload_n 1, 1) := by decide +kernel
theorem dX10_receives_78 : decode cX10_receives 78 = .ok (.imul, 1) := by decide +kernel
theorem dX10_receives_79 : decode cX10_receives 79 = .ok (.iload 4, 2) := by decide +kernel
theorem dX10_receives_81 : decode cX10_receives 81 = .ok (.iadd, 1) := by decide +kernel
theorem dX10_receives_82 : decode cX10_receives 82 = .ok (.aload_n 0, 1) := by decide +kernel
theorem dX10_receives_83 : decode cX10_receives 83 = .ok (.getfield 40, 3) := by decide +kernel
theorem dX10_receives_86 : decode cX10_receives 86 = .ok (.iconst 3, 1) := by decide +kernel
theorem dX10_receives_87 : decode cX10_receives 87 = .ok (.iload_n 1, 1) := by decide +kernel
theorem dX10_receives_88 : decode cX10_receives 88 = .ok (.imul, 1) := by decide +kernel
theorem dX10_receives_89 : decode cX10_receives 89 = .ok (.iload 4, 2) := by decide +kernel
theorem dX10_receives_91 : decode cX10_receives 91 = .ok (.iadd, 1) := by decide +kernel
theorem dX10_receives_92 : decode cX10_receives 92 = .ok (.iconst 1, 1) := by decide +kernel
theorem dX10_receives_93 : decode cX10_receives 93 = .ok (.iadd, 1) := by decide +kernel
theorem dX10_receives_94 : decode cX10_receives 94 = .ok (.iaload, 1) := by decide +kernel
theorem dX10_receives_95 : decode cX10_receives 95 = .ok (.iastore, 1) := by decide +kernel
theorem dX10_receives_96 : decode cX10_receives 96 = .ok (.iinc 4 1, 3) := by decide +kernel
theorem dX10_receives_99 : decode cX10_receives 99 = .ok (.goto (-38), 3) := by decide +kernel
theorem dX10_receives_102 : decode cX10_receives 102 = .ok (.aload_n 0, 1) := by decide +kernel
theorem dX10_receives_103 : decode cX10_receives 103 = .ok (.iload_n 1, 1) := by decide +kernel
theorem dX10_receives_104 : decode cX10_receives 104 = .ok (.iconst 5, 1) := by decide +kernel
theorem dX10_receives_105 : decode cX10_receives 105 = .ok (.iload_n 2, 1) := by decide +kernel
theorem dX10_receives_106 : decode cX10_receives 106 = .ok (.iconst 0, 1) := by decide +kernel
theorem dX10_receives_107 : decode cX10_receives 107 = .ok (.iload_n 3, 1) := by decide +kernel
theorem dX10_receives_108 : decode cX10_receives 108 = .ok (.invokevirtual 241, 3) := by decide +kernel
theorem dX10_receives_111 : decode cX10_receives 111 = .ok (.aload_n 0, 1) := by decide +kernel
theorem dX10_receives_112 : decode cX10_receives 112 = .ok (.iload_n 1, 1) := by decide +kernel
theorem dX10_receives_113 : decode cX10_receives 113 = .ok (.iload_n 2, 1) := by decide +kernel
theorem dX10_receives_114 : decode cX10_receives 114 = .ok (.iconst 0, 1) := by decide +kernel
theorem dX10_receives_115 : decode cX10_receives 115 = .ok (.invokevirtual 262, 3) := by decide +kernel
theorem dX10_receives_118 : decode cX10_receives 118 = .ok (.return_, 1) := by decide +kernel
theorem dX10_passes_0 : decode cX10_passes 0 = .ok (.aload_n 0, 1) := by decide +kernel
theorem dX10_passes_1 : decode cX10_passes 1 = .ok (.getfield 34, 3) := by decide +kernel
theorem dX10_passes_4 : decode cX10_passes 4 = .ok (.iload_n 1, 1) := by decide +kernel
theorem dX10_passes_5 : decode cX10_passes 5 = .ok (.iload_n 2, 1) := by decide +kernel
theorem dX10_passes_6 : decode cX10_passes 6 = .ok (.iconst 1, 1) := by decide +kernel
theorem dX10_passes_7 : decode cX10_passes 7 = .ok (.iadd, 1) := by decide +kernel
theorem dX10_passes_8 : decode cX10_passes 8 = .ok (.iastore, 1) := by decide +kernel
theorem dX10_passes_9 : decode cX10_passes 9 = .ok (.aload_n 0, 1) := by decide +kernel
theorem dX10_passes_10 : decode cX10_passes 10 = .ok (.getfield 49, 3) := by decide +kernel
theorem dX10_passes_13 : decode cX10_passes 13 = .ok (.iload_n 1, 1) := by decide +kernel
theorem dX10_passes_14 : decode cX10_passes 14 = .ok (.iconst 0, 1) := by decide +kernel
theorem dX10_passes_15 : decode cX10_passes 15 = .ok (.bastore, 1) := by decide +kernel
theorem dX10_passes_16 : decode cX10_passes 16 = .ok (.aload_n 0, 1) := by decide +kernel
theorem dX10_passes_17 : decode cX10_passes 17 = .ok (.iload_n 1, 1) := by decide +kernel
theorem dX10_passes_18 : decode cX10_passes 18 = .ok (.iconst 1, 1) := by decide +kernel
theorem dX10_passes_19 : decode cX10_passes 19 = .ok (.iload_n 2, 1) := by decide +kernel
theorem dX10_passes_20 : decode cX10_passes 20 = .ok (.iload_n 3, 1) := by decide +kernel
theorem dX10_passes_21 : decode cX10_passes 21 = .ok (.iconst (-1), 1) := by decide +kernel
theorem dX10_passes_22 : decode cX10_passes 22 = .ok (.invokevirtual 248, 3) := by decide +kernel
theorem dX10_passes_25 : decode cX10_passes 25 = .ok (.return_, 1) := by decide +kernel
theorem dX10_reasonOf_0 : decode cX10_reasonOf 0 = .ok (.iload_n 3, 1) := by decide +kernel
theorem dX10_reasonOf_1 : decode cX10_reasonOf 1 = .ok (.iconst 1, 1) := by decide +kernel
theorem dX10_reasonOf_2 : decode cX10_reasonOf 2 = .ok (.if_icmp .ne 7, 3) := by decide +kernel
theorem dX10_reasonOf_5 : decode cX10_reasonOf 5 = .ok (.iconst 2, 1) := by decide +kernel
theorem dX10_reasonOf_6 : decode cX10_reasonOf 6 = .ok (.goto 13, 3) := by decide +kernel
theorem dX10_reasonOf_9 : decode cX10_reasonOf 9 = .ok (.iload_n 3, 1) := by decide +kernel
theorem dX10_reasonOf_10 : decode cX10_reasonOf 10 = .ok (.iconst 2, 1) := by decide +kernel
theorem dX10_reasonOf_11 : decode cX10_reasonOf 11 = .ok (.if_icmp .ne 7, 3) := by decide +kernel
theorem dX10_reasonOf_14 : decode cX10_reasonOf 14 = .ok (.iconst 1, 1) := by decide +kernel
theorem dX10_reasonOf_15 : decode cX10_reasonOf 15 = .ok (.goto 4, 3) := by decide +kernel
theorem dX10_reasonOf_18 : decode cX10_reasonOf 18 = .ok (.iconst 4, 1) := by decide +kernel
theorem dX10_reasonOf_19 : decode cX10_reasonOf 19 = .ok (.istore 4, 2) := by decide +kernel
theorem dX10_reasonOf_21 : decode cX10_reasonOf 21 = .ok (.aload_n 0, 1) := by decide +kernel
theorem dX10_reasonOf_22 : decode cX10_reasonOf 22 = .ok (.getfield 16, 3) := by decide +kernel
theorem dX10_reasonOf_25 : decode cX10_reasonOf 25 = .ok (.iload_n 1, 1) := by decide +kernel
theorem dX10_reasonOf_26 : decode cX10_reasonOf 26 = .ok (.iaload, 1) := by decide +kernel
theorem dX10_reasonOf_27 : decode cX10_reasonOf 27 = .ok (.ifCond .ne 7, 3) := by decide +kernel
theorem dX10_reasonOf_30 : decode cX10_reasonOf 30 = .ok (.iconst 1, 1) := by decide +kernel
theorem dX10_reasonOf_31 : decode cX10_reasonOf 31 = .ok (.goto 34, 3) := by decide +kernel
theorem dX10_reasonOf_34 : decode cX10_reasonOf 34 = .ok (.iload_n 2, 1) := by decide +kernel
theorem dX10_reasonOf_35 : decode cX10_reasonOf 35 = .ok (.aload_n 0, 1) := by decide +kernel
theorem dX10_reasonOf_36 : decode cX10_reasonOf 36 = .ok (.getfield 16, 3) := by decide +kernel
theorem dX10_reasonOf_39 : decode cX10_reasonOf 39 = .ok (.iload_n 1, 1) := by decide +kernel
theorem dX10_reasonOf_40 : decode cX10_reasonOf 40 = .ok (.iaload, 1) := by decide +kernel
theorem dX10_reasonOf_41 : decode cX10_reasonOf 41 = .ok (.if_icmp .lt 7, 3) := by decide +kernel
theorem dX10_reasonOf_44 : decode cX10_reasonOf 44 = .ok (.iconst 2, 1) := by decide +kernel
theorem dX10_reasonOf_45 : decode cX10_reasonOf 45 = .ok (.goto 20, 3) := by decide +kernel
theorem dX10_reasonOf_48 : decode cX10_reasonOf 48 = .ok (.aload_n 0, 1) := by decide +kernel
theorem dX10_reasonOf_49 : decode cX10_reasonOf 49 = .ok (.getfield 19, 3) := by decide +kernel
theorem dX10_reasonOf_52 : decode cX10_reasonOf 52 = .ok (.iload_n 1, 1) := by decide +kernel
theorem dX10_reasonOf_53 : decode cX10_reasonOf 53 = .ok (.iaload, 1) := by decide +kernel
theorem dX10_reasonOf_54 : decode cX10_reasonOf 54 = .ok (.iload 4, 2) := by decide +kernel
theorem dX10_reasonOf_56 : decode cX10_reasonOf 56 = .ok (.iand, 1) := by decide +kernel
theorem dX10_reasonOf_57 : decode cX10_reasonOf 57 = .ok (.ifCond .ne 7, 3) := by decide +kernel
theorem dX10_reasonOf_60 : decode cX10_reasonOf 60 = .ok (.iconst 3, 1) := by decide +kernel
theorem dX10_reasonOf_61 : decode cX10_reasonOf 61 = .ok (.goto 4, 3) := by decide +kernel
theorem dX10_reasonOf_64 : decode cX10_reasonOf 64 = .ok (.iconst 0, 1) := by decide +kernel
theorem dX10_reasonOf_65 : decode cX10_reasonOf 65 = .ok (.ireturn, 1) := by decide +kernel
theorem dX10_accesses_0 : decode cX10_accesses 0 = .ok (.iconst 4, 1) := by decide +kernel
theorem dX10_accesses_1 : decode cX10_accesses 1 = .ok (.iload_n 1, 1) := by decide +kernel
theorem dX10_accesses_2 : decode cX10_accesses 2 = .ok (.iconst 2, 1) := by decide +kernel
theorem dX10_accesses_3 : decode cX10_accesses 3 = .ok (.irem, 1) := by decide +kernel
theorem dX10_accesses_4 : decode cX10_accesses 4 = .ok (.imul, 1) := by decide +kernel
theorem dX10_accesses_5 : decode cX10_accesses 5 = .ok (.aload_n 0, 1) := by decide +kernel
theorem dX10_accesses_6 : decode cX10_accesses 6 = .ok (.getfield 92, 3) := by decide +kernel
theorem dX10_accesses_9 : decode cX10_accesses 9 = .ok (.iconst 4, 1) := by decide +kernel
theorem dX10_accesses_10 : decode cX10_accesses 10 = .ok (.iaload, 1) := by decide +kernel
theorem dX10_accesses_11 : decode cX10_accesses 11 = .ok (.iadd, 1) := by decide +kernel
theorem dX10_accesses_12 : decode cX10_accesses 12 = .ok (.istore 4, 2) := by decide +kernel
theorem dX10_accesses_14 : decode cX10_accesses 14 = .ok (.aload_n 0, 1) := by decide +kernel
theorem dX10_accesses_15 : decode cX10_accesses 15 = .ok (.iload 4, 2) := by decide +kernel
theorem dX10_accesses_17 : decode cX10_accesses 17 = .ok (.aload_n 0, 1) := by decide +kernel
theorem dX10_accesses_18 : decode cX10_accesses 18 = .ok (.getfield 92, 3) := by decide +kernel
theorem dX10_accesses_21 : decode cX10_accesses 21 = .ok (.iconst 5, 1) := by decide +kernel
theorem dX10_accesses_22 : decode cX10_accesses 22 = .ok (.iaload, 1) := by decide +kernel
theorem dX10_accesses_23 : decode cX10_accesses 23 = .ok (.iload_n 3, 1) := by decide +kernel
theorem dX10_accesses_24 : decode cX10_accesses 24 = .ok (.invokevirtual 265, 3) := by decide +kernel
theorem dX10_accesses_27 : decode cX10_accesses 27 = .ok (.istore 5, 2) := by decide +kernel
theorem dX10_accesses_29 : decode cX10_accesses 29 = .ok (.iload 5, 2) := by decide +kernel
theorem dX10_accesses_31 : decode cX10_accesses 31 = .ok (.ifCond .le 19, 3) := by decide +kernel
theorem dX10_accesses_34 : decode cX10_accesses 34 = .ok (.aload_n 0, 1) := by decide +kernel
theorem dX10_accesses_35 : decode cX10_accesses 35 = .ok (.iload_n 1, 1) := by decide +kernel
theorem dX10_accesses_36 : decode cX10_accesses 36 = .ok (.iconst 4, 1) := by decide +kernel
theorem dX10_accesses_37 : decode cX10_accesses 37 = .ok (.iload_n 2, 1) := by decide +kernel
theorem dX10_accesses_38 : decode cX10_accesses 38 = .ok (.iload 5, 2) := by decide +kernel
theorem dX10_accesses_40 : decode cX10_accesses 40 = .ok (.iconst (-1), 1) := by decide +kernel
theorem dX10_accesses_41 : decode cX10_accesses 41 = .ok (.invokevirtual 248, 3) := by decide +kernel
theorem dX10_accesses_44 : decode cX10_accesses 44 = .ok (.aload_n 0, 1) := by decide +kernel
theorem dX10_accesses_45 : decode cX10_accesses 45 = .ok (.iload_n 1, 1) := by decide +kernel
theorem dX10_accesses_46 : decode cX10_accesses 46 = .ok (.invokevirtual 223, 3) := by decide +kernel
theorem dX10_accesses_49 : decode cX10_accesses 49 = .ok (.return_, 1) := by decide +kernel
theorem dX10_accesses_50 : decode cX10_accesses 50 = .ok (.bipush 12, 2) := by decide +kernel
theorem dX10_accesses_52 : decode cX10_accesses 52 = .ok (.iload_n 1, 1) := by decide +kernel
theorem dX10_accesses_53 : decode cX10_accesses 53 = .ok (.iconst 2, 1) := by decide +kernel
theorem dX10_accesses_54 : decode cX10_accesses 54 = .ok (.irem, 1) := by decide +kernel
theorem dX10_accesses_55 : decode cX10_accesses 55 = .ok (.imul, 1) := by decide +kernel
theorem dX10_accesses_56 : decode cX10_accesses 56 = .ok (.aload_n 0, 1) := by decide +kernel
theorem dX10_accesses_57 : decode cX10_accesses 57 = .ok (.getfield 13, 3) := by decide +kernel
theorem dX10_accesses_60 : decode cX10_accesses 60 = .ok (.iload 4, 2) := by decide +kernel
theorem dX10_accesses_62 : decode cX10_accesses 62 = .ok (.iaload, 1) := by decide +kernel
theorem dX10_accesses_63 : decode cX10_accesses 63 = .ok (.iadd, 1) := by decide +kernel
theorem dX10_accesses_64 : decode cX10_accesses 64 = .ok (.aload_n 0, 1) := by decide +kernel
theorem dX10_accesses_65 : decode cX10_accesses 65 = .ok (.getfield 92, 3) := by decide +kernel
theorem dX10_accesses_68 : decode cX10_accesses 68 = .ok (.iconst 5, 1) := by decide +kernel
theorem dX10_accesses_69 : decode cX10_accesses 69 = .ok (.iaload, 1) := by decide +kernel
theorem dX10_accesses_70 : decode cX10_accesses 70 = .ok (.iadd, 1) := by decide +kernel
theorem dX10_accesses_71 : decode cX10_accesses 71 = .ok (.istore 6, 2) := by decide +kernel
theorem dX10_accesses_73 : decode cX10_accesses 73 = .ok (.aload_n 0, 1) := by decide +kernel
theorem dX10_accesses_74 : decode cX10_accesses 74 = .ok (.getfield 7, 3) := by decide +kernel
theorem dX10_accesses_77 : decode cX10_accesses 77 = .ok (.iload 6, 2) := by decide +kernel
theorem dX10_accesses_79 : decode cX10_accesses 79 = .ok (.iaload, 1) := by decide +kernel
theorem dX10_accesses_80 : decode cX10_accesses 80 = .ok (.istore 7, 2) := by decide +kernel
theorem dX10_accesses_82 : decode cX10_accesses 82 = .ok (.iload_n 3, 1) := by decide +kernel
theorem dX10_accesses_83 : decode cX10_accesses 83 = .ok (.iconst 1, 1) := by decide +kernel
theorem dX10_accesses_84 : decode cX10_accesses 84 = .ok (.if_icmp .ne 20, 3) := by decide +kernel
theorem dX10_accesses_87 : decode cX10_accesses 87 = .ok (.aload_n 0, 1) := by decide +kernel
theorem dX10_accesses_88 : decode cX10_accesses 88 = .ok (.getfield 7, 3) := by decide +kernel
theorem dX10_accesses_91 : decode cX10_accesses 91 = .ok (.iload 6, 2) := by decide +kernel
theorem dX10_accesses_93 : decode cX10_accesses 93 = .ok (.aload_n 0, 1) := by decide +kernel
theorem dX10_accesses_94 : decode cX10_accesses 94 = .ok (.getfield 92, 3) := by decide +kernel
theorem dX10_accesses_97 : decode cX10_accesses 97 = .ok (.bipush 6, 2) := by decide +kernel
theorem dX10_accesses_99 : decode cX10_accesses 99 = .ok (.iaload, 1) := by decide +kernel
theorem dX10_accesses_100 : decode cX10_accesses 100 = .ok (.iastore, 1) := by decide +kernel
theorem dX10_accesses_101 : decode cX10_accesses 101 = .ok (.goto 63, 3) := by decide +kernel
theorem dX10_accesses_104 : decode cX10_accesses 104 = .ok (.iload_n 3, 1) := by decide +kernel
theorem dX10_accesses_105 : decode cX10_accesses 105 = .ok (.iconst 3, 1) := by decide +kernel
theorem dX10_accesses_106 : decode cX10_accesses 106 = .ok (.if_icmp .ne 27, 3) := by decide +kernel
theorem dX10_accesses_109 : decode cX10_accesses 109 = .ok (.aload_n 0, 1) := by decide +kernel
theorem dX10_accesses_110 : decode cX10_accesses 110 = .ok (.getfield 7, 3) := by decide +kernel
theorem dX10_accesses_113 : decode cX10_accesses 113 = .ok (.iload 6, 2) := by decide +kernel
theorem dX10_accesses_115 : decode cX10_accesses 115 = .ok (.iload 7, 2) := by decide +kernel
theorem dX10_accesses_117 : decode cX10_accesses 117 = .ok (.aload_n 0, 1) := by decide +kernel
theorem dX10_accesses_118 : decode cX10_accesses 118 = .ok (.getfield 92, 3) := by decide +kernel
theorem dX10_accesses_121 : decode cX10_accesses 121 = .ok (.bipush 6, 2) := by decide +kernel
theorem dX10_accesses_123 : decode cX10_accesses 123 = .ok (.iaload, 1) := by decide +kernel
theorem dX10_accesses_124 : decode cX10_accesses 124 = .ok (.iadd, 1) := by decide +kernel
theorem dX10_accesses_125 : decode cX10_accesses 125 = .ok (.sipush 10000, 3) := by decide +kernel
theorem dX10_accesses_128 : decode cX10_accesses 128 = .ok (.irem, 1) := by decide +kernel
theorem dX10_accesses_129 : decode cX10_accesses 129 = .ok (.iastore, 1) := by decide +kernel
theorem dX10_accesses_130 : decode cX10_accesses 130 = .ok (.goto 34, 3) := by decide +kernel
theorem dX10_accesses_133 : decode cX10_accesses 133 = .ok (.iload_n 3, 1) := by decide +kernel
theorem dX10_accesses_134 : decode cX10_accesses 134 = .ok (.iconst 4, 1) := by decide +kernel
theorem dX10_accesses_135 : decode cX10_accesses 135 = .ok (.if_icmp .ne 29, 3) := by decide +kernel
theorem dX10_accesses_138 : decode cX10_accesses 138 = .ok (.iload 7, 2) := by decide +kernel
theorem dX10_accesses_140 : decode cX10_accesses 140 = .ok (.aload_n 0, 1) := by decide +kernel
theorem dX10_accesses_141 : decode cX10_accesses 141 = .ok (.getfield 92, 3) := by decide +kernel
theorem dX10_accesses_144 : decode cX10_accesses 144 = .ok (.bipush 6, 2) := by decide +kernel
theorem dX10_accesses_146 : decode cX10_accesses 146 = .ok (.iaload, 1) := by decide +kernel
theorem dX10_accesses_147 : decode cX10_accesses 147 = .ok (.if_icmp .ne 17, 3) := by decide +kernel
theorem dX10_accesses_150 : decode cX10_accesses 150 = .ok (.aload_n 0, 1) := by decide +kernel
theorem dX10_accesses_151 : decode cX10_accesses 151 = .ok (.getfield 7, 3) := by decide +kernel
theorem dX10_accesses_154 : decode cX10_accesses 154 = .ok (.iload 6, 2) := by decide +kernel
theorem dX10_accesses_156 : decode cX10_accesses 156 = .ok (.aload_n 0, 1) := by decide +kernel
theorem dX10_accesses_157 : decode cX10_accesses 157 = .ok (.getfield 92, 3) := by decide +kernel
theorem dX10_accesses_160 : decode cX10_accesses 160 = .ok (.bipush 7, 2) := by decide +kernel
theorem dX10_accesses_162 : decode cX10_accesses 162 = .ok (.iaload, 1) := by decide +kernel
theorem dX10_accesses_163 : decode cX10_accesses 163 = .ok (.iastore, 1) := by decide +kernel
theorem dX10_accesses_164 : decode cX10_accesses 164 = .ok (.iload_n 3, 1) := by decide +kernel
theorem dX10_accesses_165 : decode cX10_accesses 165 = .ok (.iconst 2, 1) := by decide +kernel
theorem dX10_accesses_166 : decode cX10_accesses 166 = .ok (.if_icmp .le 11, 3) := by decide +kernel
theorem dX10_accesses_169 : decode cX10_accesses 169 = .ok (.aload_n 0, 1) := by decide +kernel
theorem dX10_accesses_170 : decode cX10_accesses 170 = .ok (.iload_n 1, 1) := by decide +kernel
theorem dX10_accesses_171 : decode cX10_accesses 171 = .ok (.iload_n 2, 1) := by decide +kernel
theorem dX10_accesses_172 : decode cX10_accesses 172 = .ok (.iload 7, 2) := by decide +kernel
theorem dX10_accesses_174 : decode cX10_accesses 174 = .ok (.invokevirtual 269, 3) := by decide +kernel
theorem dX10_accesses_177 : decode cX10_accesses 177 = .ok (.iload_n 2, 1) := by decide +kernel
theorem dX10_accesses_178 : decode cX10_accesses 178 = .ok (.aload_n 0, 1) := by decide +kernel
theorem dX10_accesses_179 : decode cX10_accesses 179 = .ok (.getfield 34, 3) := by decide +kernel
theorem dX10_accesses_182 : decode cX10_accesses 182 = .ok (.iload_n 1, 1) := by decide +kernel
theorem dX10_accesses_183 : decode cX10_accesses 183 = .ok (.iaload, 1) := by decide +kernel
theorem dX10_accesses_184 : decode cX10_accesses 184 = .ok (.if_icmp .ge 16, 3) := by decide +kernel
theorem dX10_accesses_187 : decode cX10_accesses 187 = .ok (.aload_n 0, 1) := by decide +kernel
theorem dX10_accesses_188 : decode cX10_accesses 188 = .ok (.iload_n 1, 1) := by decide +kernel
theorem dX10_accesses_189 : decode cX10_accesses 189 = .ok (.iconst 1, 1) := by decide +kernel
theorem dX10_accesses_190 : decode cX10_accesses 190 = .ok (.iload_n 2, 1) := by decide +kernel
theorem dX10_accesses_191 : decode cX10_accesses 191 = .ok (.iload 7, 2) := by decide +kernel
theorem dX10_accesses_193 : decode cX10_accesses 193 = .ok (.iconst (-1), 1) := by decide +kernel
theorem dX10_accesses_194 : decode cX10_accesses 194 = .ok (.invokevirtual 248, 3) := by decide +kernel
theorem dX10_accesses_197 : decode cX10_accesses 197 = .ok (.goto 20, 3) := by decide +kernel
theorem dX10_accesses_200 : decode cX10_accesses 200 = .ok (.aload_n 0, 1) := by decide +kernel
theorem dX10_accesses_201 : decode cX10_accesses 201 = .ok (.iload_n 1, 1) := by decide +kernel
theorem dX10_accesses_202 : decode cX10_accesses 202 = .ok (.iload_n 2, 1) := by decide +kernel
theorem dX10_accesses_203 : decode cX10_accesses 203 = .ok (.iload_n 3, 1) := by decide +kernel
theorem dX10_accesses_204 : decode cX10_accesses 204 = .ok (.iconst 1, 1) := by decide +kernel
theorem dX10_accesses_205 : decode cX10_accesses 205 = .ok (.if_icmp .ne 7, 3) := by decide +kernel
theorem dX10_accesses_208 : decode cX10_accesses 208 = .ok (.iconst 0, 1) := by decide +kernel
theorem dX10_accesses_209 : decode cX10_accesses 209 = .ok (.goto 5, 3) := by decide +kernel
theorem dX10_accesses_212 : decode cX10_accesses 212 = .ok (.iload 7, 2) := by decide +kernel
theorem dX10_accesses_214 : decode cX10_accesses 214 = .ok (.invokevirtual 262, 3) := by decide +kernel
theorem dX10_accesses_217 : decode cX10_accesses 217 = .ok (.return_, 1) := by decide +kernel
theorem dX10_changesMore_0 : decode cX10_changesMore 0 = .ok (.aload_n 0, 1) := by decide +kernel
theorem dX10_changesMore_1 : decode cX10_changesMore 1 = .ok (.dup, 1) := by decide +kernel
theorem dX10_changesMore_2 : decode cX10_changesMore 2 = .ok (.getfield 120, 3) := by decide +kernel
theorem dX10_changesMore_5 : decode cX10_changesMore 5 = .ok (.iconst 1, 1) := by decide +kernel
theorem dX10_changesMore_6 : decode cX10_changesMore 6 = .ok (.iadd, 1) := by decide +kernel
theorem dX10_changesMore_7 : decode cX10_changesMore 7 = .ok (.putfield 120, 3) := by decide +kernel
theorem dX10_changesMore_10 : decode cX10_changesMore 10 = .ok (.aload_n 0, 1) := by decide +kernel
theorem dX10_changesMore_11 : decode cX10_changesMore 11 = .ok (.getfield 53, 3) := by decide +kernel
theorem dX10_changesMore_14 : decode cX10_changesMore 14 = .ok (.iload_n 1, 1) := by decide +kernel
theorem dX10_changesMore_15 : decode cX10_changesMore 15 = .ok (.iaload, 1) := by decide +kernel
theorem dX10_changesMore_16 : decode cX10_changesMore 16 = .ok (.iconst 2, 1) := by decide +kernel
theorem dX10_changesMore_17 : decode cX10_changesMore 17 = .ok (.if_icmp .ne 48, 3) := by decide +kernel
theorem dX10_changesMore_20 : decode cX10_changesMore 20 = .ok (.aload_n 0, 1) := by decide +kernel
theorem dX10_changesMore_21 : decode cX10_changesMore 21 = .ok (.getfield 56, 3) := by decide +kernel
theorem dX10_changesMore_24 : decode cX10_changesMore 24 = .ok (.iconst 4, 1) := by decide +kernel
theorem dX10_changesMore_25 : decode cX10_changesMore 25 = .ok (.iload_n 1, 1) := by decide +kernel
theorem dX10_changesMore_26 : decode cX10_changesMore 26 = .ok (.imul, 1) := by decide +kernel
theorem dX10_changesMore_27 : decode cX10_changesMore 27 = .ok (.aload_n 0, 1) := by decide +kernel
theorem dX10_changesMore_28 : decode cX10_changesMore 28 = .ok (.getfield 56, 3) := by decide +kernel
theorem dX10_changesMore_31 : decode cX10_changesMore 31 = .ok (.iconst 4, 1) := by decide +kernel
theorem dX10_changesMore_32 : decode cX10_changesMore 32 = .ok (.iload_n 1, 1) := by decide +kernel
theorem dX10_changesMore_33 : decode cX10_changesMore 33 = .ok (.imul, 1) := by decide +kernel
theorem dX10_changesMore_34 : decode cX10_changesMore 34 = .ok (.iconst 2, 1) := by decide +kernel
theorem dX10_changesMore_35 : decode cX10_changesMore 35 = .ok (.iadd, 1) := by decide +kernel
theorem dX10_changesMore_36 : decode cX10_changesMore 36 = .ok (.iaload, 1) := by decide +kernel
theorem dX10_changesMore_37 : decode cX10_changesMore 37 = .ok (.iastore, 1) := by decide +kernel
theorem dX10_changesMore_38 : decode cX10_changesMore 38 = .ok (.aload_n 0, 1) := by decide +kernel
theorem dX10_changesMore_39 : decode cX10_changesMore 39 = .ok (.getfield 56, 3) := by decide +kernel
theorem dX10_changesMore_42 : decode cX10_changesMore 42 = .ok (.iconst 4, 1) := by decide +kernel
theorem dX10_changesMore_43 : decode cX10_changesMore 43 = .ok (.iload_n 1, 1) := by decide +kernel
theorem dX10_changesMore_44 : decode cX10_changesMore 44 = .ok (.imul, 1) := by decide +kernel
theorem dX10_changesMore_45 : decode cX10_changesMore 45 = .ok (.iconst 1, 1) := by decide +kernel
theorem dX10_changesMore_46 : decode cX10_changesMore 46 = .ok (.iadd, 1) := by decide +kernel
theorem dX10_changesMore_47 : decode cX10_changesMore 47 = .ok (.aload_n 0, 1) := by decide +kernel
theorem dX10_changesMore_48 : decode cX10_changesMore 48 = .ok (.getfield 56, 3) := by decide +kernel
theorem dX10_changesMore_51 : decode cX10_changesMore 51 = .ok (.iconst 4, 1) := by decide +kernel
theorem dX10_changesMore_52 : decode cX10_changesMore 52 = .ok (.iload_n 1, 1) := by decide +kernel
theorem dX10_changesMore_53 : decode cX10_changesMore 53 = .ok (.imul, 1) := by decide +kernel
theorem dX10_changesMore_54 : decode cX10_changesMore 54 = .ok (.iconst 3, 1) := by decide +kernel
theorem dX10_changesMore_55 : decode cX10_changesMore 55 = .ok (.iadd, 1) := by decide +kernel
theorem dX10_changesMore_56 : decode cX10_changesMore 56 = .ok (.iaload, 1) := by decide +kernel
theorem dX10_changesMore_57 : decode cX10_changesMore 57 = .ok (.iastore, 1) := by decide +kernel
theorem dX10_changesMore_58 : decode cX10_changesMore 58 = .ok (.aload_n 0, 1) := by decide +kernel
theorem dX10_changesMore_59 : decode cX10_changesMore 59 = .ok (.getfield 53, 3) := by decide +kernel
theorem dX10_changesMore_62 : decode cX10_changesMore 62 = .ok (.iload_n 1, 1) := by decide +kernel
theorem dX10_changesMore_63 : decode cX10_changesMore 63 = .ok (.iconst 1, 1) := by decide +kernel
theorem dX10_changesMore_64 : decode cX10_changesMore 64 = .ok (.iastore, 1) := by decide +kernel
theorem dX10_changesMore_65 : decode cX10_changesMore 65 = .ok (.aload_n 0, 1) := by decide +kernel
theorem dX10_changesMore_66 : decode cX10_changesMore 66 = .ok (.getfield 56, 3) := by decide +kernel
theorem dX10_changesMore_69 : decode cX10_changesMore 69 = .ok (.iconst 4, 1) := by decide +kernel
theorem dX10_changesMore_70 : decode cX10_changesMore 70 = .ok (.iload_n 1, 1) := by decide +kernel
theorem dX10_changesMore_71 : decode cX10_changesMore 71 = .ok (.imul, 1) := by decide +kernel
theorem dX10_changesMore_72 : decode cX10_changesMore 72 = .ok (.iconst 2, 1) := by decide +kernel
theorem dX10_changesMore_73 : decode cX10_changesMore 73 = .ok (.aload_n 0, 1) := by decide +kernel
theorem dX10_changesMore_74 : decode cX10_changesMore 74 = .ok (.getfield 53, 3) := by decide +kernel
theorem dX10_changesMore_77 : decode cX10_changesMore 77 = .ok (.iload_n 1, 1) := by decide +kernel
theorem dX10_changesMore_78 : decode cX10_changesMore 78 = .ok (.iaload, 1) := by decide +kernel
theorem dX10_changesMore_79 : decode cX10_changesMore 79 = .ok (.imul, 1) := by decide +kernel
theorem dX10_changesMore_80 : decode cX10_changesMore 80 = .ok (.iadd, 1) := by decide +kernel
theorem dX10_changesMore_81 : decode cX10_changesMore 81 = .ok (.iload_n 2, 1) := by decide +kernel
theorem dX10_changesMore_82 : decode cX10_changesMore 82 = .ok (.iastore, 1) := by decide +kernel
theorem dX10_changesMore_83 : decode cX10_changesMore 83 = .ok (.aload_n 0, 1) := by decide +kernel
theorem dX10_changesMore_84 : decode cX10_changesMore 84 = .ok (.getfield 56, 3) := by decide +kernel
theorem dX10_changesMore_87 : decode cX10_changesMore 87 = .ok (.iconst 4, 1) := by decide +kernel
theorem dX10_changesMore_88 : decode cX10_changesMore 88 = .ok (.iload_n 1, 1) := by decide +kernel
theorem dX10_changesMore_89 : decode cX10_changesMore 89 = .ok (.imul, 1) := by decide +kernel
theorem dX10_changesMore_90 : decode cX10_changesMore 90 = .ok (.iconst 2, 1) := by decide +kernel
theorem dX10_changesMore_91 : decode cX10_changesMore 91 = .ok (.aload_n 0, 1) := by decide +kernel
theorem dX10_changesMore_92 : decode cX10_changesMore 92 = .ok (.getfield 53, 3) := by decide +kernel
theorem dX10_changesMore_95 : decode cX10_changesMore 95 = .ok (.iload_n 1, 1) := by decide +kernel
theorem dX10_changesMore_96 : decode cX10_changesMore 96 = .ok (.iaload, 1) := by decide +kernel
theorem dX10_changesMore_97 : decode cX10_changesMore 97 = .ok (.imul, 1) := by decide +kernel
theorem dX10_changesMore_98 : decode cX10_changesMore 98 = .ok (.iadd, 1) := by decide +kernel
theorem dX10_changesMore_99 : decode cX10_changesMore 99 = .ok (.iconst 1, 1) := by decide +kernel
theorem dX10_changesMore_100 : decode cX10_changesMore 100 = .ok (.iadd, 1) := by decide +kernel
theorem dX10_changesMore_101 : decode cX10_changesMore 101 = .ok (.iload_n 3, 1) := by decide +kernel
theorem dX10_changesMore_102 : decode cX10_changesMore 102 = .ok (.iastore, 1) := by decide +kernel
theorem dX10_changesMore_103 : decode cX10_changesMore 103 = .ok (.aload_n 0, 1) := by decide +kernel
theorem dX10_changesMore_104 : decode cX10_changesMore 104 = .ok (.getfield 53, 3) := by decide +kernel
theorem dX10_changesMore_107 : decode cX10_changesMore 107 = .ok (.iload_n 1, 1) := by decide +kernel
theorem dX10_changesMore_108 : decode cX10_changesMore 108 = .ok (.dup2, 1) := by decide +kernel
theorem dX10_changesMore_109 : decode cX10_changesMore 109 = .ok (.iaload, 1) := by decide +kernel
theorem dX10_changesMore_110 : decode cX10_changesMore 110 = .ok (.iconst 1, 1) := by decide +kernel
theorem dX10_changesMore_111 : decode cX10_changesMore 111 = .ok (.iadd, 1) := by decide +kernel
theorem dX10_changesMore_112 : decode cX10_changesMore 112 = .ok (.iastore, 1) := by decide +kernel
theorem dX10_changesMore_113 : decode cX10_changesMore 113 = .ok (.return_, 1) := by decide +kernel
theorem dX10_oldest_0 : decode cX10_oldest 0 = .ok (.aload_n 0, 1) := by decide +kernel
theorem dX10_oldest_1 : decode cX10_oldest 1 = .ok (.getfield 31, 3) := by decide +kernel
theorem dX10_oldest_4 : decode cX10_oldest 4 = .ok (.bipush 28, 2) := by decide +kernel
theorem dX10_oldest_6 : decode cX10_oldest 6 = .ok (.iload_n 1, 1) := by decide +kernel
theorem dX10_oldest_7 : decode cX10_oldest 7 = .ok (.imul, 1) := by decide +kernel
theorem dX10_oldest_8 : decode cX10_oldest 8 = .ok (.iconst 0, 1) := by decide +kernel
theorem dX10_oldest_9 : decode cX10_oldest 9 = .ok (.iadd, 1) := by decide +kernel
theorem dX10_oldest_10 : decode cX10_oldest 10 = .ok (.iaload, 1) := by decide +kernel
theorem dX10_oldest_11 : decode cX10_oldest 11 = .ok (.ireturn, 1) := by decide +kernel
theorem dX10_isOpen_0 : decode cX10_isOpen 0 = .ok (.iconst 0, 1) := by decide +kernel
theorem dX10_isOpen_1 : decode cX10_isOpen 1 = .ok (.istore_n 3, 1) := by decide +kernel
theorem dX10_isOpen_2 : decode cX10_isOpen 2 = .ok (.iconst 0, 1) := by decide +kernel
theorem dX10_isOpen_3 : decode cX10_isOpen 3 = .ok (.istore 4, 2) := by decide +kernel
theorem dX10_isOpen_5 : decode cX10_isOpen 5 = .ok (.iload 4, 2) := by decide +kernel
theorem dX10_isOpen_7 : decode cX10_isOpen 7 = .ok (.aload_n 0, 1) := by decide +kernel
theorem dX10_isOpen_8 : decode cX10_isOpen 8 = .ok (.getfield 28, 3) := by decide +kernel
theorem dX10_isOpen_11 : decode cX10_isOpen 11 = .ok (.iload_n 1, 1) := by decide +kernel
theorem dX10_isOpen_12 : decode cX10_isOpen 12 = .ok (.iaload, 1) := by decide +kernel
theorem dX10_isOpen_13 : decode cX10_isOpen 13 = .ok (.if_icmp .ge 39, 3) := by decide +kernel
theorem dX10_isOpen_16 : decode cX10_isOpen 16 = .ok (.iload_n 3, 1) := by decide +kernel
theorem dX10_isOpen_17 : decode cX10_isOpen 17 = .ok (.ifCond .ne 23, 3) := by decide +kernel
theorem dX10_isOpen_20 : decode cX10_isOpen 20 = .ok (.aload_n 0, 1) := by decide +kernel
theorem dX10_isOpen_21 : decode cX10_isOpen 21 = .ok (.getfield 31, 3) := by decide +kernel
theorem dX10_isOpen_24 : decode cX10_isOpen 24 = .ok (.bipush 7, 2) := by decide +kernel
theorem dX10_isOpen_26 : decode cX10_isOpen 26 = .ok (.iconst 4, 1) := by decide +kernel
theorem dX10_isOpen_27 : decode cX10_isOpen 27 = .ok (.iload_n 1, 1) := by decide +kernel
theorem dX10_isOpen_28 : decode cX10_isOpen 28 = .ok (.imul, 1) := by decide +kernel
theorem dX10_isOpen_29 : decode cX10_isOpen 29 = .ok (.iload 4, 2) := by decide +kernel
theorem dX10_isOpen_31 : decode cX10_isOpen 31 = .ok (.iadd, 1) := by decide +kernel
theorem dX10_isOpen_32 : decode cX10_isOpen 32 = .ok (.imul, 1) := by decide +kernel
theorem dX10_isOpen_33 : decode cX10_isOpen 33 = .ok (.iconst 0, 1) := by decide +kernel
theorem dX10_isOpen_34 : decode cX10_isOpen 34 = .ok (.iadd, 1) := by decide +kernel
theorem dX10_isOpen_35 : decode cX10_isOpen 35 = .ok (.iaload, 1) := by decide +kernel
theorem dX10_isOpen_36 : decode cX10_isOpen 36 = .ok (.iload_n 2, 1) := by decide +kernel
theorem dX10_isOpen_37 : decode cX10_isOpen 37 = .ok (.if_icmp .ne 7, 3) := by decide +kernel
theorem dX10_isOpen_40 : decode cX10_isOpen 40 = .ok (.iconst 1, 1) := by decide +kernel
theorem dX10_isOpen_41 : decode cX10_isOpen 41 = .ok (.goto 4, 3) := by decide +kernel
theorem dX10_isOpen_44 : decode cX10_isOpen 44 = .ok (.iconst 0, 1) := by decide +kernel
theorem dX10_isOpen_45 : decode cX10_isOpen 45 = .ok (.istore_n 3, 1) := by decide +kernel
theorem dX10_isOpen_46 : decode cX10_isOpen 46 = .ok (.iinc 4 1, 3) := by decide +kernel
theorem dX10_isOpen_49 : decode cX10_isOpen 49 = .ok (.goto (-44), 3) := by decide +kernel
theorem dX10_isOpen_52 : decode cX10_isOpen 52 = .ok (.iload_n 3, 1) := by decide +kernel
theorem dX10_isOpen_53 : decode cX10_isOpen 53 = .ok (.ireturn, 1) := by decide +kernel
theorem dX10_answered_0 : decode cX10_answered 0 = .ok (.iload_n 3, 1) := by decide +kernel
theorem dX10_answered_1 : decode cX10_answered 1 = .ok (.iconst 2, 1) := by decide +kernel
theorem dX10_answered_2 : decode cX10_answered 2 = .ok (.if_icmp .ne 24, 3) := by decide +kernel
theorem dX10_answered_5 : decode cX10_answered 5 = .ok (.aload_n 0, 1) := by decide +kernel
theorem dX10_answered_6 : decode cX10_answered 6 = .ok (.getfield 28, 3) := by decide +kernel
theorem dX10_answered_9 : decode cX10_answered 9 = .ok (.iload_n 1, 1) := by decide +kernel
theorem dX10_answered_10 : decode cX10_answered 10 = .ok (.iaload, 1) := by decide +kernel
theorem dX10_answered_11 : decode cX10_answered 11 = .ok (.ifCond .eq 24, 3) := by decide +kernel
theorem dX10_answered_14 : decode cX10_answered 14 = .ok (.iload_n 2, 1) := by decide +kernel
theorem dX10_answered_15 : decode cX10_answered 15 = .ok (.aload_n 0, 1) := by decide +kernel
theorem dX10_answered_16 : decode cX10_answered 16 = .ok (.iload_n 1, 1) := by decide +kernel
theorem dX10_answered_17 : decode cX10_answered 17 = .ok (.invokevirtual 272, 3) := by decide +kernel
theorem dX10_answered_20 : decode cX10_answered 20 = .ok (.if_icmp .ge 16, 3) := by decide +kernel
theorem dX10_answered_23 : decode cX10_answered 23 = .ok (.goto 12, 3) := by decide +kernel
theorem dX10_answered_26 : decode cX10_answered 26 = .ok (.aload_n 0, 1) := by decide +kernel
theorem dX10_answered_27 : decode cX10_answered 27 = .ok (.iload_n 1, 1) := by decide +kernel
theorem dX10_answered_28 : decode cX10_answered 28 = .ok (.iload_n 2, 1) := by decide +kernel
theorem dX10_answered_29 : decode cX10_answered 29 = .ok (.invokevirtual 275, 3) := by decide +kernel
theorem dX10_answered_32 : decode cX10_answered 32 = .ok (.ifCond .ne 4, 3) := by decide +kernel
theorem dX10_answered_35 : decode cX10_answered 35 = .ok (.return_, 1) := by decide +kernel
theorem dX10_answered_36 : decode cX10_answered 36 = .ok (.aload_n 0, 1) := by decide +kernel
theorem dX10_answered_37 : decode cX10_answered 37 = .ok (.getfield 28, 3) := by decide +kernel
theorem dX10_answered_40 : decode cX10_answered 40 = .ok (.iload_n 1, 1) := by decide +kernel
theorem dX10_answered_41 : decode cX10_answered 41 = .ok (.iaload, 1) := by decide +kernel
theorem dX10_answered_42 : decode cX10_answered 42 = .ok (.ifCond .le 43, 3) := by decide +kernel
theorem dX10_answered_45 : decode cX10_answered 45 = .ok (.aload_n 0, 1) := by decide +kernel
theorem dX10_answered_46 : decode cX10_answered 46 = .ok (.iload_n 1, 1) := by decide +kernel
theorem dX10_answered_47 : decode cX10_answered 47 = .ok (.invokevirtual 272, 3) := by decide +kernel
theorem dX10_answered_50 : decode cX10_answered 50 = .ok (.iload_n 2, 1) := by decide +kernel
theorem dX10_answered_51 : decode cX10_answered 51 = .ok (.if_icmp .ge 34, 3) := by decide +kernel
theorem dX10_answered_54 : decode cX10_answered 54 = .ok (.aload_n 0, 1) := by decide +kernel
theorem dX10_answered_55 : decode cX10_answered 55 = .ok (.getfield 31, 3) := by decide +kernel
theorem dX10_answered_58 : decode cX10_answered 58 = .ok (.bipush 28, 2) := by decide +kernel
theorem dX10_answered_60 : decode cX10_answered 60 = .ok (.iload_n 1, 1) := by decide +kernel
theorem dX10_answered_61 : decode cX10_answered 61 = .ok (.imul, 1) := by decide +kernel
theorem dX10_answered_62 : decode cX10_answered 62 = .ok (.iconst 1, 1) := by decide +kernel
theorem dX10_answered_63 : decode cX10_answered 63 = .ok (.iadd, 1) := by decide +kernel
theorem dX10_answered_64 : decode cX10_answered 64 = .ok (.iaload, 1) := by decide +kernel
theorem dX10_answered_65 : decode cX10_answered 65 = .ok (.iconst 1, 1) := by decide +kernel
theorem dX10_answered_66 : decode cX10_answered 66 = .ok (.if_icmp .le 9, 3) := by decide +kernel
theorem dX10_answered_69 : decode cX10_answered 69 = .ok (.aload_n 0, 1) := by decide +kernel
theorem dX10_answered_70 : decode cX10_answered 70 = .ok (.iload_n 1, 1) := by decide +kernel
theorem dX10_answered_71 : decode cX10_answered 71 = .ok (.invokevirtual 279, 3) := by decide +kernel
theorem dX10_answered_74 : decode cX10_answered 74 = .ok (.return_, 1) := by decide +kernel
theorem dX10_answered_75 : decode cX10_answered 75 = .ok (.aload_n 0, 1) := by decide +kernel
theorem dX10_answered_76 : decode cX10_answered 76 = .ok (.iload_n 1, 1) := by decide +kernel
theorem dX10_answered_77 : decode cX10_answered 77 = .ok (.iconst 0, 1) := by decide +kernel
theorem dX10_answered_78 : decode cX10_answered 78 = .ok (.iconst 0, 1) := by decide +kernel
theorem dX10_answered_79 : decode cX10_answered 79 = .ok (.invokevirtual 245, 3) := by decide +kernel
theorem dX10_answered_82 : decode cX10_answered 82 = .ok (.goto (-46), 3) := by decide +kernel
theorem dX10_answered_85 : decode cX10_answered 85 = .ok (.iload_n 3, 1) := by decide +kernel
theorem dX10_answered_86 : decode cX10_answered 86 = .ok (.iconst 2, 1) := by decide +kernel
theorem dX10_answered_87 : decode cX10_answered 87 = .ok (.if_icmp .ne 20, 3) := by decide +kernel
theorem dX10_answered_90 : decode cX10_answered 90 = .ok (.aload_n 0, 1) := by decide +kernel
theorem dX10_answered_91 : decode cX10_answered 91 = .ok (.getfield 28, 3) := by decide +kernel
theorem dX10_answered_94 : decode cX10_answered 94 = .ok (.iload_n 1, 1) := by decide +kernel
theorem dX10_answered_95 : decode cX10_answered 95 = .ok (.iaload, 1) := by decide +kernel
theorem dX10_answered_96 : decode cX10_answered 96 = .ok (.ifCond .le 144, 3) := by decide +kernel
theorem dX10_answered_99 : decode cX10_answered 99 = .ok (.aload_n 0, 1) := by decide +kernel
theorem dX10_answered_100 : decode cX10_answered 100 = .ok (.iload_n 1, 1) := by decide +kernel
theorem dX10_answered_101 : decode cX10_answered 101 = .ok (.invokevirtual 279, 3) := by decide +kernel
theorem dX10_answered_104 : decode cX10_answered 104 = .ok (.goto 136, 3) := by decide +kernel
theorem dX10_answered_107 : decode cX10_answered 107 = .ok (.iload_n 3, 1) := by decide +kernel
theorem dX10_answered_108 : decode cX10_answered 108 = .ok (.iconst 1, 1) := by decide +kernel
theorem dX10_answered_109 : decode cX10_answered 109 = .ok (.if_icmp .ne 73, 3) := by decide +kernel
theorem dX10_answered_112 : decode cX10_answered 112 = .ok (.aload_n 0, 1) := by decide +kernel
theorem dX10_answered_113 : decode cX10_answered 113 = .ok (.getfield 31, 3) := by decide +kernel
theorem dX10_answered_116 : decode cX10_answered 116 = .ok (.bipush 28, 2) := by decide +kernel
theorem dX10_answered_118 : decode cX10_answered 118 = .ok (.iload_n 1, 1) := by decide +kernel
theorem dX10_answered_119 : decode cX10_answered 119 = .ok (.imul, 1) := by decide +kernel
theorem dX10_answered_120 : decode cX10_answered 120 = .ok (.iconst 1, 1) := by decide +kernel
theorem dX10_answered_121 : decode cX10_answered 121 = .ok (.iadd, 1) := by decide +kernel
theorem dX10_answered_122 : decode cX10_answered 122 = .ok (.iaload, 1) := by decide +kernel
theorem dX10_answered_123 : decode cX10_answered 123 = .ok (.istore 4, 2) := by decide +kernel
theorem dX10_answered_125 : decode cX10_answered 125 = .ok (.aload_n 0, 1) := by decide +kernel
theorem dX10_answered_126 : decode cX10_answered 126 = .ok (.getfield 31, 3) := by decide +kernel
theorem dX10_answered_129 : decode cX10_answered 129 = .ok (.bipush 28, 2) := by decide +kernel
theorem dX10_answered_131 : decode cX10_answered 131 = .ok (.iload_n 1, 1) := by decide +kernel
theorem dX10_answered_132 : decode cX10_answered 132 = .ok (.imul, 1) := by decide +kernel
theorem dX10_answered_133 : decode cX10_answered 133 = .ok (.bipush 6, 2) := by decide +kernel
theorem dX10_answered_135 : decode cX10_answered 135 = .ok (.iadd, 1) := by decide +kernel
theorem dX10_answered_136 : decode cX10_answered 136 = .ok (.iaload, 1) := by decide +kernel
theorem dX10_answered_137 : decode cX10_answered 137 = .ok (.istore 5, 2) := by decide +kernel
theorem dX10_answered_139 : decode cX10_answered 139 = .ok (.aload_n 0, 1) := by decide +kernel
theorem dX10_answered_140 : decode cX10_answered 140 = .ok (.iload_n 1, 1) := by decide +kernel
theorem dX10_answered_141 : decode cX10_answered 141 = .ok (.iconst 0, 1) := by decide +kernel
theorem dX10_answered_142 : decode cX10_answered 142 = .ok (.aload_n 0, 1) := by decide +kernel
theorem dX10_answered_143 : decode cX10_answered 143 = .ok (.getfield 92, 3) := by decide +kernel
theorem dX10_answered_146 : decode cX10_answered 146 = .ok (.bipush 8, 2) := by decide +kernel
theorem dX10_answered_148 : decode cX10_answered 148 = .ok (.iaload, 1) := by decide +kernel
theorem dX10_answered_149 : decode cX10_answered 149 = .ok (.invokevirtual 245, 3) := by decide +kernel
theorem dX10_answered_152 : decode cX10_answered 152 = .ok (.iload 4, 2) := by decide +kernel
theorem dX10_answered_154 : decode cX10_answered 154 = .ok (.iconst 1, 1) := by decide +kernel
theorem dX10_answered_155 : decode cX10_answered 155 = .ok (.if_icmp .le 24, 3) := by decide +kernel
theorem dX10_answered_158 : decode cX10_answered 158 = .ok (.aload_n 0, 1) := by decide +kernel
theorem dX10_answered_159 : decode cX10_answered 159 = .ok (.getfield 7, 3) := by decide +kernel
theorem dX10_answered_162 : decode cX10_answered 162 = .ok (.bipush 12, 2) := by decide +kernel
theorem dX10_answered_164 : decode cX10_answered 164 = .ok (.iload_n 1, 1) := by decide +kernel
theorem dX10_answered_165 : decode cX10_answered 165 = .ok (.iconst 2, 1) := by decide +kernel
theorem dX10_answered_166 : decode cX10_answered 166 = .ok (.irem, 1) := by decide +kernel
theorem dX10_answered_167 : decode cX10_answered 167 = .ok (.imul, 1) := by decide +kernel
theorem dX10_answered_168 : decode cX10_answered 168 = .ok (.iload 5, 2) := by decide +kernel
theorem dX10_answered_170 : decode cX10_answered 170 = .ok (.iadd, 1) := by decide +kernel
theorem dX10_answered_171 : decode cX10_answered 171 = .ok (.aload_n 0, 1) := by decide +kernel
theorem dX10_answered_172 : decode cX10_answered 172 = .ok (.getfield 92, 3) := by decide +kernel
theorem dX10_answered_175 : decode cX10_answered 175 = .ok (.bipush 8, 2) := by decide +kernel
theorem dX10_answered_177 : decode cX10_answered 177 = .ok (.iaload, 1) := by decide +kernel
theorem dX10_answered_178 : decode cX10_answered 178 = .ok (.iastore, 1) := by decide +kernel
theorem dX10_answered_179 : decode cX10_answered 179 = .ok (.goto 61, 3) := by decide +kernel
theorem dX10_answered_182 : decode cX10_answered 182 = .ok (.iload_n 3, 1) := by decide +kernel
theorem dX10_answered_183 : decode cX10_answered 183 = .ok (.iconst 3, 1) := by decide +kernel
theorem dX10_answered_184 : decode cX10_answered 184 = .ok (.if_icmp .ne 38, 3) := by decide +kernel
theorem dX10_answered_187 : decode cX10_answered 187 = .ok (.aload_n 0, 1) := by decide +kernel
theorem dX10_answered_188 : decode cX10_answered 188 = .ok (.getfield 46, 3) := by decide +kernel
theorem dX10_answered_191 : decode cX10_answered 191 = .ok (.iload_n 1, 1) := by decide +kernel
theorem dX10_answered_192 : decode cX10_answered 192 = .ok (.dup2, 1) := by decide +kernel
theorem dX10_answered_193 : decode cX10_answered 193 = .ok (.iaload, 1) := by decide +kernel
theorem dX10_answered_194 : decode cX10_answered 194 = .ok (.iconst 1, 1) := by decide +kernel
theorem dX10_answered_195 : decode cX10_answered 195 = .ok (.iadd, 1) := by decide +kernel
theorem dX10_answered_196 : decode cX10_answered 196 = .ok (.iastore, 1) := by decide +kernel
theorem dX10_answered_197 : decode cX10_answered 197 = .ok (.aload_n 0, 1) := by decide +kernel
theorem dX10_answered_198 : decode cX10_answered 198 = .ok (.getfield 46, 3) := by decide +kernel
theorem dX10_answered_201 : decode cX10_answered 201 = .ok (.iload_n 1, 1) := by decide +kernel
theorem dX10_answered_202 : decode cX10_answered 202 = .ok (.iaload, 1) := by decide +kernel
theorem dX10_answered_203 : decode cX10_answered 203 = .ok (.iconst 4, 1) := by decide +kernel
theorem dX10_answered_204 : decode cX10_answered 204 = .ok (.if_icmp .ne 36, 3) := by decide +kernel
theorem dX10_answered_207 : decode cX10_answered 207 = .ok (.aload_n 0, 1) := by decide +kernel
theorem dX10_answered_208 : decode cX10_answered 208 = .ok (.iload_n 1, 1) := by decide +kernel
theorem dX10_answered_209 : decode cX10_answered 209 = .ok (.iconst 4, 1) := by decide +kernel
theorem dX10_answered_210 : decode cX10_answered 210 = .ok (.iconst 0, 1) := by decide +kernel
theorem dX10_answered_211 : decode cX10_answered 211 = .ok (.invokevirtual 245, 3) := by decide +kernel
theorem dX10_answered_214 : decode cX10_answered 214 = .ok (.aload_n 0, 1) := by decide +kernel
theorem dX10_answered_215 : decode cX10_answered 215 = .ok (.iload_n 1, 1) := by decide +kernel
theorem dX10_answered_216 : decode cX10_answered 216 = .ok (.invokevirtual 223, 3) := by decide +kernel
theorem dX10_answered_219 : decode cX10_answered 219 = .ok (.goto 21, 3) := by decide +kernel
theorem dX10_answered_222 : decode cX10_answered 222 = .ok (.aload_n 0, 1) := by decide +kernel
theorem dX10_answered_223 : decode cX10_answered 223 = .ok (.iload_n 1, 1) := by decide +kernel
theorem dX10_answered_224 : decode cX10_answered 224 = .ok (.iconst 1, 1) := by decide +kernel
theorem dX10_answered_225 : decode cX10_answered 225 = .ok (.aload_n 0, 1) := by decide +kernel
theorem dX10_answered_226 : decode cX10_answered 226 = .ok (.getfield 92, 3) := by decide +kernel
theorem dX10_answered_229 : decode cX10_answered 229 = .ok (.bipush 8, 2) := by decide +kernel
theorem dX10_answered_231 : decode cX10_answered 231 = .ok (.iaload, 1) := by decide +kernel
theorem dX10_answered_232 : decode cX10_answered 232 = .ok (.invokevirtual 245, 3) := by decide +kernel
theorem dX10_answered_235 : decode cX10_answered 235 = .ok (.aload_n 0, 1) := by decide +kernel
theorem dX10_answered_236 : decode cX10_answered 236 = .ok (.iload_n 1, 1) := by decide +kernel
theorem dX10_answered_237 : decode cX10_answered 237 = .ok (.invokevirtual 223, 3) := by decide +kernel
theorem dX10_answered_240 : decode cX10_answered 240 = .ok (.return_, 1) := by decide +kernel
theorem dX10_post_0 : decode cX10_post 0 = .ok (.aload_n 0, 1) := by decide +kernel
theorem dX10_post_1 : decode cX10_post 1 = .ok (.getfield 22, 3) := by decide +kernel
theorem dX10_post_4 : decode cX10_post 4 = .ok (.iload_n 1, 1) := by decide +kernel
theorem dX10_post_5 : decode cX10_post 5 = .ok (.iaload, 1) := by decide +kernel
theorem dX10_post_6 : decode cX10_post 6 = .ok (.iconst 1, 1) := by decide +kernel
theorem dX10_post_7 : decode cX10_post 7 = .ok (.if_icmp .eq 7, 3) := by decide +kernel
theorem dX10_post_10 : decode cX10_post 10 = .ok (.sipush (-1003), 3) := by decide +kernel
theorem dX10_post_13 : decode cX10_post 13 = .ok (.ireturn, 1) := by decide +kernel
theorem dX10_post_14 : decode cX10_post 14 = .ok (.iconst 0, 1) := by decide +kernel
theorem dX10_post_15 : decode cX10_post 15 = .ok (.istore 6, 2) := by decide +kernel
theorem dX10_post_17 : decode cX10_post 17 = .ok (.iconst 0, 1) := by decide +kernel
theorem dX10_post_18 : decode cX10_post 18 = .ok (.istore 7, 2) := by decide +kernel
theorem dX10_post_20 : decode cX10_post 20 = .ok (.iload 7, 2) := by decide +kernel
theorem dX10_post_22 : decode cX10_post 22 = .ok (.aload_n 0, 1) := by decide +kernel
theorem dX10_post_23 : decode cX10_post 23 = .ok (.getfield 28, 3) := by decide +kernel
theorem dX10_post_26 : decode cX10_post 26 = .ok (.iload_n 1, 1) := by decide +kernel
theorem dX10_post_27 : decode cX10_post 27 = .ok (.iaload, 1) := by decide +kernel
theorem dX10_post_28 : decode cX10_post 28 = .ok (.if_icmp .ge 39, 3) := by decide +kernel
theorem dX10_post_31 : decode cX10_post 31 = .ok (.iload 6, 2) := by decide +kernel
theorem dX10_post_33 : decode cX10_post 33 = .ok (.aload_n 0, 1) := by decide +kernel
theorem dX10_post_34 : decode cX10_post 34 = .ok (.getfield 31, 3) := by decide +kernel
theorem dX10_post_37 : decode cX10_post 37 = .ok (.bipush 7, 2) := by decide +kernel
theorem dX10_post_39 : decode cX10_post 39 = .ok (.iconst 4, 1) := by decide +kernel
theorem dX10_post_40 : decode cX10_post 40 = .ok (.iload_n 1, 1) := by decide +kernel
theorem dX10_post_41 : decode cX10_post 41 = .ok (.imul, 1) := by decide +kernel
theorem dX10_post_42 : decode cX10_post 42 = .ok (.iload 7, 2) := by decide +kernel
theorem dX10_post_44 : decode cX10_post 44 = .ok (.iadd, 1) := by decide +kernel
theorem dX10_post_45 : decode cX10_post 45 = .ok (.imul, 1) := by decide +kernel
theorem dX10_post_46 : decode cX10_post 46 = .ok (.iconst 1, 1) := by decide +kernel
theorem dX10_post_47 : decode cX10_post 47 = .ok (.iadd, 1) := by decide +kernel
theorem dX10_post_48 : decode cX10_post 48 = .ok (.iaload, 1) := by decide +kernel
theorem dX10_post_49 : decode cX10_post 49 = .ok (.iconst 1, 1) := by decide +kernel
theorem dX10_post_50 : decode cX10_post 50 = .ok (.if_icmp .le 7, 3) := by decide +kernel
theorem dX10_post_53 : decode cX10_post 53 = .ok (.iconst 1, 1) := by decide +kernel
theorem dX10_post_54 : decode cX10_post 54 = .ok (.goto 4, 3) := by decide +kernel
theorem dX10_post_57 : decode cX10_post 57 = .ok (.iconst 0, 1) := by decide +kernel
theorem dX10_post_58 : decode cX10_post 58 = .ok (.iadd, 1) := by decide +kernel
theorem dX10_post_59 : decode cX10_post 59 = .ok (.istore 6, 2) := by decide +kernel
theorem dX10_post_61 : decode cX10_post 61 = .ok (.iinc 7 1, 3) := by decide +kernel
theorem dX10_post_64 : decode cX10_post 64 = .ok (.goto (-44), 3) := by decide +kernel
theorem dX10_post_67 : decode cX10_post 67 = .ok (.aload_n 0, 1) := by decide +kernel
theorem dX10_post_68 : decode cX10_post 68 = .ok (.getfield 28, 3) := by decide +kernel
theorem dX10_post_71 : decode cX10_post 71 = .ok (.iload_n 1, 1) := by decide +kernel
theorem dX10_post_72 : decode cX10_post 72 = .ok (.iaload, 1) := by decide +kernel
theorem dX10_post_73 : decode cX10_post 73 = .ok (.iconst 4, 1) := by decide +kernel
theorem dX10_post_74 : decode cX10_post 74 = .ok (.if_icmp .eq 14, 3) := by decide +kernel
theorem dX10_post_77 : decode cX10_post 77 = .ok (.iload_n 2, 1) := by decide +kernel
theorem dX10_post_78 : decode cX10_post 78 = .ok (.iconst 1, 1) := by decide +kernel
theorem dX10_post_79 : decode cX10_post 79 = .ok (.if_icmp .le 13, 3) := by decide +kernel
theorem dX10_post_82 : decode cX10_post 82 = .ok (.iload 6, 2) := by decide +kernel
theorem dX10_post_84 : decode cX10_post 84 = .ok (.iconst 2, 1) := by decide +kernel
theorem dX10_post_85 : decode cX10_post 85 = .ok (.if_icmp .ne 7, 3) := by decide +kernel
theorem dX10_post_88 : decode cX10_post 88 = .ok (.sipush (-1004), 3) := by decide +kernel
theorem dX10_post_91 : decode cX10_post 91 = .ok (.ireturn, 1) := by decide +kernel
theorem dX10_post_92 : decode cX10_post 92 = .ok (.bipush 7, 2) := by decide +kernel
theorem dX10_post_94 : decode cX10_post 94 = .ok (.iconst 4, 1) := by decide +kernel
theorem dX10_post_95 : decode cX10_post 95 = .ok (.iload_n 1, 1) := by decide +kernel
theorem dX10_post_96 : decode cX10_post 96 = .ok (.imul, 1) := by decide +kernel
theorem dX10_post_97 : decode cX10_post 97 = .ok (.aload_n 0, 1) := by decide +kernel
theorem dX10_post_98 : decode cX10_post 98 = .ok (.getfield 28, 3) := by decide +kernel
theorem dX10_post_101 : decode cX10_post 101 = .ok (.iload_n 1, 1) := by decide +kernel
theorem dX10_post_102 : decode cX10_post 102 = .ok (.iaload, 1) := by decide +kernel
theorem dX10_post_103 : decode cX10_post 103 = .ok (.iadd, 1) := by decide +kernel
theorem dX10_post_104 : decode cX10_post 104 = .ok (.imul, 1) := by decide +kernel
theorem dX10_post_105 : decode cX10_post 105 = .ok (.istore 7, 2) := by decide +kernel
theorem dX10_post_107 : decode cX10_post 107 = .ok (.aload_n 0, 1) := by decide +kernel
theorem dX10_post_108 : decode cX10_post 108 = .ok (.getfield 31, 3) := by decide +kernel
theorem dX10_post_111 : decode cX10_post 111 = .ok (.iload 7, 2) := by decide +kernel
theorem dX10_post_113 : decode cX10_post 113 = .ok (.iconst 0, 1) := by decide +kernel
theorem dX10_post_114 : decode cX10_post 114 = .ok (.iadd, 1) := by decide +kernel
theorem dX10_post_115 : decode cX10_post 115 = .ok (.aload_n 0, 1) := by decide +kernel
theorem dX10_post_116 : decode cX10_post 116 = .ok (.getfield 25, 3) := by decide +kernel
theorem dX10_post_119 : decode cX10_post 119 = .ok (.iload_n 1, 1) := by decide +kernel
theorem dX10_post_120 : decode cX10_post 120 = .ok (.iaload, 1) := by decide +kernel
theorem dX10_post_121 : decode cX10_post 121 = .ok (.iastore, 1) := by decide +kernel
theorem dX10_post_122 : decode cX10_post 122 = .ok (.aload_n 0, 1) := by decide +kernel
theorem dX10_post_123 : decode cX10_post 123 = .ok (.getfield 31, 3) := by decide +kernel
theorem dX10_post_126 : decode cX10_post 126 = .ok (.iload 7, 2) := by decide +kernel
theorem dX10_post_128 : decode cX10_post 128 = .ok (.iconst 1, 1) := by decide +kernel
theorem dX10_post_129 : decode cX10_post 129 = .ok (.iadd, 1) := by decide +kernel
theorem dX10_post_130 : decode cX10_post 130 = .ok (.iload_n 2, 1) := by decide +kernel
theorem dX10_post_131 : decode cX10_post 131 = .ok (.iastore, 1) := by decide +kernel
theorem dX10_post_132 : decode cX10_post 132 = .ok (.aload_n 0, 1) := by decide +kernel
theorem dX10_post_133 : decode cX10_post 133 = .ok (.getfield 31, 3) := by decide +kernel
theorem dX10_post_136 : decode cX10_post 136 = .ok (.iload 7, 2) := by decide +kernel
theorem dX10_post_138 : decode cX10_post 138 = .ok (.iconst 2, 1) := by decide +kernel
theorem dX10_post_139 : decode cX10_post 139 = .ok (.iadd, 1) := by decide +kernel
theorem dX10_post_140 : decode cX10_post 140 = .ok (.aload_n 0, 1) := by decide +kernel
theorem dX10_post_141 : decode cX10_post 141 = .ok (.getfield 59, 3) := by decide +kernel
theorem dX10_post_144 : decode cX10_post 144 = .ok (.iload_n 1, 1) := by decide +kernel
theorem dX10_post_145 : decode cX10_post 145 = .ok (.iaload, 1) := by decide +kernel
theorem dX10_post_146 : decode cX10_post 146 = .ok (.iastore, 1) := by decide +kernel
theorem dX10_post_147 : decode cX10_post 147 = .ok (.aload_n 0, 1) := by decide +kernel
theorem dX10_post_148 : decode cX10_post 148 = .ok (.getfield 31, 3) := by decide +kernel
theorem dX10_post_151 : decode cX10_post 151 = .ok (.iload 7, 2) := by decide +kernel
theorem dX10_post_153 : decode cX10_post 153 = .ok (.iconst 3, 1) := by decide +kernel
theorem dX10_post_154 : decode cX10_post 154 = .ok (.iadd, 1) := by decide +kernel
theorem dX10_post_155 : decode cX10_post 155 = .ok (.aload_n 0, 1) := by decide +kernel
theorem dX10_post_156 : decode cX10_post 156 = .ok (.getfield 62, 3) := by decide +kernel
theorem dX10_post_159 : decode cX10_post 159 = .ok (.iload_n 1, 1) := by decide +kernel
theorem dX10_post_160 : decode cX10_post 160 = .ok (.iaload, 1) := by decide +kernel
theorem dX10_post_161 : decode cX10_post 161 = .ok (.iastore, 1) := by decide +kernel
theorem dX10_post_162 : decode cX10_post 162 = .ok (.aload_n 0, 1) := by decide +kernel
theorem dX10_post_163 : decode cX10_post 163 = .ok (.getfield 31, 3) := by decide +kernel
theorem dX10_post_166 : decode cX10_post 166 = .ok (.iload 7, 2) := by decide +kernel
theorem dX10_post_168 : decode cX10_post 168 = .ok (.iconst 4, 1) := by decide +kernel
theorem dX10_post_169 : decode cX10_post 169 = .ok (.iadd, 1) := by decide +kernel
theorem dX10_post_170 : decode cX10_post 170 = .ok (.iload_n 3, 1) := by decide +kernel
theorem dX10_post_171 : decode cX10_post 171 = .ok (.iastore, 1) := by decide +kernel
theorem dX10_post_172 : decode cX10_post 172 = .ok (.aload_n 0, 1) := by decide +kernel
theorem dX10_post_173 : decode cX10_post 173 = .ok (.getfield 31, 3) := by decide +kernel
theorem dX10_post_176 : decode cX10_post 176 = .ok (.iload 7, 2) := by decide +kernel
theorem dX10_post_178 : decode cX10_post 178 = .ok (.iconst 5, 1) := by decide +kernel
theorem dX10_post_179 : decode cX10_post 179 = .ok (.iadd, 1) := by decide +kernel
theorem dX10_post_180 : decode cX10_post 180 = .ok (.iload 4, 2) := by decide +kernel
theorem dX10_post_182 : decode cX10_post 182 = .ok (.iastore, 1) := by decide +kernel
theorem dX10_post_183 : decode cX10_post 183 = .ok (.aload_n 0, 1) := by decide +kernel
theorem dX10_post_184 : decode cX10_post 184 = .ok (.getfield 31, 3) := by decide +kernel
theorem dX10_post_187 : decode cX10_post 187 = .ok (.iload 7, 2) := by decide +kernel
theorem dX10_post_189 : decode cX10_post 189 = .ok (.bipush 6, 2) := by decide +kernel
theorem dX10_post_191 : decode cX10_post 191 = .ok (.iadd, 1) := by decide +kernel
theorem dX10_post_192 : decode cX10_post 192 = .ok (.iload 5, 2) := by decide +kernel
theorem dX10_post_194 : decode cX10_post 194 = .ok (.iastore, 1) := by decide +kernel
theorem dX10_post_195 : decode cX10_post 195 = .ok (.aload_n 0, 1) := by decide +kernel
theorem dX10_post_196 : decode cX10_post 196 = .ok (.getfield 28, 3) := by decide +kernel
theorem dX10_post_199 : decode cX10_post 199 = .ok (.iload_n 1, 1) := by decide +kernel
theorem dX10_post_200 : decode cX10_post 200 = .ok (.dup2, 1) := by decide +kernel
theorem dX10_post_201 : decode cX10_post 201 = .ok (.iaload, 1) := by decide +kernel
theorem dX10_post_202 : decode cX10_post 202 = .ok (.iconst 1, 1) := by decide +kernel
theorem dX10_post_203 : decode cX10_post 203 = .ok (.iadd, 1) := by decide +kernel
theorem dX10_post_204 : decode cX10_post 204 = .ok (.iastore, 1) := by decide +kernel
theorem dX10_post_205 : decode cX10_post 205 = .ok (.aload_n 0, 1) := by decide +kernel
theorem dX10_post_206 : decode cX10_post 206 = .ok (.getfield 25, 3) := by decide +kernel
theorem dX10_post_209 : decode cX10_post 209 = .ok (.iload_n 1, 1) := by decide +kernel
theorem dX10_post_210 : decode cX10_post 210 = .ok (.dup2, 1) := by decide +kernel
theorem dX10_post_211 : decode cX10_post 211 = .ok (.iaload, 1) := by decide +kernel
theorem dX10_post_212 : decode cX10_post 212 = .ok (.iconst 1, 1) := by decide +kernel
theorem dX10_post_213 : decode cX10_post 213 = .ok (.iadd, 1) := by decide +kernel
theorem dX10_post_214 : decode cX10_post 214 = .ok (.iastore, 1) := by decide +kernel
theorem dX10_post_215 : decode cX10_post 215 = .ok (.aload_n 0, 1) := by decide +kernel
theorem dX10_post_216 : decode cX10_post 216 = .ok (.iload_n 1, 1) := by decide +kernel
theorem dX10_post_217 : decode cX10_post 217 = .ok (.aload_n 0, 1) := by decide +kernel
theorem dX10_post_218 : decode cX10_post 218 = .ok (.getfield 28, 3) := by decide +kernel
theorem dX10_post_221 : decode cX10_post 221 = .ok (.iload_n 1, 1) := by decide +kernel
theorem dX10_post_222 : decode cX10_post 222 = .ok (.iaload, 1) := by decide +kernel
theorem dX10_post_223 : decode cX10_post 223 = .ok (.iconst 1, 1) := by decide +kernel
theorem dX10_post_224 : decode cX10_post 224 = .ok (.isub, 1) := by decide +kernel
theorem dX10_post_225 : decode cX10_post 225 = .ok (.invokevirtual 251, 3) := by decide +kernel
theorem dX10_post_228 : decode cX10_post 228 = .ok (.aload_n 0, 1) := by decide +kernel
theorem dX10_post_229 : decode cX10_post 229 = .ok (.getfield 25, 3) := by decide +kernel
theorem dX10_post_232 : decode cX10_post 232 = .ok (.iload_n 1, 1) := by decide +kernel
theorem dX10_post_233 : decode cX10_post 233 = .ok (.iaload, 1) := by decide +kernel
theorem dX10_post_234 : decode cX10_post 234 = .ok (.iconst 1, 1) := by decide +kernel
theorem dX10_post_235 : decode cX10_post 235 = .ok (.isub, 1) := by decide +kernel
theorem dX10_post_236 : decode cX10_post 236 = .ok (.ireturn, 1) := by decide +kernel
theorem dX10_send_0 : decode cX10_send 0 = .ok (.iload_n 1, 1) := by decide +kernel
theorem dX10_send_1 : decode cX10_send 1 = .ok (.invokestatic 220, 3) := by decide +kernel
theorem dX10_send_4 : decode cX10_send 4 = .ok (.ifCond .ne 9, 3) := by decide +kernel
theorem dX10_send_7 : decode cX10_send 7 = .ok (.sipush (-1001), 3) := by decide +kernel
theorem dX10_send_10 : decode cX10_send 10 = .ok (.goto 25, 3) := by decide +kernel
theorem dX10_send_13 : decode cX10_send 13 = .ok (.iload_n 2, 1) := by decide +kernel
theorem dX10_send_14 : decode cX10_send 14 = .ok (.invokestatic 200, 3) := by decide +kernel
theorem dX10_send_17 : decode cX10_send 17 = .ok (.ifCond .ne 9, 3) := by decide +kernel
theorem dX10_send_20 : decode cX10_send 20 = .ok (.sipush (-1002), 3) := by decide +kernel
theorem dX10_send_23 : decode cX10_send 23 = .ok (.goto 12, 3) := by decide +kernel
theorem dX10_send_26 : decode cX10_send 26 = .ok (.aload_n 0, 1) := by decide +kernel
theorem dX10_send_27 : decode cX10_send 27 = .ok (.iload_n 1, 1) := by decide +kernel
theorem dX10_send_28 : decode cX10_send 28 = .ok (.iconst 0, 1) := by decide +kernel
theorem dX10_send_29 : decode cX10_send 29 = .ok (.iload_n 2, 1) := by decide +kernel
theorem dX10_send_30 : decode cX10_send 30 = .ok (.iconst 0, 1) := by decide +kernel
theorem dX10_send_31 : decode cX10_send 31 = .ok (.iconst 0, 1) := by decide +kernel
theorem dX10_send_32 : decode cX10_send 32 = .ok (.invokevirtual 282, 3) := by decide +kernel
theorem dX10_send_35 : decode cX10_send 35 = .ok (.ireturn, 1) := by decide +kernel
theorem dX10_store_0 : decode cX10_store 0 = .ok (.iload_n 1, 1) := by decide +kernel
theorem dX10_store_1 : decode cX10_store 1 = .ok (.invokestatic 220, 3) := by decide +kernel
theorem dX10_store_4 : decode cX10_store 4 = .ok (.ifCond .ne 9, 3) := by decide +kernel
theorem dX10_store_7 : decode cX10_store 7 = .ok (.sipush (-1001), 3) := by decide +kernel
theorem dX10_store_10 : decode cX10_store 10 = .ok (.goto 25, 3) := by decide +kernel
theorem dX10_store_13 : decode cX10_store 13 = .ok (.iload_n 2, 1) := by decide +kernel
theorem dX10_store_14 : decode cX10_store 14 = .ok (.invokestatic 200, 3) := by decide +kernel
theorem dX10_store_17 : decode cX10_store 17 = .ok (.ifCond .ne 9, 3) := by decide +kernel
theorem dX10_store_20 : decode cX10_store 20 = .ok (.sipush (-1002), 3) := by decide +kernel
theorem dX10_store_23 : decode cX10_store 23 = .ok (.goto 12, 3) := by decide +kernel
theorem dX10_store_26 : decode cX10_store 26 = .ok (.aload_n 0, 1) := by decide +kernel
theorem dX10_store_27 : decode cX10_store 27 = .ok (.iload_n 1, 1) := by decide +kernel
theorem dX10_store_28 : decode cX10_store 28 = .ok (.iconst 1, 1) := by decide +kernel
theorem dX10_store_29 : decode cX10_store 29 = .ok (.iload_n 2, 1) := by decide +kernel
theorem dX10_store_30 : decode cX10_store 30 = .ok (.iconst 0, 1) := by decide +kernel
theorem dX10_store_31 : decode cX10_store 31 = .ok (.iconst 0, 1) := by decide +kernel
theorem dX10_store_32 : decode cX10_store 32 = .ok (.invokevirtual 282, 3) := by decide +kernel
theorem dX10_store_35 : decode cX10_store 35 = .ok (.ireturn, 1) := by decide +kernel
theorem dX10_read_0 : decode cX10_read 0 = .ok (.iload_n 1, 1) := by decide +kernel
theorem dX10_read_1 : decode cX10_read 1 = .ok (.invokestatic 220, 3) := by decide +kernel
theorem dX10_read_4 : decode cX10_read 4 = .ok (.ifCond .eq 10, 3) := by decide +kernel
theorem dX10_read_7 : decode cX10_read 7 = .ok (.iload_n 2, 1) := by decide +kernel
theorem dX10_read_8 : decode cX10_read 8 = .ok (.invokestatic 197, 3) := by decide +kernel
theorem dX10_read_11 : decode cX10_read 11 = .ok (.ifCond .ne 9, 3) := by decide +kernel
theorem dX10_read_14 : decode cX10_read 14 = .ok (.sipush (-1001), 3) := by decide +kernel
theorem dX10_read_17 : decode cX10_read 17 = .ok (.goto 12, 3) := by decide +kernel
theorem dX10_read_20 : decode cX10_read 20 = .ok (.aload_n 0, 1) := by decide +kernel
theorem dX10_read_21 : decode cX10_read 21 = .ok (.iload_n 1, 1) := by decide +kernel
theorem dX10_read_22 : decode cX10_read 22 = .ok (.iconst 2, 1) := by decide +kernel
theorem dX10_read_23 : decode cX10_read 23 = .ok (.iconst 0, 1) := by decide +kernel
theorem dX10_read_24 : decode cX10_read 24 = .ok (.iconst 0, 1) := by decide +kernel
theorem dX10_read_25 : decode cX10_read 25 = .ok (.iload_n 2, 1) := by decide +kernel
theorem dX10_read_26 : decode cX10_read 26 = .ok (.invokevirtual 282, 3) := by decide +kernel
theorem dX10_read_29 : decode cX10_read 29 = .ok (.ireturn, 1) := by decide +kernel
theorem dX10_add_0 : decode cX10_add 0 = .ok (.iload_n 1, 1) := by decide +kernel
theorem dX10_add_1 : decode cX10_add 1 = .ok (.invokestatic 220, 3) := by decide +kernel
theorem dX10_add_4 : decode cX10_add 4 = .ok (.ifCond .eq 10, 3) := by decide +kernel
theorem dX10_add_7 : decode cX10_add 7 = .ok (.iload_n 3, 1) := by decide +kernel
theorem dX10_add_8 : decode cX10_add 8 = .ok (.invokestatic 197, 3) := by decide +kernel
