theorem hL_law_0 : bHas cL_law 0 [187, 0, 7, 89, 183, 0, 9, 76, 187, 0, 10, 89, 183, 0, 12, 77, 3, 62, 29, 42] := bH_c (n := 20) (by decide +kernel)
theorem dL_law_0 : decode cL_law 0 = .ok (.new 7, 3) := de187 hL_law_0 0 rfl rfl rfl
theorem dL_law_3 : decode cL_law 3 = .ok (.dup, 1) := de89 hL_law_0 3 rfl rfl
theorem dL_law_4 : decode cL_law 4 = .ok (.invokespecial 9, 3) := de183 hL_law_0 4 rfl rfl rfl
theorem dL_law_7 : decode cL_law 7 = .ok (.astore_n 1, 1) := de76 hL_law_0 7 rfl rfl
theorem dL_law_8 : decode cL_law 8 = .ok (.new 10, 3) := de187 hL_law_0 8 rfl rfl rfl
theorem dL_law_11 : decode cL_law 11 = .ok (.dup, 1) := de89 hL_law_0 11 rfl rfl
theorem dL_law_12 : decode cL_law 12 = .ok (.invokespecial 12, 3) := de183 hL_law_0 12 rfl rfl rfl
theorem dL_law_15 : decode cL_law 15 = .ok (.astore_n 2, 1) := de77 hL_law_0 15 rfl rfl
theorem dL_law_16 : decode cL_law 16 = .ok (.iconst 0, 1) := de3 hL_law_0 16 rfl rfl
theorem dL_law_17 : decode cL_law 17 = .ok (.istore_n 3, 1) := de62 hL_law_0 17 rfl rfl
theorem dL_law_18 : decode cL_law 18 = .ok (.iload_n 3, 1) := de29 hL_law_0 18 rfl rfl
theorem dL_law_19 : decode cL_law 19 = .ok (.aload_n 0, 1) := de42 hL_law_0 19 rfl rfl
theorem hL_law_20 : bHas cL_law 20 [190, 16, 8, 100, 163, 5, 3, 42, 29, 46, 16, 31, 126] := bH_c (n := 13) (by decide +kernel)
theorem dL_law_20 : decode cL_law 20 = .ok (.arraylength, 1) := de190 hL_law_20 0 rfl rfl
theorem dL_law_21 : decode cL_law 21 = .ok (.bipush 8, 2) := de16 hL_law_20 1 rfl rfl rfl
theorem dL_law_23 : decode cL_law 23 = .ok (.isub, 1) := de100 hL_law_20 3 rfl rfl
theorem dL_law_24 : decode cL_law 24 = .ok (.if_icmp .gt 1283, 3) := de163 hL_law_20 4 rfl rfl (by decide +kernel)
theorem dL_law_27 : decode cL_law 27 = .ok (.aload_n 0, 1) := de42 hL_law_20 7 rfl rfl
theorem dL_law_28 : decode cL_law 28 = .ok (.iload_n 3, 1) := de29 hL_law_20 8 rfl rfl
theorem dL_law_29 : decode cL_law 29 = .ok (.iaload, 1) := de46 hL_law_20 9 rfl rfl
theorem dL_law_30 : decode cL_law 30 = .ok (.bipush 31, 2) := de16 hL_law_20 10 rfl rfl rfl
theorem dL_law_32 : decode cL_law 32 = .ok (.iand, 1) := de126 hL_law_20 12 rfl rfl
theorem dL_law_33 : decode cL_law 33 = .ok (.tableswitch 1268 0 30 #[139, 172, 215, 248, 291, 334, 347, 370, 383, 396, 419, 462, 495, 538, 571, 604, 667, 680, 733, 808, 895, 938, 991, 1034, 1067, 1100, 1133, 1166, 1199, 1222, 1245], 139) := by decide +kernel
theorem hL_law_172 : bHas cL_law 172 [43, 42, 29, 4, 96, 46, 42, 29, 5, 96, 46, 182, 0, 13] := bH_c (n := 14) (by decide +kernel)
theorem dL_law_172 : decode cL_law 172 = .ok (.aload_n 1, 1) := de43 hL_law_172 0 rfl rfl
theorem dL_law_173 : decode cL_law 173 = .ok (.aload_n 0, 1) := de42 hL_law_172 1 rfl rfl
theorem dL_law_174 : decode cL_law 174 = .ok (.iload_n 3, 1) := de29 hL_law_172 2 rfl rfl
theorem dL_law_175 : decode cL_law 175 = .ok (.iconst 1, 1) := de4 hL_law_172 3 rfl rfl
theorem dL_law_176 : decode cL_law 176 = .ok (.iadd, 1) := de96 hL_law_172 4 rfl rfl
theorem dL_law_177 : decode cL_law 177 = .ok (.iaload, 1) := de46 hL_law_172 5 rfl rfl
theorem dL_law_178 : decode cL_law 178 = .ok (.aload_n 0, 1) := de42 hL_law_172 6 rfl rfl
theorem dL_law_179 : decode cL_law 179 = .ok (.iload_n 3, 1) := de29 hL_law_172 7 rfl rfl
theorem dL_law_180 : decode cL_law 180 = .ok (.iconst 2, 1) := de5 hL_law_172 8 rfl rfl
theorem dL_law_181 : decode cL_law 181 = .ok (.iadd, 1) := de96 hL_law_172 9 rfl rfl
theorem dL_law_182 : decode cL_law 182 = .ok (.iaload, 1) := de46 hL_law_172 10 rfl rfl
theorem dL_law_183 : decode cL_law 183 = .ok (.invokevirtual 13, 3) := de182 hL_law_172 11 rfl rfl rfl
theorem hL_law_186 : bHas cL_law 186 [87, 44, 42, 29, 4, 96, 46, 42, 29, 5, 96, 46] := bH_c (n := 12) (by decide +kernel)
theorem dL_law_186 : decode cL_law 186 = .ok (.pop, 1) := de87 hL_law_186 0 rfl rfl
theorem dL_law_187 : decode cL_law 187 = .ok (.aload_n 2, 1) := de44 hL_law_186 1 rfl rfl
theorem dL_law_188 : decode cL_law 188 = .ok (.aload_n 0, 1) := de42 hL_law_186 2 rfl rfl
theorem dL_law_189 : decode cL_law 189 = .ok (.iload_n 3, 1) := de29 hL_law_186 3 rfl rfl
theorem dL_law_190 : decode cL_law 190 = .ok (.iconst 1, 1) := de4 hL_law_186 4 rfl rfl
theorem dL_law_191 : decode cL_law 191 = .ok (.iadd, 1) := de96 hL_law_186 5 rfl rfl
theorem dL_law_192 : decode cL_law 192 = .ok (.iaload, 1) := de46 hL_law_186 6 rfl rfl
theorem dL_law_193 : decode cL_law 193 = .ok (.aload_n 0, 1) := de42 hL_law_186 7 rfl rfl
theorem dL_law_194 : decode cL_law 194 = .ok (.iload_n 3, 1) := de29 hL_law_186 8 rfl rfl
theorem dL_law_195 : decode cL_law 195 = .ok (.iconst 2, 1) := de5 hL_law_186 9 rfl rfl
theorem dL_law_196 : decode cL_law 196 = .ok (.iadd, 1) := de96 hL_law_186 10 rfl rfl
theorem dL_law_197 : decode cL_law 197 = .ok (.iaload, 1) := de46 hL_law_186 11 rfl rfl
theorem hL_law_198 : bHas cL_law 198 [182, 0, 17, 87, 167, 4, 75, 43, 42, 29, 4, 96, 46, 42, 29, 5] := bH_c (n := 16) (by decide +kernel)
theorem dL_law_198 : decode cL_law 198 = .ok (.invokevirtual 17, 3) := de182 hL_law_198 0 rfl rfl rfl
theorem dL_law_201 : decode cL_law 201 = .ok (.pop, 1) := de87 hL_law_198 3 rfl rfl
theorem dL_law_202 : decode cL_law 202 = .ok (.goto 1099, 3) := de167 hL_law_198 4 rfl rfl (by decide +kernel)
theorem dL_law_205 : decode cL_law 205 = .ok (.aload_n 1, 1) := de43 hL_law_198 7 rfl rfl
theorem dL_law_206 : decode cL_law 206 = .ok (.aload_n 0, 1) := de42 hL_law_198 8 rfl rfl
theorem dL_law_207 : decode cL_law 207 = .ok (.iload_n 3, 1) := de29 hL_law_198 9 rfl rfl
theorem dL_law_208 : decode cL_law 208 = .ok (.iconst 1, 1) := de4 hL_law_198 10 rfl rfl
theorem dL_law_209 : decode cL_law 209 = .ok (.iadd, 1) := de96 hL_law_198 11 rfl rfl
theorem dL_law_210 : decode cL_law 210 = .ok (.iaload, 1) := de46 hL_law_198 12 rfl rfl
theorem dL_law_211 : decode cL_law 211 = .ok (.aload_n 0, 1) := de42 hL_law_198 13 rfl rfl
theorem dL_law_212 : decode cL_law 212 = .ok (.iload_n 3, 1) := de29 hL_law_198 14 rfl rfl
theorem dL_law_213 : decode cL_law 213 = .ok (.iconst 2, 1) := de5 hL_law_198 15 rfl rfl
theorem hL_law_214 : bHas cL_law 214 [96, 46, 42, 29, 6, 96, 46, 182, 0, 18, 87, 44, 42, 29] := bH_c (n := 14) (by decide +kernel)
theorem dL_law_214 : decode cL_law 214 = .ok (.iadd, 1) := de96 hL_law_214 0 rfl rfl
theorem dL_law_215 : decode cL_law 215 = .ok (.iaload, 1) := de46 hL_law_214 1 rfl rfl
theorem dL_law_216 : decode cL_law 216 = .ok (.aload_n 0, 1) := de42 hL_law_214 2 rfl rfl
theorem dL_law_217 : decode cL_law 217 = .ok (.iload_n 3, 1) := de29 hL_law_214 3 rfl rfl
theorem dL_law_218 : decode cL_law 218 = .ok (.iconst 3, 1) := de6 hL_law_214 4 rfl rfl
theorem dL_law_219 : decode cL_law 219 = .ok (.iadd, 1) := de96 hL_law_214 5 rfl rfl
theorem dL_law_220 : decode cL_law 220 = .ok (.iaload, 1) := de46 hL_law_214 6 rfl rfl
theorem dL_law_221 : decode cL_law 221 = .ok (.invokevirtual 18, 3) := de182 hL_law_214 7 rfl rfl rfl
theorem dL_law_224 : decode cL_law 224 = .ok (.pop, 1) := de87 hL_law_214 10 rfl rfl
theorem dL_law_225 : decode cL_law 225 = .ok (.aload_n 2, 1) := de44 hL_law_214 11 rfl rfl
theorem dL_law_226 : decode cL_law 226 = .ok (.aload_n 0, 1) := de42 hL_law_214 12 rfl rfl
theorem dL_law_227 : decode cL_law 227 = .ok (.iload_n 3, 1) := de29 hL_law_214 13 rfl rfl
theorem hL_law_228 : bHas cL_law 228 [4, 96, 46, 42, 29, 5, 96, 46, 42, 29, 6, 96] := bH_c (n := 12) (by decide +kernel)
theorem dL_law_228 : decode cL_law 228 = .ok (.iconst 1, 1) := de4 hL_law_228 0 rfl rfl
theorem dL_law_229 : decode cL_law 229 = .ok (.iadd, 1) := de96 hL_law_228 1 rfl rfl
theorem dL_law_230 : decode cL_law 230 = .ok (.iaload, 1) := de46 hL_law_228 2 rfl rfl
theorem dL_law_231 : decode cL_law 231 = .ok (.aload_n 0, 1) := de42 hL_law_228 3 rfl rfl
theorem dL_law_232 : decode cL_law 232 = .ok (.iload_n 3, 1) := de29 hL_law_228 4 rfl rfl
theorem dL_law_233 : decode cL_law 233 = .ok (.iconst 2, 1) := de5 hL_law_228 5 rfl rfl
theorem dL_law_234 : decode cL_law 234 = .ok (.iadd, 1) := de96 hL_law_228 6 rfl rfl
theorem dL_law_235 : decode cL_law 235 = .ok (.iaload, 1) := de46 hL_law_228 7 rfl rfl
theorem dL_law_236 : decode cL_law 236 = .ok (.aload_n 0, 1) := de42 hL_law_228 8 rfl rfl
theorem dL_law_237 : decode cL_law 237 = .ok (.iload_n 3, 1) := de29 hL_law_228 9 rfl rfl
theorem dL_law_238 : decode cL_law 238 = .ok (.iconst 3, 1) := de6 hL_law_228 10 rfl rfl
theorem dL_law_239 : decode cL_law 239 = .ok (.iadd, 1) := de96 hL_law_228 11 rfl rfl
theorem hL_law_240 : bHas cL_law 240 [46, 182, 0, 22, 87, 167, 4, 32, 43, 42, 29, 4, 96, 46, 42, 29] := bH_c (n := 16) (by decide +kernel)
theorem dL_law_240 : decode cL_law 240 = .ok (.iaload, 1) := de46 hL_law_240 0 rfl rfl
theorem dL_law_241 : decode cL_law 241 = .ok (.invokevirtual 22, 3) := de182 hL_law_240 1 rfl rfl rfl
theorem dL_law_244 : decode cL_law 244 = .ok (.pop, 1) := de87 hL_law_240 4 rfl rfl
theorem dL_law_245 : decode cL_law 245 = .ok (.goto 1056, 3) := de167 hL_law_240 5 rfl rfl (by decide +kernel)
theorem dL_law_248 : decode cL_law 248 = .ok (.aload_n 1, 1) := de43 hL_law_240 8 rfl rfl
theorem dL_law_249 : decode cL_law 249 = .ok (.aload_n 0, 1) := de42 hL_law_240 9 rfl rfl
theorem dL_law_250 : decode cL_law 250 = .ok (.iload_n 3, 1) := de29 hL_law_240 10 rfl rfl
theorem dL_law_251 : decode cL_law 251 = .ok (.iconst 1, 1) := de4 hL_law_240 11 rfl rfl
theorem dL_law_252 : decode cL_law 252 = .ok (.iadd, 1) := de96 hL_law_240 12 rfl rfl
theorem dL_law_253 : decode cL_law 253 = .ok (.iaload, 1) := de46 hL_law_240 13 rfl rfl
theorem dL_law_254 : decode cL_law 254 = .ok (.aload_n 0, 1) := de42 hL_law_240 14 rfl rfl
theorem dL_law_255 : decode cL_law 255 = .ok (.iload_n 3, 1) := de29 hL_law_240 15 rfl rfl
theorem hL_law_256 : bHas cL_law 256 [5, 96, 46, 182, 0, 23, 87, 44, 42, 29, 4, 96, 46, 42] := bH_c (n := 14) (by decide +kernel)
theorem dL_law_256 : decode cL_law 256 = .ok (.iconst 2, 1) := de5 hL_law_256 0 rfl rfl
theorem dL_law_257 : decode cL_law 257 = .ok (.iadd, 1) := de96 hL_law_256 1 rfl rfl
theorem dL_law_258 : decode cL_law 258 = .ok (.iaload, 1) := de46 hL_law_256 2 rfl rfl
theorem dL_law_259 : decode cL_law 259 = .ok (.invokevirtual 23, 3) := de182 hL_law_256 3 rfl rfl rfl
theorem dL_law_262 : decode cL_law 262 = .ok (.pop, 1) := de87 hL_law_256 6 rfl rfl
theorem dL_law_263 : decode cL_law 263 = .ok (.aload_n 2, 1) := de44 hL_law_256 7 rfl rfl
theorem dL_law_264 : decode cL_law 264 = .ok (.aload_n 0, 1) := de42 hL_law_256 8 rfl rfl
theorem dL_law_265 : decode cL_law 265 = .ok (.iload_n 3, 1) := de29 hL_law_256 9 rfl rfl
theorem dL_law_266 : decode cL_law 266 = .ok (.iconst 1, 1) := de4 hL_law_256 10 rfl rfl
theorem dL_law_267 : decode cL_law 267 = .ok (.iadd, 1) := de96 hL_law_256 11 rfl rfl
theorem dL_law_268 : decode cL_law 268 = .ok (.iaload, 1) := de46 hL_law_256 12 rfl rfl
theorem dL_law_269 : decode cL_law 269 = .ok (.aload_n 0, 1) := de42 hL_law_256 13 rfl rfl
theorem hL_law_270 : bHas cL_law 270 [29, 5, 96, 46, 182, 0, 26, 87, 167, 3, 255, 43, 42, 29, 4, 96] := bH_c (n := 16) (by decide +kernel)
theorem dL_law_270 : decode cL_law 270 = .ok (.iload_n 3, 1) := de29 hL_law_270 0 rfl rfl
theorem dL_law_271 : decode cL_law 271 = .ok (.iconst 2, 1) := de5 hL_law_270 1 rfl rfl
theorem dL_law_272 : decode cL_law 272 = .ok (.iadd, 1) := de96 hL_law_270 2 rfl rfl
theorem dL_law_273 : decode cL_law 273 = .ok (.iaload, 1) := de46 hL_law_270 3 rfl rfl
theorem dL_law_274 : decode cL_law 274 = .ok (.invokevirtual 26, 3) := de182 hL_law_270 4 rfl rfl rfl
theorem dL_law_277 : decode cL_law 277 = .ok (.pop, 1) := de87 hL_law_270 7 rfl rfl
theorem dL_law_278 : decode cL_law 278 = .ok (.goto 1023, 3) := de167 hL_law_270 8 rfl rfl (by decide +kernel)
theorem dL_law_281 : decode cL_law 281 = .ok (.aload_n 1, 1) := de43 hL_law_270 11 rfl rfl
theorem dL_law_282 : decode cL_law 282 = .ok (.aload_n 0, 1) := de42 hL_law_270 12 rfl rfl
theorem dL_law_283 : decode cL_law 283 = .ok (.iload_n 3, 1) := de29 hL_law_270 13 rfl rfl
theorem dL_law_284 : decode cL_law 284 = .ok (.iconst 1, 1) := de4 hL_law_270 14 rfl rfl
theorem dL_law_285 : decode cL_law 285 = .ok (.iadd, 1) := de96 hL_law_270 15 rfl rfl
theorem hL_law_286 : bHas cL_law 286 [46, 42, 29, 5, 96, 46, 42, 29, 6, 96, 46, 182, 0, 27] := bH_c (n := 14) (by decide +kernel)
theorem dL_law_286 : decode cL_law 286 = .ok (.iaload, 1) := de46 hL_law_286 0 rfl rfl
theorem dL_law_287 : decode cL_law 287 = .ok (.aload_n 0, 1) := de42 hL_law_286 1 rfl rfl
theorem dL_law_288 : decode cL_law 288 = .ok (.iload_n 3, 1) := de29 hL_law_286 2 rfl rfl
theorem dL_law_289 : decode cL_law 289 = .ok (.iconst 2, 1) := de5 hL_law_286 3 rfl rfl
theorem dL_law_290 : decode cL_law 290 = .ok (.iadd, 1) := de96 hL_law_286 4 rfl rfl
theorem dL_law_291 : decode cL_law 291 = .ok (.iaload, 1) := de46 hL_law_286 5 rfl rfl
theorem dL_law_292 : decode cL_law 292 = .ok (.aload_n 0, 1) := de42 hL_law_286 6 rfl rfl
theorem dL_law_293 : decode cL_law 293 = .ok (.iload_n 3, 1) := de29 hL_law_286 7 rfl rfl
theorem dL_law_294 : decode cL_law 294 = .ok (.iconst 3, 1) := de6 hL_law_286 8 rfl rfl
theorem dL_law_295 : decode cL_law 295 = .ok (.iadd, 1) := de96 hL_law_286 9 rfl rfl
theorem dL_law_296 : decode cL_law 296 = .ok (.iaload, 1) := de46 hL_law_286 10 rfl rfl
theorem dL_law_297 : decode cL_law 297 = .ok (.invokevirtual 27, 3) := de182 hL_law_286 11 rfl rfl rfl
theorem hL_law_300 : bHas cL_law 300 [87, 44, 42, 29, 4, 96, 46, 42, 29, 5, 96, 46] := bH_c (n := 12) (by decide +kernel)
theorem dL_law_300 : decode cL_law 300 = .ok (.pop, 1) := de87 hL_law_300 0 rfl rfl
theorem dL_law_301 : decode cL_law 301 = .ok (.aload_n 2, 1) := de44 hL_law_300 1 rfl rfl
theorem dL_law_302 : decode cL_law 302 = .ok (.aload_n 0, 1) := de42 hL_law_300 2 rfl rfl
theorem dL_law_303 : decode cL_law 303 = .ok (.iload_n 3, 1) := de29 hL_law_300 3 rfl rfl
theorem dL_law_304 : decode cL_law 304 = .ok (.iconst 1, 1) := de4 hL_law_300 4 rfl rfl
theorem dL_law_305 : decode cL_law 305 = .ok (.iadd, 1) := de96 hL_law_300 5 rfl rfl
theorem dL_law_306 : decode cL_law 306 = .ok (.iaload, 1) := de46 hL_law_300 6 rfl rfl
theorem dL_law_307 : decode cL_law 307 = .ok (.aload_n 0, 1) := de42 hL_law_300 7 rfl rfl
theorem dL_law_308 : decode cL_law 308 = .ok (.iload_n 3, 1) := de29 hL_law_300 8 rfl rfl
theorem dL_law_309 : decode cL_law 309 = .ok (.iconst 2, 1) := de5 hL_law_300 9 rfl rfl
theorem dL_law_310 : decode cL_law 310 = .ok (.iadd, 1) := de96 hL_law_300 10 rfl rfl
theorem dL_law_311 : decode cL_law 311 = .ok (.iaload, 1) := de46 hL_law_300 11 rfl rfl
theorem hL_law_312 : bHas cL_law 312 [42, 29, 6, 96, 46, 182, 0, 30, 87, 167, 3, 212, 43, 42, 29, 4] := bH_c (n := 16) (by decide +kernel)
theorem dL_law_312 : decode cL_law 312 = .ok (.aload_n 0, 1) := de42 hL_law_312 0 rfl rfl
theorem dL_law_313 : decode cL_law 313 = .ok (.iload_n 3, 1) := de29 hL_law_312 1 rfl rfl
theorem dL_law_314 : decode cL_law 314 = .ok (.iconst 3, 1) := de6 hL_law_312 2 rfl rfl
theorem dL_law_315 : decode cL_law 315 = .ok (.iadd, 1) := de96 hL_law_312 3 rfl rfl
theorem dL_law_316 : decode cL_law 316 = .ok (.iaload, 1) := de46 hL_law_312 4 rfl rfl
theorem dL_law_317 : decode cL_law 317 = .ok (.invokevirtual 30, 3) := de182 hL_law_312 5 rfl rfl rfl
theorem dL_law_320 : decode cL_law 320 = .ok (.pop, 1) := de87 hL_law_312 8 rfl rfl
theorem dL_law_321 : decode cL_law 321 = .ok (.goto 980, 3) := de167 hL_law_312 9 rfl rfl (by decide +kernel)
theorem dL_law_324 : decode cL_law 324 = .ok (.aload_n 1, 1) := de43 hL_law_312 12 rfl rfl
theorem dL_law_325 : decode cL_law 325 = .ok (.aload_n 0, 1) := de42 hL_law_312 13 rfl rfl
theorem dL_law_326 : decode cL_law 326 = .ok (.iload_n 3, 1) := de29 hL_law_312 14 rfl rfl
theorem dL_law_327 : decode cL_law 327 = .ok (.iconst 1, 1) := de4 hL_law_312 15 rfl rfl
theorem hL_law_328 : bHas cL_law 328 [96, 46, 42, 29, 5, 96, 46, 42, 29, 6, 96, 46] := bH_c (n := 12) (by decide +kernel)
theorem dL_law_328 : decode cL_law 328 = .ok (.iadd, 1) := de96 hL_law_328 0 rfl rfl
theorem dL_law_329 : decode cL_law 329 = .ok (.iaload, 1) := de46 hL_law_328 1 rfl rfl
theorem dL_law_330 : decode cL_law 330 = .ok (.aload_n 0, 1) := de42 hL_law_328 2 rfl rfl
theorem dL_law_331 : decode cL_law 331 = .ok (.iload_n 3, 1) := de29 hL_law_328 3 rfl rfl
theorem dL_law_332 : decode cL_law 332 = .ok (.iconst 2, 1) := de5 hL_law_328 4 rfl rfl
theorem dL_law_333 : decode cL_law 333 = .ok (.iadd, 1) := de96 hL_law_328 5 rfl rfl
theorem dL_law_334 : decode cL_law 334 = .ok (.iaload, 1) := de46 hL_law_328 6 rfl rfl
theorem dL_law_335 : decode cL_law 335 = .ok (.aload_n 0, 1) := de42 hL_law_328 7 rfl rfl
theorem dL_law_336 : decode cL_law 336 = .ok (.iload_n 3, 1) := de29 hL_law_328 8 rfl rfl
theorem dL_law_337 : decode cL_law 337 = .ok (.iconst 3, 1) := de6 hL_law_328 9 rfl rfl
theorem dL_law_338 : decode cL_law 338 = .ok (.iadd, 1) := de96 hL_law_328 10 rfl rfl
theorem dL_law_339 : decode cL_law 339 = .ok (.iaload, 1) := de46 hL_law_328 11 rfl rfl
theorem hL_law_340 : bHas cL_law 340 [182, 0, 31, 87, 44, 42, 29, 4, 96, 46, 42, 29, 5, 96] := bH_c (n := 14) (by decide +kernel)
theorem dL_law_340 : decode cL_law 340 = .ok (.invokevirtual 31, 3) := de182 hL_law_340 0 rfl rfl rfl
theorem dL_law_343 : decode cL_law 343 = .ok (.pop, 1) := de87 hL_law_340 3 rfl rfl
theorem dL_law_344 : decode cL_law 344 = .ok (.aload_n 2, 1) := de44 hL_law_340 4 rfl rfl
theorem dL_law_345 : decode cL_law 345 = .ok (.aload_n 0, 1) := de42 hL_law_340 5 rfl rfl
theorem dL_law_346 : decode cL_law 346 = .ok (.iload_n 3, 1) := de29 hL_law_340 6 rfl rfl
theorem dL_law_347 : decode cL_law 347 = .ok (.iconst 1, 1) := de4 hL_law_340 7 rfl rfl
theorem dL_law_348 : decode cL_law 348 = .ok (.iadd, 1) := de96 hL_law_340 8 rfl rfl
theorem dL_law_349 : decode cL_law 349 = .ok (.iaload, 1) := de46 hL_law_340 9 rfl rfl
theorem dL_law_350 : decode cL_law 350 = .ok (.aload_n 0, 1) := de42 hL_law_340 10 rfl rfl
theorem dL_law_351 : decode cL_law 351 = .ok (.iload_n 3, 1) := de29 hL_law_340 11 rfl rfl
theorem dL_law_352 : decode cL_law 352 = .ok (.iconst 2, 1) := de5 hL_law_340 12 rfl rfl
theorem dL_law_353 : decode cL_law 353 = .ok (.iadd, 1) := de96 hL_law_340 13 rfl rfl
theorem hL_law_354 : bHas cL_law 354 [46, 42, 29, 6, 96, 46, 182, 0, 34, 87, 167, 3, 169, 43, 182, 0, 35, 87] := bH_c (n := 18) (by decide +kernel)
theorem dL_law_354 : decode cL_law 354 = .ok (.iaload, 1) := de46 hL_law_354 0 rfl rfl
theorem dL_law_355 : decode cL_law 355 = .ok (.aload_n 0, 1) := de42 hL_law_354 1 rfl rfl
theorem dL_law_356 : decode cL_law 356 = .ok (.iload_n 3, 1) := de29 hL_law_354 2 rfl rfl
theorem dL_law_357 : decode cL_law 357 = .ok (.iconst 3, 1) := de6 hL_law_354 3 rfl rfl
theorem dL_law_358 : decode cL_law 358 = .ok (.iadd, 1) := de96 hL_law_354 4 rfl rfl
theorem dL_law_359 : decode cL_law 359 = .ok (.iaload, 1) := de46 hL_law_354 5 rfl rfl
theorem dL_law_360 : decode cL_law 360 = .ok (.invokevirtual 34, 3) := de182 hL_law_354 6 rfl rfl rfl
theorem dL_law_363 : decode cL_law 363 = .ok (.pop, 1) := de87 hL_law_354 9 rfl rfl
theorem dL_law_364 : decode cL_law 364 = .ok (.goto 937, 3) := de167 hL_law_354 10 rfl rfl (by decide +kernel)
theorem dL_law_367 : decode cL_law 367 = .ok (.aload_n 1, 1) := de43 hL_law_354 13 rfl rfl
theorem dL_law_368 : decode cL_law 368 = .ok (.invokevirtual 35, 3) := de182 hL_law_354 14 rfl rfl rfl
theorem dL_law_371 : decode cL_law 371 = .ok (.pop, 1) := de87 hL_law_354 17 rfl rfl
theorem hL_law_372 : bHas cL_law 372 [44, 182, 0, 39, 87, 167, 3, 156, 43, 42, 29, 4, 96, 46, 182, 0, 40, 87] := bH_c (n := 18) (by decide +kernel)
theorem dL_law_372 : decode cL_law 372 = .ok (.aload_n 2, 1) := de44 hL_law_372 0 rfl rfl
theorem dL_law_373 : decode cL_law 373 = .ok (.invokevirtual 39, 3) := de182 hL_law_372 1 rfl rfl rfl
theorem dL_law_376 : decode cL_law 376 = .ok (.pop, 1) := de87 hL_law_372 4 rfl rfl
theorem dL_law_377 : decode cL_law 377 = .ok (.goto 924, 3) := de167 hL_law_372 5 rfl rfl (by decide +kernel)
theorem dL_law_380 : decode cL_law 380 = .ok (.aload_n 1, 1) := de43 hL_law_372 8 rfl rfl
theorem dL_law_381 : decode cL_law 381 = .ok (.aload_n 0, 1) := de42 hL_law_372 9 rfl rfl
theorem dL_law_382 : decode cL_law 382 = .ok (.iload_n 3, 1) := de29 hL_law_372 10 rfl rfl
theorem dL_law_383 : decode cL_law 383 = .ok (.iconst 1, 1) := de4 hL_law_372 11 rfl rfl
theorem dL_law_384 : decode cL_law 384 = .ok (.iadd, 1) := de96 hL_law_372 12 rfl rfl
theorem dL_law_385 : decode cL_law 385 = .ok (.iaload, 1) := de46 hL_law_372 13 rfl rfl
theorem dL_law_386 : decode cL_law 386 = .ok (.invokevirtual 40, 3) := de182 hL_law_372 14 rfl rfl rfl
theorem dL_law_389 : decode cL_law 389 = .ok (.pop, 1) := de87 hL_law_372 17 rfl rfl
theorem hL_law_390 : bHas cL_law 390 [44, 42, 29, 4, 96, 46, 182, 0, 44, 87, 167, 3, 133, 43, 182, 0, 45, 87] := bH_c (n := 18) (by decide +kernel)
theorem dL_law_390 : decode cL_law 390 = .ok (.aload_n 2, 1) := de44 hL_law_390 0 rfl rfl
theorem dL_law_391 : decode cL_law 391 = .ok (.aload_n 0, 1) := de42 hL_law_390 1 rfl rfl
theorem dL_law_392 : decode cL_law 392 = .ok (.iload_n 3, 1) := de29 hL_law_390 2 rfl rfl
theorem dL_law_393 : decode cL_law 393 = .ok (.iconst 1, 1) := de4 hL_law_390 3 rfl rfl
theorem dL_law_394 : decode cL_law 394 = .ok (.iadd, 1) := de96 hL_law_390 4 rfl rfl
theorem dL_law_395 : decode cL_law 395 = .ok (.iaload, 1) := de46 hL_law_390 5 rfl rfl
theorem dL_law_396 : decode cL_law 396 = .ok (.invokevirtual 44, 3) := de182 hL_law_390 6 rfl rfl rfl
theorem dL_law_399 : decode cL_law 399 = .ok (.pop, 1) := de87 hL_law_390 9 rfl rfl
theorem dL_law_400 : decode cL_law 400 = .ok (.goto 901, 3) := de167 hL_law_390 10 rfl rfl (by decide +kernel)
theorem dL_law_403 : decode cL_law 403 = .ok (.aload_n 1, 1) := de43 hL_law_390 13 rfl rfl
theorem dL_law_404 : decode cL_law 404 = .ok (.invokevirtual 45, 3) := de182 hL_law_390 14 rfl rfl rfl
theorem dL_law_407 : decode cL_law 407 = .ok (.pop, 1) := de87 hL_law_390 17 rfl rfl
theorem hL_law_408 : bHas cL_law 408 [44, 182, 0, 48, 87, 167, 3, 120, 43, 182, 0, 49, 87, 44, 182, 0, 52, 87, 167, 3, 107, 43] := bH_c (n := 22) (by decide +kernel)
theorem dL_law_408 : decode cL_law 408 = .ok (.aload_n 2, 1) := de44 hL_law_408 0 rfl rfl
theorem dL_law_409 : decode cL_law 409 = .ok (.invokevirtual 48, 3) := de182 hL_law_408 1 rfl rfl rfl
theorem dL_law_412 : decode cL_law 412 = .ok (.pop, 1) := de87 hL_law_408 4 rfl rfl
theorem dL_law_413 : decode cL_law 413 = .ok (.goto 888, 3) := de167 hL_law_408 5 rfl rfl (by decide +kernel)
theorem dL_law_416 : decode cL_law 416 = .ok (.aload_n 1, 1) := de43 hL_law_408 8 rfl rfl
theorem dL_law_417 : decode cL_law 417 = .ok (.invokevirtual 49, 3) := de182 hL_law_408 9 rfl rfl rfl
theorem dL_law_420 : decode cL_law 420 = .ok (.pop, 1) := de87 hL_law_408 12 rfl rfl
theorem dL_law_421 : decode cL_law 421 = .ok (.aload_n 2, 1) := de44 hL_law_408 13 rfl rfl
theorem dL_law_422 : decode cL_law 422 = .ok (.invokevirtual 52, 3) := de182 hL_law_408 14 rfl rfl rfl
theorem dL_law_425 : decode cL_law 425 = .ok (.pop, 1) := de87 hL_law_408 17 rfl rfl
theorem dL_law_426 : decode cL_law 426 = .ok (.goto 875, 3) := de167 hL_law_408 18 rfl rfl (by decide +kernel)
theorem dL_law_429 : decode cL_law 429 = .ok (.aload_n 1, 1) := de43 hL_law_408 21 rfl rfl
theorem hL_law_430 : bHas cL_law 430 [42, 29, 4, 96, 46, 182, 0, 53, 87, 44, 42, 29, 4, 96] := bH_c (n := 14) (by decide +kernel)
theorem dL_law_430 : decode cL_law 430 = .ok (.aload_n 0, 1) := de42 hL_law_430 0 rfl rfl
theorem dL_law_431 : decode cL_law 431 = .ok (.iload_n 3, 1) := de29 hL_law_430 1 rfl rfl
theorem dL_law_432 : decode cL_law 432 = .ok (.iconst 1, 1) := de4 hL_law_430 2 rfl rfl
theorem dL_law_433 : decode cL_law 433 = .ok (.iadd, 1) := de96 hL_law_430 3 rfl rfl
theorem dL_law_434 : decode cL_law 434 = .ok (.iaload, 1) := de46 hL_law_430 4 rfl rfl
theorem dL_law_435 : decode cL_law 435 = .ok (.invokevirtual 53, 3) := de182 hL_law_430 5 rfl rfl rfl
theorem dL_law_438 : decode cL_law 438 = .ok (.pop, 1) := de87 hL_law_430 8 rfl rfl
theorem dL_law_439 : decode cL_law 439 = .ok (.aload_n 2, 1) := de44 hL_law_430 9 rfl rfl
theorem dL_law_440 : decode cL_law 440 = .ok (.aload_n 0, 1) := de42 hL_law_430 10 rfl rfl
theorem dL_law_441 : decode cL_law 441 = .ok (.iload_n 3, 1) := de29 hL_law_430 11 rfl rfl
theorem dL_law_442 : decode cL_law 442 = .ok (.iconst 1, 1) := de4 hL_law_430 12 rfl rfl
theorem dL_law_443 : decode cL_law 443 = .ok (.iadd, 1) := de96 hL_law_430 13 rfl rfl
theorem hL_law_444 : bHas cL_law 444 [46, 182, 0, 56, 87, 167, 3, 84, 43, 42, 29, 4, 96, 46, 42, 29] := bH_c (n := 16) (by decide +kernel)
theorem dL_law_444 : decode cL_law 444 = .ok (.iaload, 1) := de46 hL_law_444 0 rfl rfl
theorem dL_law_445 : decode cL_law 445 = .ok (.invokevirtual 56, 3) := de182 hL_law_444 1 rfl rfl rfl
theorem dL_law_448 : decode cL_law 448 = .ok (.pop, 1) := de87 hL_law_444 4 rfl rfl
theorem dL_law_449 : decode cL_law 449 = .ok (.goto 852, 3) := de167 hL_law_444 5 rfl rfl (by decide +kernel)
theorem dL_law_452 : decode cL_law 452 = .ok (.aload_n 1, 1) := de43 hL_law_444 8 rfl rfl
theorem dL_law_453 : decode cL_law 453 = .ok (.aload_n 0, 1) := de42 hL_law_444 9 rfl rfl
theorem dL_law_454 : decode cL_law 454 = .ok (.iload_n 3, 1) := de29 hL_law_444 10 rfl rfl
theorem dL_law_455 : decode cL_law 455 = .ok (.iconst 1, 1) := de4 hL_law_444 11 rfl rfl
theorem dL_law_456 : decode cL_law 456 = .ok (.iadd, 1) := de96 hL_law_444 12 rfl rfl
theorem dL_law_457 : decode cL_law 457 = .ok (.iaload, 1) := de46 hL_law_444 13 rfl rfl
theorem dL_law_458 : decode cL_law 458 = .ok (.aload_n 0, 1) := de42 hL_law_444 14 rfl rfl
theorem dL_law_459 : decode cL_law 459 = .ok (.iload_n 3, 1) := de29 hL_law_444 15 rfl rfl
theorem hL_law_460 : bHas cL_law 460 [5, 96, 46, 42, 29, 6, 96, 46, 182, 0, 57, 87, 44, 42] := bH_c (n := 14) (by decide +kernel)
theorem dL_law_460 : decode cL_law 460 = .ok (.iconst 2, 1) := de5 hL_law_460 0 rfl rfl
theorem dL_law_461 : decode cL_law 461 = .ok (.iadd, 1) := de96 hL_law_460 1 rfl rfl
theorem dL_law_462 : decode cL_law 462 = .ok (.iaload, 1) := de46 hL_law_460 2 rfl rfl
theorem dL_law_463 : decode cL_law 463 = .ok (.aload_n 0, 1) := de42 hL_law_460 3 rfl rfl
theorem dL_law_464 : decode cL_law 464 = .ok (.iload_n 3, 1) := de29 hL_law_460 4 rfl rfl
theorem dL_law_465 : decode cL_law 465 = .ok (.iconst 3, 1) := de6 hL_law_460 5 rfl rfl
theorem dL_law_466 : decode cL_law 466 = .ok (.iadd, 1) := de96 hL_law_460 6 rfl rfl
theorem dL_law_467 : decode cL_law 467 = .ok (.iaload, 1) := de46 hL_law_460 7 rfl rfl
theorem dL_law_468 : decode cL_law 468 = .ok (.invokevirtual 57, 3) := de182 hL_law_460 8 rfl rfl rfl
theorem dL_law_471 : decode cL_law 471 = .ok (.pop, 1) := de87 hL_law_460 11 rfl rfl
theorem dL_law_472 : decode cL_law 472 = .ok (.aload_n 2, 1) := de44 hL_law_460 12 rfl rfl
theorem dL_law_473 : decode cL_law 473 = .ok (.aload_n 0, 1) := de42 hL_law_460 13 rfl rfl
theorem hL_law_474 : bHas cL_law 474 [29, 4, 96, 46, 42, 29, 5, 96, 46, 42, 29, 6] := bH_c (n := 12) (by decide +kernel)
theorem dL_law_474 : decode cL_law 474 = .ok (.iload_n 3, 1) := de29 hL_law_474 0 rfl rfl
theorem dL_law_475 : decode cL_law 475 = .ok (.iconst 1, 1) := de4 hL_law_474 1 rfl rfl
theorem dL_law_476 : decode cL_law 476 = .ok (.iadd, 1) := de96 hL_law_474 2 rfl rfl
theorem dL_law_477 : decode cL_law 477 = .ok (.iaload, 1) := de46 hL_law_474 3 rfl rfl
theorem dL_law_478 : decode cL_law 478 = .ok (.aload_n 0, 1) := de42 hL_law_474 4 rfl rfl
theorem dL_law_479 : decode cL_law 479 = .ok (.iload_n 3, 1) := de29 hL_law_474 5 rfl rfl
theorem dL_law_480 : decode cL_law 480 = .ok (.iconst 2, 1) := de5 hL_law_474 6 rfl rfl
theorem dL_law_481 : decode cL_law 481 = .ok (.iadd, 1) := de96 hL_law_474 7 rfl rfl
theorem dL_law_482 : decode cL_law 482 = .ok (.iaload, 1) := de46 hL_law_474 8 rfl rfl
theorem dL_law_483 : decode cL_law 483 = .ok (.aload_n 0, 1) := de42 hL_law_474 9 rfl rfl
theorem dL_law_484 : decode cL_law 484 = .ok (.iload_n 3, 1) := de29 hL_law_474 10 rfl rfl
theorem dL_law_485 : decode cL_law 485 = .ok (.iconst 3, 1) := de6 hL_law_474 11 rfl rfl
theorem hL_law_486 : bHas cL_law 486 [96, 46, 182, 0, 60, 87, 167, 3, 41, 43, 42, 29, 4, 96, 46, 42] := bH_c (n := 16) (by decide +kernel)
theorem dL_law_486 : decode cL_law 486 = .ok (.iadd, 1) := de96 hL_law_486 0 rfl rfl
theorem dL_law_487 : decode cL_law 487 = .ok (.iaload, 1) := de46 hL_law_486 1 rfl rfl
theorem dL_law_488 : decode cL_law 488 = .ok (.invokevirtual 60, 3) := de182 hL_law_486 2 rfl rfl rfl
theorem dL_law_491 : decode cL_law 491 = .ok (.pop, 1) := de87 hL_law_486 5 rfl rfl
theorem dL_law_492 : decode cL_law 492 = .ok (.goto 809, 3) := de167 hL_law_486 6 rfl rfl (by decide +kernel)
theorem dL_law_495 : decode cL_law 495 = .ok (.aload_n 1, 1) := de43 hL_law_486 9 rfl rfl
theorem dL_law_496 : decode cL_law 496 = .ok (.aload_n 0, 1) := de42 hL_law_486 10 rfl rfl
theorem dL_law_497 : decode cL_law 497 = .ok (.iload_n 3, 1) := de29 hL_law_486 11 rfl rfl
theorem dL_law_498 : decode cL_law 498 = .ok (.iconst 1, 1) := de4 hL_law_486 12 rfl rfl
theorem dL_law_499 : decode cL_law 499 = .ok (.iadd, 1) := de96 hL_law_486 13 rfl rfl
theorem dL_law_500 : decode cL_law 500 = .ok (.iaload, 1) := de46 hL_law_486 14 rfl rfl
theorem dL_law_501 : decode cL_law 501 = .ok (.aload_n 0, 1) := de42 hL_law_486 15 rfl rfl
theorem hL_law_502 : bHas cL_law 502 [29, 5, 96, 46, 182, 0, 61, 87, 44, 42, 29, 4, 96, 46] := bH_c (n := 14) (by decide +kernel)
theorem dL_law_502 : decode cL_law 502 = .ok (.iload_n 3, 1) := de29 hL_law_502 0 rfl rfl
theorem dL_law_503 : decode cL_law 503 = .ok (.iconst 2, 1) := de5 hL_law_502 1 rfl rfl
theorem dL_law_504 : decode cL_law 504 = .ok (.iadd, 1) := de96 hL_law_502 2 rfl rfl
theorem dL_law_505 : decode cL_law 505 = .ok (.iaload, 1) := de46 hL_law_502 3 rfl rfl
theorem dL_law_506 : decode cL_law 506 = .ok (.invokevirtual 61, 3) := de182 hL_law_502 4 rfl rfl rfl
theorem dL_law_509 : decode cL_law 509 = .ok (.pop, 1) := de87 hL_law_502 7 rfl rfl
theorem dL_law_510 : decode cL_law 510 = .ok (.aload_n 2, 1) := de44 hL_law_502 8 rfl rfl
theorem dL_law_511 : decode cL_law 511 = .ok (.aload_n 0, 1) := de42 hL_law_502 9 rfl rfl
theorem dL_law_512 : decode cL_law 512 = .ok (.iload_n 3, 1) := de29 hL_law_502 10 rfl rfl
theorem dL_law_513 : decode cL_law 513 = .ok (.iconst 1, 1) := de4 hL_law_502 11 rfl rfl
theorem dL_law_514 : decode cL_law 514 = .ok (.iadd, 1) := de96 hL_law_502 12 rfl rfl
theorem dL_law_515 : decode cL_law 515 = .ok (.iaload, 1) := de46 hL_law_502 13 rfl rfl
theorem hL_law_516 : bHas cL_law 516 [42, 29, 5, 96, 46, 182, 0, 64, 87, 167, 3, 8, 43, 42, 29, 4] := bH_c (n := 16) (by decide +kernel)
theorem dL_law_516 : decode cL_law 516 = .ok (.aload_n 0, 1) := de42 hL_law_516 0 rfl rfl
theorem dL_law_517 : decode cL_law 517 = .ok (.iload_n 3, 1) := de29 hL_law_516 1 rfl rfl
theorem dL_law_518 : decode cL_law 518 = .ok (.iconst 2, 1) := de5 hL_law_516 2 rfl rfl
theorem dL_law_519 : decode cL_law 519 = .ok (.iadd, 1) := de96 hL_law_516 3 rfl rfl
theorem dL_law_520 : decode cL_law 520 = .ok (.iaload, 1) := de46 hL_law_516 4 rfl rfl
theorem dL_law_521 : decode cL_law 521 = .ok (.invokevirtual 64, 3) := de182 hL_law_516 5 rfl rfl rfl
theorem dL_law_524 : decode cL_law 524 = .ok (.pop, 1) := de87 hL_law_516 8 rfl rfl
theorem dL_law_525 : decode cL_law 525 = .ok (.goto 776, 3) := de167 hL_law_516 9 rfl rfl (by decide +kernel)
theorem dL_law_528 : decode cL_law 528 = .ok (.aload_n 1, 1) := de43 hL_law_516 12 rfl rfl
theorem dL_law_529 : decode cL_law 529 = .ok (.aload_n 0, 1) := de42 hL_law_516 13 rfl rfl
theorem dL_law_530 : decode cL_law 530 = .ok (.iload_n 3, 1) := de29 hL_law_516 14 rfl rfl
theorem dL_law_531 : decode cL_law 531 = .ok (.iconst 1, 1) := de4 hL_law_516 15 rfl rfl
theorem hL_law_532 : bHas cL_law 532 [96, 46, 42, 29, 5, 96, 46, 42, 29, 6, 96, 46] := bH_c (n := 12) (by decide +kernel)
theorem dL_law_532 : decode cL_law 532 = .ok (.iadd, 1) := de96 hL_law_532 0 rfl rfl
theorem dL_law_533 : decode cL_law 533 = .ok (.iaload, 1) := de46 hL_law_532 1 rfl rfl
theorem dL_law_534 : decode cL_law 534 = .ok (.aload_n 0, 1) := de42 hL_law_532 2 rfl rfl
theorem dL_law_535 : decode cL_law 535 = .ok (.iload_n 3, 1) := de29 hL_law_532 3 rfl rfl
theorem dL_law_536 : decode cL_law 536 = .ok (.iconst 2, 1) := de5 hL_law_532 4 rfl rfl
theorem dL_law_537 : decode cL_law 537 = .ok (.iadd, 1) := de96 hL_law_532 5 rfl rfl
theorem dL_law_538 : decode cL_law 538 = .ok (.iaload, 1) := de46 hL_law_532 6 rfl rfl
theorem dL_law_539 : decode cL_law 539 = .ok (.aload_n 0, 1) := de42 hL_law_532 7 rfl rfl
theorem dL_law_540 : decode cL_law 540 = .ok (.iload_n 3, 1) := de29 hL_law_532 8 rfl rfl
theorem dL_law_541 : decode cL_law 541 = .ok (.iconst 3, 1) := de6 hL_law_532 9 rfl rfl
theorem dL_law_542 : decode cL_law 542 = .ok (.iadd, 1) := de96 hL_law_532 10 rfl rfl
theorem dL_law_543 : decode cL_law 543 = .ok (.iaload, 1) := de46 hL_law_532 11 rfl rfl
theorem hL_law_544 : bHas cL_law 544 [182, 0, 65, 87, 44, 42, 29, 4, 96, 46, 42, 29, 5, 96] := bH_c (n := 14) (by decide +kernel)
theorem dL_law_544 : decode cL_law 544 = .ok (.invokevirtual 65, 3) := de182 hL_law_544 0 rfl rfl rfl
theorem dL_law_547 : decode cL_law 547 = .ok (.pop, 1) := de87 hL_law_544 3 rfl rfl
theorem dL_law_548 : decode cL_law 548 = .ok (.aload_n 2, 1) := de44 hL_law_544 4 rfl rfl
theorem dL_law_549 : decode cL_law 549 = .ok (.aload_n 0, 1) := de42 hL_law_544 5 rfl rfl
theorem dL_law_550 : decode cL_law 550 = .ok (.iload_n 3, 1) := de29 hL_law_544 6 rfl rfl
theorem dL_law_551 : decode cL_law 551 = .ok (.iconst 1, 1) := de4 hL_law_544 7 rfl rfl
theorem dL_law_552 : decode cL_law 552 = .ok (.iadd, 1) := de96 hL_law_544 8 rfl rfl
theorem dL_law_553 : decode cL_law 553 = .ok (.iaload, 1) := de46 hL_law_544 9 rfl rfl
theorem dL_law_554 : decode cL_law 554 = .ok (.aload_n 0, 1) := de42 hL_law_544 10 rfl rfl
theorem dL_law_555 : decode cL_law 555 = .ok (.iload_n 3, 1) := de29 hL_law_544 11 rfl rfl
theorem dL_law_556 : decode cL_law 556 = .ok (.iconst 2, 1) := de5 hL_law_544 12 rfl rfl
theorem dL_law_557 : decode cL_law 557 = .ok (.iadd, 1) := de96 hL_law_544 13 rfl rfl
theorem hL_law_558 : bHas cL_law 558 [46, 42, 29, 6, 96, 46, 182, 0, 68, 87, 167, 2, 221, 43, 42, 29] := bH_c (n := 16) (by decide +kernel)
theorem dL_law_558 : decode cL_law 558 = .ok (.iaload, 1) := de46 hL_law_558 0 rfl rfl
theorem dL_law_559 : decode cL_law 559 = .ok (.aload_n 0, 1) := de42 hL_law_558 1 rfl rfl
theorem dL_law_560 : decode cL_law 560 = .ok (.iload_n 3, 1) := de29 hL_law_558 2 rfl rfl
theorem dL_law_561 : decode cL_law 561 = .ok (.iconst 3, 1) := de6 hL_law_558 3 rfl rfl
theorem dL_law_562 : decode cL_law 562 = .ok (.iadd, 1) := de96 hL_law_558 4 rfl rfl
theorem dL_law_563 : decode cL_law 563 = .ok (.iaload, 1) := de46 hL_law_558 5 rfl rfl
theorem dL_law_564 : decode cL_law 564 = .ok (.invokevirtual 68, 3) := de182 hL_law_558 6 rfl rfl rfl
theorem dL_law_567 : decode cL_law 567 = .ok (.pop, 1) := de87 hL_law_558 9 rfl rfl
theorem dL_law_568 : decode cL_law 568 = .ok (.goto 733, 3) := de167 hL_law_558 10 rfl rfl (by decide +kernel)
theorem dL_law_571 : decode cL_law 571 = .ok (.aload_n 1, 1) := de43 hL_law_558 13 rfl rfl
theorem dL_law_572 : decode cL_law 572 = .ok (.aload_n 0, 1) := de42 hL_law_558 14 rfl rfl
theorem dL_law_573 : decode cL_law 573 = .ok (.iload_n 3, 1) := de29 hL_law_558 15 rfl rfl
theorem hL_law_574 : bHas cL_law 574 [4, 96, 46, 42, 29, 5, 96, 46, 182, 0, 69, 87, 44, 42] := bH_c (n := 14) (by decide +kernel)
theorem dL_law_574 : decode cL_law 574 = .ok (.iconst 1, 1) := de4 hL_law_574 0 rfl rfl
theorem dL_law_575 : decode cL_law 575 = .ok (.iadd, 1) := de96 hL_law_574 1 rfl rfl
theorem dL_law_576 : decode cL_law 576 = .ok (.iaload, 1) := de46 hL_law_574 2 rfl rfl
theorem dL_law_577 : decode cL_law 577 = .ok (.aload_n 0, 1) := de42 hL_law_574 3 rfl rfl
theorem dL_law_578 : decode cL_law 578 = .ok (.iload_n 3, 1) := de29 hL_law_574 4 rfl rfl
theorem dL_law_579 : decode cL_law 579 = .ok (.iconst 2, 1) := de5 hL_law_574 5 rfl rfl
theorem dL_law_580 : decode cL_law 580 = .ok (.iadd, 1) := de96 hL_law_574 6 rfl rfl
theorem dL_law_581 : decode cL_law 581 = .ok (.iaload, 1) := de46 hL_law_574 7 rfl rfl
theorem dL_law_582 : decode cL_law 582 = .ok (.invokevirtual 69, 3) := de182 hL_law_574 8 rfl rfl rfl
theorem dL_law_585 : decode cL_law 585 = .ok (.pop, 1) := de87 hL_law_574 11 rfl rfl
theorem dL_law_586 : decode cL_law 586 = .ok (.aload_n 2, 1) := de44 hL_law_574 12 rfl rfl
theorem dL_law_587 : decode cL_law 587 = .ok (.aload_n 0, 1) := de42 hL_law_574 13 rfl rfl
theorem hL_law_588 : bHas cL_law 588 [29, 4, 96, 46, 42, 29, 5, 96, 46, 182, 0, 72, 87, 167, 2, 188] := bH_c (n := 16) (by decide +kernel)
theorem dL_law_588 : decode cL_law 588 = .ok (.iload_n 3, 1) := de29 hL_law_588 0 rfl rfl
theorem dL_law_589 : decode cL_law 589 = .ok (.iconst 1, 1) := de4 hL_law_588 1 rfl rfl
theorem dL_law_590 : decode cL_law 590 = .ok (.iadd, 1) := de96 hL_law_588 2 rfl rfl
theorem dL_law_591 : decode cL_law 591 = .ok (.iaload, 1) := de46 hL_law_588 3 rfl rfl
theorem dL_law_592 : decode cL_law 592 = .ok (.aload_n 0, 1) := de42 hL_law_588 4 rfl rfl
theorem dL_law_593 : decode cL_law 593 = .ok (.iload_n 3, 1) := de29 hL_law_588 5 rfl rfl
theorem dL_law_594 : decode cL_law 594 = .ok (.iconst 2, 1) := de5 hL_law_588 6 rfl rfl
theorem dL_law_595 : decode cL_law 595 = .ok (.iadd, 1) := de96 hL_law_588 7 rfl rfl
theorem dL_law_596 : decode cL_law 596 = .ok (.iaload, 1) := de46 hL_law_588 8 rfl rfl
theorem dL_law_597 : decode cL_law 597 = .ok (.invokevirtual 72, 3) := de182 hL_law_588 9 rfl rfl rfl
theorem dL_law_600 : decode cL_law 600 = .ok (.pop, 1) := de87 hL_law_588 12 rfl rfl
theorem dL_law_601 : decode cL_law 601 = .ok (.goto 700, 3) := de167 hL_law_588 13 rfl rfl (by decide +kernel)
theorem hL_law_604 : bHas cL_law 604 [43, 42, 29, 4, 96, 46, 42, 29, 5, 96, 46, 182, 0, 73] := bH_c (n := 14) (by decide +kernel)
theorem dL_law_604 : decode cL_law 604 = .ok (.aload_n 1, 1) := de43 hL_law_604 0 rfl rfl
theorem dL_law_605 : decode cL_law 605 = .ok (.aload_n 0, 1) := de42 hL_law_604 1 rfl rfl
theorem dL_law_606 : decode cL_law 606 = .ok (.iload_n 3, 1) := de29 hL_law_604 2 rfl rfl
theorem dL_law_607 : decode cL_law 607 = .ok (.iconst 1, 1) := de4 hL_law_604 3 rfl rfl
theorem dL_law_608 : decode cL_law 608 = .ok (.iadd, 1) := de96 hL_law_604 4 rfl rfl
theorem dL_law_609 : decode cL_law 609 = .ok (.iaload, 1) := de46 hL_law_604 5 rfl rfl
theorem dL_law_610 : decode cL_law 610 = .ok (.aload_n 0, 1) := de42 hL_law_604 6 rfl rfl
theorem dL_law_611 : decode cL_law 611 = .ok (.iload_n 3, 1) := de29 hL_law_604 7 rfl rfl
theorem dL_law_612 : decode cL_law 612 = .ok (.iconst 2, 1) := de5 hL_law_604 8 rfl rfl
theorem dL_law_613 : decode cL_law 613 = .ok (.iadd, 1) := de96 hL_law_604 9 rfl rfl
theorem dL_law_614 : decode cL_law 614 = .ok (.iaload, 1) := de46 hL_law_604 10 rfl rfl
theorem dL_law_615 : decode cL_law 615 = .ok (.invokevirtual 73, 3) := de182 hL_law_604 11 rfl rfl rfl
theorem hL_law_618 : bHas cL_law 618 [87, 44, 42, 29, 4, 96, 46, 42, 29, 5, 96, 46] := bH_c (n := 12) (by decide +kernel)
theorem dL_law_618 : decode cL_law 618 = .ok (.pop, 1) := de87 hL_law_618 0 rfl rfl
theorem dL_law_619 : decode cL_law 619 = .ok (.aload_n 2, 1) := de44 hL_law_618 1 rfl rfl
theorem dL_law_620 : decode cL_law 620 = .ok (.aload_n 0, 1) := de42 hL_law_618 2 rfl rfl
theorem dL_law_621 : decode cL_law 621 = .ok (.iload_n 3, 1) := de29 hL_law_618 3 rfl rfl
theorem dL_law_622 : decode cL_law 622 = .ok (.iconst 1, 1) := de4 hL_law_618 4 rfl rfl
theorem dL_law_623 : decode cL_law 623 = .ok (.iadd, 1) := de96 hL_law_618 5 rfl rfl
theorem dL_law_624 : decode cL_law 624 = .ok (.iaload, 1) := de46 hL_law_618 6 rfl rfl
theorem dL_law_625 : decode cL_law 625 = .ok (.aload_n 0, 1) := de42 hL_law_618 7 rfl rfl
theorem dL_law_626 : decode cL_law 626 = .ok (.iload_n 3, 1) := de29 hL_law_618 8 rfl rfl
theorem dL_law_627 : decode cL_law 627 = .ok (.iconst 2, 1) := de5 hL_law_618 9 rfl rfl
theorem dL_law_628 : decode cL_law 628 = .ok (.iadd, 1) := de96 hL_law_618 10 rfl rfl
theorem dL_law_629 : decode cL_law 629 = .ok (.iaload, 1) := de46 hL_law_618 11 rfl rfl
theorem hL_law_630 : bHas cL_law 630 [182, 0, 76, 87, 167, 2, 155, 43, 42, 29, 4, 96, 46, 42, 29, 5] := bH_c (n := 16) (by decide +kernel)
theorem dL_law_630 : decode cL_law 630 = .ok (.invokevirtual 76, 3) := de182 hL_law_630 0 rfl rfl rfl
theorem dL_law_633 : decode cL_law 633 = .ok (.pop, 1) := de87 hL_law_630 3 rfl rfl
theorem dL_law_634 : decode cL_law 634 = .ok (.goto 667, 3) := de167 hL_law_630 4 rfl rfl (by decide +kernel)
theorem dL_law_637 : decode cL_law 637 = .ok (.aload_n 1, 1) := de43 hL_law_630 7 rfl rfl
theorem dL_law_638 : decode cL_law 638 = .ok (.aload_n 0, 1) := de42 hL_law_630 8 rfl rfl
theorem dL_law_639 : decode cL_law 639 = .ok (.iload_n 3, 1) := de29 hL_law_630 9 rfl rfl
theorem dL_law_640 : decode cL_law 640 = .ok (.iconst 1, 1) := de4 hL_law_630 10 rfl rfl
theorem dL_law_641 : decode cL_law 641 = .ok (.iadd, 1) := de96 hL_law_630 11 rfl rfl
theorem dL_law_642 : decode cL_law 642 = .ok (.iaload, 1) := de46 hL_law_630 12 rfl rfl
theorem dL_law_643 : decode cL_law 643 = .ok (.aload_n 0, 1) := de42 hL_law_630 13 rfl rfl
theorem dL_law_644 : decode cL_law 644 = .ok (.iload_n 3, 1) := de29 hL_law_630 14 rfl rfl
theorem dL_law_645 : decode cL_law 645 = .ok (.iconst 2, 1) := de5 hL_law_630 15 rfl rfl
theorem hL_law_646 : bHas cL_law 646 [96, 46, 42, 29, 6, 96, 46, 42, 29, 7, 96, 46] := bH_c (n := 12) (by decide +kernel)
theorem dL_law_646 : decode cL_law 646 = .ok (.iadd, 1) := de96 hL_law_646 0 rfl rfl
theorem dL_law_647 : decode cL_law 647 = .ok (.iaload, 1) := de46 hL_law_646 1 rfl rfl
theorem dL_law_648 : decode cL_law 648 = .ok (.aload_n 0, 1) := de42 hL_law_646 2 rfl rfl
theorem dL_law_649 : decode cL_law 649 = .ok (.iload_n 3, 1) := de29 hL_law_646 3 rfl rfl
theorem dL_law_650 : decode cL_law 650 = .ok (.iconst 3, 1) := de6 hL_law_646 4 rfl rfl
theorem dL_law_651 : decode cL_law 651 = .ok (.iadd, 1) := de96 hL_law_646 5 rfl rfl
theorem dL_law_652 : decode cL_law 652 = .ok (.iaload, 1) := de46 hL_law_646 6 rfl rfl
theorem dL_law_653 : decode cL_law 653 = .ok (.aload_n 0, 1) := de42 hL_law_646 7 rfl rfl
theorem dL_law_654 : decode cL_law 654 = .ok (.iload_n 3, 1) := de29 hL_law_646 8 rfl rfl
theorem dL_law_655 : decode cL_law 655 = .ok (.iconst 4, 1) := de7 hL_law_646 9 rfl rfl
theorem dL_law_656 : decode cL_law 656 = .ok (.iadd, 1) := de96 hL_law_646 10 rfl rfl
theorem dL_law_657 : decode cL_law 657 = .ok (.iaload, 1) := de46 hL_law_646 11 rfl rfl
theorem hL_law_658 : bHas cL_law 658 [42, 29, 8, 96, 46, 182, 0, 77, 87, 44, 42, 29, 4, 96] := bH_c (n := 14) (by decide +kernel)
theorem dL_law_658 : decode cL_law 658 = .ok (.aload_n 0, 1) := de42 hL_law_658 0 rfl rfl
theorem dL_law_659 : decode cL_law 659 = .ok (.iload_n 3, 1) := de29 hL_law_658 1 rfl rfl
theorem dL_law_660 : decode cL_law 660 = .ok (.iconst 5, 1) := de8 hL_law_658 2 rfl rfl
theorem dL_law_661 : decode cL_law 661 = .ok (.iadd, 1) := de96 hL_law_658 3 rfl rfl
theorem dL_law_662 : decode cL_law 662 = .ok (.iaload, 1) := de46 hL_law_658 4 rfl rfl
theorem dL_law_663 : decode cL_law 663 = .ok (.invokevirtual 77, 3) := de182 hL_law_658 5 rfl rfl rfl
theorem dL_law_666 : decode cL_law 666 = .ok (.pop, 1) := de87 hL_law_658 8 rfl rfl
theorem dL_law_667 : decode cL_law 667 = .ok (.aload_n 2, 1) := de44 hL_law_658 9 rfl rfl
theorem dL_law_668 : decode cL_law 668 = .ok (.aload_n 0, 1) := de42 hL_law_658 10 rfl rfl
theorem dL_law_669 : decode cL_law 669 = .ok (.iload_n 3, 1) := de29 hL_law_658 11 rfl rfl
theorem dL_law_670 : decode cL_law 670 = .ok (.iconst 1, 1) := de4 hL_law_658 12 rfl rfl
theorem dL_law_671 : decode cL_law 671 = .ok (.iadd, 1) := de96 hL_law_658 13 rfl rfl
theorem hL_law_672 : bHas cL_law 672 [46, 42, 29, 5, 96, 46, 42, 29, 6, 96, 46, 42] := bH_c (n := 12) (by decide +kernel)
theorem dL_law_672 : decode cL_law 672 = .ok (.iaload, 1) := de46 hL_law_672 0 rfl rfl
theorem dL_law_673 : decode cL_law 673 = .ok (.aload_n 0, 1) := de42 hL_law_672 1 rfl rfl
theorem dL_law_674 : decode cL_law 674 = .ok (.iload_n 3, 1) := de29 hL_law_672 2 rfl rfl
theorem dL_law_675 : decode cL_law 675 = .ok (.iconst 2, 1) := de5 hL_law_672 3 rfl rfl
theorem dL_law_676 : decode cL_law 676 = .ok (.iadd, 1) := de96 hL_law_672 4 rfl rfl
theorem dL_law_677 : decode cL_law 677 = .ok (.iaload, 1) := de46 hL_law_672 5 rfl rfl
theorem dL_law_678 : decode cL_law 678 = .ok (.aload_n 0, 1) := de42 hL_law_672 6 rfl rfl
theorem dL_law_679 : decode cL_law 679 = .ok (.iload_n 3, 1) := de29 hL_law_672 7 rfl rfl
theorem dL_law_680 : decode cL_law 680 = .ok (.iconst 3, 1) := de6 hL_law_672 8 rfl rfl
theorem dL_law_681 : decode cL_law 681 = .ok (.iadd, 1) := de96 hL_law_672 9 rfl rfl
theorem dL_law_682 : decode cL_law 682 = .ok (.iaload, 1) := de46 hL_law_672 10 rfl rfl
theorem dL_law_683 : decode cL_law 683 = .ok (.aload_n 0, 1) := de42 hL_law_672 11 rfl rfl
theorem hL_law_684 : bHas cL_law 684 [29, 7, 96, 46, 42, 29, 8, 96, 46, 182, 0, 81, 87, 167, 2, 92] := bH_c (n := 16) (by decide +kernel)
theorem dL_law_684 : decode cL_law 684 = .ok (.iload_n 3, 1) := de29 hL_law_684 0 rfl rfl
theorem dL_law_685 : decode cL_law 685 = .ok (.iconst 4, 1) := de7 hL_law_684 1 rfl rfl
theorem dL_law_686 : decode cL_law 686 = .ok (.iadd, 1) := de96 hL_law_684 2 rfl rfl
theorem dL_law_687 : decode cL_law 687 = .ok (.iaload, 1) := de46 hL_law_684 3 rfl rfl
theorem dL_law_688 : decode cL_law 688 = .ok (.aload_n 0, 1) := de42 hL_law_684 4 rfl rfl
theorem dL_law_689 : decode cL_law 689 = .ok (.iload_n 3, 1) := de29 hL_law_684 5 rfl rfl
theorem dL_law_690 : decode cL_law 690 = .ok (.iconst 5, 1) := de8 hL_law_684 6 rfl rfl
theorem dL_law_691 : decode cL_law 691 = .ok (.iadd, 1) := de96 hL_law_684 7 rfl rfl
theorem dL_law_692 : decode cL_law 692 = .ok (.iaload, 1) := de46 hL_law_684 8 rfl rfl
theorem dL_law_693 : decode cL_law 693 = .ok (.invokevirtual 81, 3) := de182 hL_law_684 9 rfl rfl rfl
theorem dL_law_696 : decode cL_law 696 = .ok (.pop, 1) := de87 hL_law_684 12 rfl rfl
theorem dL_law_697 : decode cL_law 697 = .ok (.goto 604, 3) := de167 hL_law_684 13 rfl rfl (by decide +kernel)
theorem hL_law_700 : bHas cL_law 700 [43, 182, 0, 82, 87, 44, 182, 0, 85, 87, 167, 2, 79, 43, 42, 29, 4, 96] := bH_c (n := 18) (by decide +kernel)
theorem dL_law_700 : decode cL_law 700 = .ok (.aload_n 1, 1) := de43 hL_law_700 0 rfl rfl
theorem dL_law_701 : decode cL_law 701 = .ok (.invokevirtual 82, 3) := de182 hL_law_700 1 rfl rfl rfl
theorem dL_law_704 : decode cL_law 704 = .ok (.pop, 1) := de87 hL_law_700 4 rfl rfl
theorem dL_law_705 : decode cL_law 705 = .ok (.aload_n 2, 1) := de44 hL_law_700 5 rfl rfl
theorem dL_law_706 : decode cL_law 706 = .ok (.invokevirtual 85, 3) := de182 hL_law_700 6 rfl rfl rfl
theorem dL_law_709 : decode cL_law 709 = .ok (.pop, 1) := de87 hL_law_700 9 rfl rfl
theorem dL_law_710 : decode cL_law 710 = .ok (.goto 591, 3) := de167 hL_law_700 10 rfl rfl (by decide +kernel)
theorem dL_law_713 : decode cL_law 713 = .ok (.aload_n 1, 1) := de43 hL_law_700 13 rfl rfl
theorem dL_law_714 : decode cL_law 714 = .ok (.aload_n 0, 1) := de42 hL_law_700 14 rfl rfl
theorem dL_law_715 : decode cL_law 715 = .ok (.iload_n 3, 1) := de29 hL_law_700 15 rfl rfl
theorem dL_law_716 : decode cL_law 716 = .ok (.iconst 1, 1) := de4 hL_law_700 16 rfl rfl
theorem dL_law_717 : decode cL_law 717 = .ok (.iadd, 1) := de96 hL_law_700 17 rfl rfl
theorem hL_law_718 : bHas cL_law 718 [46, 42, 29, 5, 96, 46, 42, 29, 6, 96, 46, 42] := bH_c (n := 12) (by decide +kernel)
theorem dL_law_718 : decode cL_law 718 = .ok (.iaload, 1) := de46 hL_law_718 0 rfl rfl
theorem dL_law_719 : decode cL_law 719 = .ok (.aload_n 0, 1) := de42 hL_law_718 1 rfl rfl
theorem dL_law_720 : decode cL_law 720 = .ok (.iload_n 3, 1) := de29 hL_law_718 2 rfl rfl
theorem dL_law_721 : decode cL_law 721 = .ok (.iconst 2, 1) := de5 hL_law_718 3 rfl rfl
theorem dL_law_722 : decode cL_law 722 = .ok (.iadd, 1) := de96 hL_law_718 4 rfl rfl
theorem dL_law_723 : decode cL_law 723 = .ok (.iaload, 1) := de46 hL_law_718 5 rfl rfl
theorem dL_law_724 : decode cL_law 724 = .ok (.aload_n 0, 1) := de42 hL_law_718 6 rfl rfl
theorem dL_law_725 : decode cL_law 725 = .ok (.iload_n 3, 1) := de29 hL_law_718 7 rfl rfl
theorem dL_law_726 : decode cL_law 726 = .ok (.iconst 3, 1) := de6 hL_law_718 8 rfl rfl
theorem dL_law_727 : decode cL_law 727 = .ok (.iadd, 1) := de96 hL_law_718 9 rfl rfl
theorem dL_law_728 : decode cL_law 728 = .ok (.iaload, 1) := de46 hL_law_718 10 rfl rfl
theorem dL_law_729 : decode cL_law 729 = .ok (.aload_n 0, 1) := de42 hL_law_718 11 rfl rfl
theorem hL_law_730 : bHas cL_law 730 [29, 7, 96, 46, 182, 0, 86, 87, 44, 42, 29, 4, 96, 46] := bH_c (n := 14) (by decide +kernel)
theorem dL_law_730 : decode cL_law 730 = .ok (.iload_n 3, 1) := de29 hL_law_730 0 rfl rfl
theorem dL_law_731 : decode cL_law 731 = .ok (.iconst 4, 1) := de7 hL_law_730 1 rfl rfl
theorem dL_law_732 : decode cL_law 732 = .ok (.iadd, 1) := de96 hL_law_730 2 rfl rfl
theorem dL_law_733 : decode cL_law 733 = .ok (.iaload, 1) := de46 hL_law_730 3 rfl rfl
theorem dL_law_734 : decode cL_law 734 = .ok (.invokevirtual 86, 3) := de182 hL_law_730 4 rfl rfl rfl
theorem dL_law_737 : decode cL_law 737 = .ok (.pop, 1) := de87 hL_law_730 7 rfl rfl
theorem dL_law_738 : decode cL_law 738 = .ok (.aload_n 2, 1) := de44 hL_law_730 8 rfl rfl
theorem dL_law_739 : decode cL_law 739 = .ok (.aload_n 0, 1) := de42 hL_law_730 9 rfl rfl
theorem dL_law_740 : decode cL_law 740 = .ok (.iload_n 3, 1) := de29 hL_law_730 10 rfl rfl
theorem dL_law_741 : decode cL_law 741 = .ok (.iconst 1, 1) := de4 hL_law_730 11 rfl rfl
theorem dL_law_742 : decode cL_law 742 = .ok (.iadd, 1) := de96 hL_law_730 12 rfl rfl
theorem dL_law_743 : decode cL_law 743 = .ok (.iaload, 1) := de46 hL_law_730 13 rfl rfl
theorem hL_law_744 : bHas cL_law 744 [42, 29, 5, 96, 46, 42, 29, 6, 96, 46, 42, 29] := bH_c (n := 12) (by decide +kernel)
theorem dL_law_744 : decode cL_law 744 = .ok (.aload_n 0, 1) := de42 hL_law_744 0 rfl rfl
theorem dL_law_745 : decode cL_law 745 = .ok (.iload_n 3, 1) := de29 hL_law_744 1 rfl rfl
theorem dL_law_746 : decode cL_law 746 = .ok (.iconst 2, 1) := de5 hL_law_744 2 rfl rfl
theorem dL_law_747 : decode cL_law 747 = .ok (.iadd, 1) := de96 hL_law_744 3 rfl rfl
theorem dL_law_748 : decode cL_law 748 = .ok (.iaload, 1) := de46 hL_law_744 4 rfl rfl
theorem dL_law_749 : decode cL_law 749 = .ok (.aload_n 0, 1) := de42 hL_law_744 5 rfl rfl
theorem dL_law_750 : decode cL_law 750 = .ok (.iload_n 3, 1) := de29 hL_law_744 6 rfl rfl
theorem dL_law_751 : decode cL_law 751 = .ok (.iconst 3, 1) := de6 hL_law_744 7 rfl rfl
theorem dL_law_752 : decode cL_law 752 = .ok (.iadd, 1) := de96 hL_law_744 8 rfl rfl
theorem dL_law_753 : decode cL_law 753 = .ok (.iaload, 1) := de46 hL_law_744 9 rfl rfl
theorem dL_law_754 : decode cL_law 754 = .ok (.aload_n 0, 1) := de42 hL_law_744 10 rfl rfl
theorem dL_law_755 : decode cL_law 755 = .ok (.iload_n 3, 1) := de29 hL_law_744 11 rfl rfl
theorem hL_law_756 : bHas cL_law 756 [7, 96, 46, 182, 0, 90, 87, 167, 2, 26, 43, 42, 29, 4, 96, 46] := bH_c (n := 16) (by decide +kernel)
theorem dL_law_756 : decode cL_law 756 = .ok (.iconst 4, 1) := de7 hL_law_756 0 rfl rfl
theorem dL_law_757 : decode cL_law 757 = .ok (.iadd, 1) := de96 hL_law_756 1 rfl rfl
theorem dL_law_758 : decode cL_law 758 = .ok (.iaload, 1) := de46 hL_law_756 2 rfl rfl
theorem dL_law_759 : decode cL_law 759 = .ok (.invokevirtual 90, 3) := de182 hL_law_756 3 rfl rfl rfl
theorem dL_law_762 : decode cL_law 762 = .ok (.pop, 1) := de87 hL_law_756 6 rfl rfl
theorem dL_law_763 : decode cL_law 763 = .ok (.goto 538, 3) := de167 hL_law_756 7 rfl rfl (by decide +kernel)
theorem dL_law_766 : decode cL_law 766 = .ok (.aload_n 1, 1) := de43 hL_law_756 10 rfl rfl
theorem dL_law_767 : decode cL_law 767 = .ok (.aload_n 0, 1) := de42 hL_law_756 11 rfl rfl
theorem dL_law_768 : decode cL_law 768 = .ok (.iload_n 3, 1) := de29 hL_law_756 12 rfl rfl
theorem dL_law_769 : decode cL_law 769 = .ok (.iconst 1, 1) := de4 hL_law_756 13 rfl rfl
theorem dL_law_770 : decode cL_law 770 = .ok (.iadd, 1) := de96 hL_law_756 14 rfl rfl
theorem dL_law_771 : decode cL_law 771 = .ok (.iaload, 1) := de46 hL_law_756 15 rfl rfl
theorem hL_law_772 : bHas cL_law 772 [42, 29, 5, 96, 46, 42, 29, 6, 96, 46, 42, 29] := bH_c (n := 12) (by decide +kernel)
theorem dL_law_772 : decode cL_law 772 = .ok (.aload_n 0, 1) := de42 hL_law_772 0 rfl rfl
theorem dL_law_773 : decode cL_law 773 = .ok (.iload_n 3, 1) := de29 hL_law_772 1 rfl rfl
theorem dL_law_774 : decode cL_law 774 = .ok (.iconst 2, 1) := de5 hL_law_772 2 rfl rfl
theorem dL_law_775 : decode cL_law 775 = .ok (.iadd, 1) := de96 hL_law_772 3 rfl rfl
theorem dL_law_776 : decode cL_law 776 = .ok (.iaload, 1) := de46 hL_law_772 4 rfl rfl
theorem dL_law_777 : decode cL_law 777 = .ok (.aload_n 0, 1) := de42 hL_law_772 5 rfl rfl
theorem dL_law_778 : decode cL_law 778 = .ok (.iload_n 3, 1) := de29 hL_law_772 6 rfl rfl
theorem dL_law_779 : decode cL_law 779 = .ok (.iconst 3, 1) := de6 hL_law_772 7 rfl rfl
theorem dL_law_780 : decode cL_law 780 = .ok (.iadd, 1) := de96 hL_law_772 8 rfl rfl
theorem dL_law_781 : decode cL_law 781 = .ok (.iaload, 1) := de46 hL_law_772 9 rfl rfl
theorem dL_law_782 : decode cL_law 782 = .ok (.aload_n 0, 1) := de42 hL_law_772 10 rfl rfl
theorem dL_law_783 : decode cL_law 783 = .ok (.iload_n 3, 1) := de29 hL_law_772 11 rfl rfl
theorem hL_law_784 : bHas cL_law 784 [7, 96, 46, 42, 29, 8, 96, 46, 42, 29, 16, 6, 96] := bH_c (n := 13) (by decide +kernel)
theorem dL_law_784 : decode cL_law 784 = .ok (.iconst 4, 1) := de7 hL_law_784 0 rfl rfl
theorem dL_law_785 : decode cL_law 785 = .ok (.iadd, 1) := de96 hL_law_784 1 rfl rfl
theorem dL_law_786 : decode cL_law 786 = .ok (.iaload, 1) := de46 hL_law_784 2 rfl rfl
theorem dL_law_787 : decode cL_law 787 = .ok (.aload_n 0, 1) := de42 hL_law_784 3 rfl rfl
theorem dL_law_788 : decode cL_law 788 = .ok (.iload_n 3, 1) := de29 hL_law_784 4 rfl rfl
theorem dL_law_789 : decode cL_law 789 = .ok (.iconst 5, 1) := de8 hL_law_784 5 rfl rfl
theorem dL_law_790 : decode cL_law 790 = .ok (.iadd, 1) := de96 hL_law_784 6 rfl rfl
theorem dL_law_791 : decode cL_law 791 = .ok (.iaload, 1) := de46 hL_law_784 7 rfl rfl
theorem dL_law_792 : decode cL_law 792 = .ok (.aload_n 0, 1) := de42 hL_law_784 8 rfl rfl
theorem dL_law_793 : decode cL_law 793 = .ok (.iload_n 3, 1) := de29 hL_law_784 9 rfl rfl
theorem dL_law_794 : decode cL_law 794 = .ok (.bipush 6, 2) := de16 hL_law_784 10 rfl rfl rfl
theorem dL_law_796 : decode cL_law 796 = .ok (.iadd, 1) := de96 hL_law_784 12 rfl rfl
theorem hL_law_797 : bHas cL_law 797 [46, 182, 0, 91, 87, 44, 42, 29, 4, 96, 46, 42, 29, 5] := bH_c (n := 14) (by decide +kernel)
theorem dL_law_797 : decode cL_law 797 = .ok (.iaload, 1) := de46 hL_law_797 0 rfl rfl
theorem dL_law_798 : decode cL_law 798 = .ok (.invokevirtual 91, 3) := de182 hL_law_797 1 rfl rfl rfl
theorem dL_law_801 : decode cL_law 801 = .ok (.pop, 1) := de87 hL_law_797 4 rfl rfl
theorem dL_law_802 : decode cL_law 802 = .ok (.aload_n 2, 1) := de44 hL_law_797 5 rfl rfl
theorem dL_law_803 : decode cL_law 803 = .ok (.aload_n 0, 1) := de42 hL_law_797 6 rfl rfl
theorem dL_law_804 : decode cL_law 804 = .ok (.iload_n 3, 1) := de29 hL_law_797 7 rfl rfl
theorem dL_law_805 : decode cL_law 805 = .ok (.iconst 1, 1) := de4 hL_law_797 8 rfl rfl
theorem dL_law_806 : decode cL_law 806 = .ok (.iadd, 1) := de96 hL_law_797 9 rfl rfl
theorem dL_law_807 : decode cL_law 807 = .ok (.iaload, 1) := de46 hL_law_797 10 rfl rfl
theorem dL_law_808 : decode cL_law 808 = .ok (.aload_n 0, 1) := de42 hL_law_797 11 rfl rfl
theorem dL_law_809 : decode cL_law 809 = .ok (.iload_n 3, 1) := de29 hL_law_797 12 rfl rfl
theorem dL_law_810 : decode cL_law 810 = .ok (.iconst 2, 1) := de5 hL_law_797 13 rfl rfl
theorem hL_law_811 : bHas cL_law 811 [96, 46, 42, 29, 6, 96, 46, 42, 29, 7, 96, 46] := bH_c (n := 12) (by decide +kernel)
theorem dL_law_811 : decode cL_law 811 = .ok (.iadd, 1) := de96 hL_law_811 0 rfl rfl
theorem dL_law_812 : decode cL_law 812 = .ok (.iaload, 1) := de46 hL_law_811 1 rfl rfl
theorem dL_law_813 : decode cL_law 813 = .ok (.aload_n 0, 1) := de42 hL_law_811 2 rfl rfl
theorem dL_law_814 : decode cL_law 814 = .ok (.iload_n 3, 1) := de29 hL_law_811 3 rfl rfl
theorem dL_law_815 : decode cL_law 815 = .ok (.iconst 3, 1) := de6 hL_law_811 4 rfl rfl
theorem dL_law_816 : decode cL_law 816 = .ok (.iadd, 1) := de96 hL_law_811 5 rfl rfl
theorem dL_law_817 : decode cL_law 817 = .ok (.iaload, 1) := de46 hL_law_811 6 rfl rfl
theorem dL_law_818 : decode cL_law 818 = .ok (.aload_n 0, 1) := de42 hL_law_811 7 rfl rfl
theorem dL_law_819 : decode cL_law 819 = .ok (.iload_n 3, 1) := de29 hL_law_811 8 rfl rfl
theorem dL_law_820 : decode cL_law 820 = .ok (.iconst 4, 1) := de7 hL_law_811 9 rfl rfl
theorem dL_law_821 : decode cL_law 821 = .ok (.iadd, 1) := de96 hL_law_811 10 rfl rfl
theorem dL_law_822 : decode cL_law 822 = .ok (.iaload, 1) := de46 hL_law_811 11 rfl rfl
theorem hL_law_823 : bHas cL_law 823 [42, 29, 8, 96, 46, 42, 29, 16, 6, 96, 46, 182, 0, 95, 87] := bH_c (n := 15) (by decide +kernel)
theorem dL_law_823 : decode cL_law 823 = .ok (.aload_n 0, 1) := de42 hL_law_823 0 rfl rfl
theorem dL_law_824 : decode cL_law 824 = .ok (.iload_n 3, 1) := de29 hL_law_823 1 rfl rfl
theorem dL_law_825 : decode cL_law 825 = .ok (.iconst 5, 1) := de8 hL_law_823 2 rfl rfl
theorem dL_law_826 : decode cL_law 826 = .ok (.iadd, 1) := de96 hL_law_823 3 rfl rfl
theorem dL_law_827 : decode cL_law 827 = .ok (.iaload, 1) := de46 hL_law_823 4 rfl rfl
theorem dL_law_828 : decode cL_law 828 = .ok (.aload_n 0, 1) := de42 hL_law_823 5 rfl rfl
theorem dL_law_829 : decode cL_law 829 = .ok (.iload_n 3, 1) := de29 hL_law_823 6 rfl rfl
theorem dL_law_830 : decode cL_law 830 = .ok (.bipush 6, 2) := de16 hL_law_823 7 rfl rfl rfl
theorem dL_law_832 : decode cL_law 832 = .ok (.iadd, 1) := de96 hL_law_823 9 rfl rfl
theorem dL_law_833 : decode cL_law 833 = .ok (.iaload, 1) := de46 hL_law_823 10 rfl rfl
theorem dL_law_834 : decode cL_law 834 = .ok (.invokevirtual 95, 3) := de182 hL_law_823 11 rfl rfl rfl
theorem dL_law_837 : decode cL_law 837 = .ok (.pop, 1) := de87 hL_law_823 14 rfl rfl
theorem hL_law_838 : bHas cL_law 838 [167, 1, 207, 43, 42, 29, 4, 96, 46, 42, 29, 5, 96, 46] := bH_c (n := 14) (by decide +kernel)
theorem dL_law_838 : decode cL_law 838 = .ok (.goto 463, 3) := de167 hL_law_838 0 rfl rfl (by decide +kernel)
theorem dL_law_841 : decode cL_law 841 = .ok (.aload_n 1, 1) := de43 hL_law_838 3 rfl rfl
theorem dL_law_842 : decode cL_law 842 = .ok (.aload_n 0, 1) := de42 hL_law_838 4 rfl rfl
theorem dL_law_843 : decode cL_law 843 = .ok (.iload_n 3, 1) := de29 hL_law_838 5 rfl rfl
theorem dL_law_844 : decode cL_law 844 = .ok (.iconst 1, 1) := de4 hL_law_838 6 rfl rfl
theorem dL_law_845 : decode cL_law 845 = .ok (.iadd, 1) := de96 hL_law_838 7 rfl rfl
theorem dL_law_846 : decode cL_law 846 = .ok (.iaload, 1) := de46 hL_law_838 8 rfl rfl
theorem dL_law_847 : decode cL_law 847 = .ok (.aload_n 0, 1) := de42 hL_law_838 9 rfl rfl
theorem dL_law_848 : decode cL_law 848 = .ok (.iload_n 3, 1) := de29 hL_law_838 10 rfl rfl
theorem dL_law_849 : decode cL_law 849 = .ok (.iconst 2, 1) := de5 hL_law_838 11 rfl rfl
theorem dL_law_850 : decode cL_law 850 = .ok (.iadd, 1) := de96 hL_law_838 12 rfl rfl
theorem dL_law_851 : decode cL_law 851 = .ok (.iaload, 1) := de46 hL_law_838 13 rfl rfl
theorem hL_law_852 : bHas cL_law 852 [42, 29, 6, 96, 46, 42, 29, 7, 96, 46, 42, 29] := bH_c (n := 12) (by decide +kernel)
theorem dL_law_852 : decode cL_law 852 = .ok (.aload_n 0, 1) := de42 hL_law_852 0 rfl rfl
theorem dL_law_853 : decode cL_law 853 = .ok (.iload_n 3, 1) := de29 hL_law_852 1 rfl rfl
theorem dL_law_854 : decode cL_law 854 = .ok (.iconst 3, 1) := de6 hL_law_852 2 rfl rfl
theorem dL_law_855 : decode cL_law 855 = .ok (.iadd, 1) := de96 hL_law_852 3 rfl rfl
theorem dL_law_856 : decode cL_law 856 = .ok (.iaload, 1) := de46 hL_law_852 4 rfl rfl
theorem dL_law_857 : decode cL_law 857 = .ok (.aload_n 0, 1) := de42 hL_law_852 5 rfl rfl
theorem dL_law_858 : decode cL_law 858 = .ok (.iload_n 3, 1) := de29 hL_law_852 6 rfl rfl
theorem dL_law_859 : decode cL_law 859 = .ok (.iconst 4, 1) := de7 hL_law_852 7 rfl rfl
theorem dL_law_860 : decode cL_law 860 = .ok (.iadd, 1) := de96 hL_law_852 8 rfl rfl
theorem dL_law_861 : decode cL_law 861 = .ok (.iaload, 1) := de46 hL_law_852 9 rfl rfl
theorem dL_law_862 : decode cL_law 862 = .ok (.aload_n 0, 1) := de42 hL_law_852 10 rfl rfl
theorem dL_law_863 : decode cL_law 863 = .ok (.iload_n 3, 1) := de29 hL_law_852 11 rfl rfl
theorem hL_law_864 : bHas cL_law 864 [8, 96, 46, 42, 29, 16, 6, 96, 46, 42, 29, 16, 7, 96] := bH_c (n := 14) (by decide +kernel)
theorem dL_law_864 : decode cL_law 864 = .ok (.iconst 5, 1) := de8 hL_law_864 0 rfl rfl
theorem dL_law_865 : decode cL_law 865 = .ok (.iadd, 1) := de96 hL_law_864 1 rfl rfl
theorem dL_law_866 : decode cL_law 866 = .ok (.iaload, 1) := de46 hL_law_864 2 rfl rfl
theorem dL_law_867 : decode cL_law 867 = .ok (.aload_n 0, 1) := de42 hL_law_864 3 rfl rfl
theorem dL_law_868 : decode cL_law 868 = .ok (.iload_n 3, 1) := de29 hL_law_864 4 rfl rfl
theorem dL_law_869 : decode cL_law 869 = .ok (.bipush 6, 2) := de16 hL_law_864 5 rfl rfl rfl
theorem dL_law_871 : decode cL_law 871 = .ok (.iadd, 1) := de96 hL_law_864 7 rfl rfl
theorem dL_law_872 : decode cL_law 872 = .ok (.iaload, 1) := de46 hL_law_864 8 rfl rfl
theorem dL_law_873 : decode cL_law 873 = .ok (.aload_n 0, 1) := de42 hL_law_864 9 rfl rfl
theorem dL_law_874 : decode cL_law 874 = .ok (.iload_n 3, 1) := de29 hL_law_864 10 rfl rfl
theorem dL_law_875 : decode cL_law 875 = .ok (.bipush 7, 2) := de16 hL_law_864 11 rfl rfl rfl
theorem dL_law_877 : decode cL_law 877 = .ok (.iadd, 1) := de96 hL_law_864 13 rfl rfl
theorem hL_law_878 : bHas cL_law 878 [46, 182, 0, 96, 87, 44, 42, 29, 4, 96, 46, 42, 29, 5] := bH_c (n := 14) (by decide +kernel)
theorem dL_law_878 : decode cL_law 878 = .ok (.iaload, 1) := de46 hL_law_878 0 rfl rfl
theorem dL_law_879 : decode cL_law 879 = .ok (.invokevirtual 96, 3) := de182 hL_law_878 1 rfl rfl rfl
theorem dL_law_882 : decode cL_law 882 = .ok (.pop, 1) := de87 hL_law_878 4 rfl rfl
theorem dL_law_883 : decode cL_law 883 = .ok (.aload_n 2, 1) := de44 hL_law_878 5 rfl rfl
theorem dL_law_884 : decode cL_law 884 = .ok (.aload_n 0, 1) := de42 hL_law_878 6 rfl rfl
theorem dL_law_885 : decode cL_law 885 = .ok (.iload_n 3, 1) := de29 hL_law_878 7 rfl rfl
theorem dL_law_886 : decode cL_law 886 = .ok (.iconst 1, 1) := de4 hL_law_878 8 rfl rfl
theorem dL_law_887 : decode cL_law 887 = .ok (.iadd, 1) := de96 hL_law_878 9 rfl rfl
theorem dL_law_888 : decode cL_law 888 = .ok (.iaload, 1) := de46 hL_law_878 10 rfl rfl
theorem dL_law_889 : decode cL_law 889 = .ok (.aload_n 0, 1) := de42 hL_law_878 11 rfl rfl
theorem dL_law_890 : decode cL_law 890 = .ok (.iload_n 3, 1) := de29 hL_law_878 12 rfl rfl
theorem dL_law_891 : decode cL_law 891 = .ok (.iconst 2, 1) := de5 hL_law_878 13 rfl rfl
theorem hL_law_892 : bHas cL_law 892 [96, 46, 42, 29, 6, 96, 46, 42, 29, 7, 96, 46] := bH_c (n := 12) (by decide +kernel)
theorem dL_law_892 : decode cL_law 892 = .ok (.iadd, 1) := de96 hL_law_892 0 rfl rfl
theorem dL_law_893 : decode cL_law 893 = .ok (.iaload, 1) := de46 hL_law_892 1 rfl rfl
theorem dL_law_894 : decode cL_law 894 = .ok (.aload_n 0, 1) := de42 hL_law_892 2 rfl rfl
theorem dL_law_895 : decode cL_law 895 = .ok (.iload_n 3, 1) := de29 hL_law_892 3 rfl rfl
theorem dL_law_896 : decode cL_law 896 = .ok (.iconst 3, 1) := de6 hL_law_892 4 rfl rfl
theorem dL_law_897 : decode cL_law 897 = .ok (.iadd, 1) := de96 hL_law_892 5 rfl rfl
theorem dL_law_898 : decode cL_law 898 = .ok (.iaload, 1) := de46 hL_law_892 6 rfl rfl
theorem dL_law_899 : decode cL_law 899 = .ok (.aload_n 0, 1) := de42 hL_law_892 7 rfl rfl
theorem dL_law_900 : decode cL_law 900 = .ok (.iload_n 3, 1) := de29 hL_law_892 8 rfl rfl
theorem dL_law_901 : decode cL_law 901 = .ok (.iconst 4, 1) := de7 hL_law_892 9 rfl rfl
theorem dL_law_902 : decode cL_law 902 = .ok (.iadd, 1) := de96 hL_law_892 10 rfl rfl
theorem dL_law_903 : decode cL_law 903 = .ok (.iaload, 1) := de46 hL_law_892 11 rfl rfl
theorem hL_law_904 : bHas cL_law 904 [42, 29, 8, 96, 46, 42, 29, 16, 6, 96, 46, 42, 29] := bH_c (n := 13) (by decide +kernel)
theorem dL_law_904 : decode cL_law 904 = .ok (.aload_n 0, 1) := de42 hL_law_904 0 rfl rfl
theorem dL_law_905 : decode cL_law 905 = .ok (.iload_n 3, 1) := de29 hL_law_904 1 rfl rfl
theorem dL_law_906 : decode cL_law 906 = .ok (.iconst 5, 1) := de8 hL_law_904 2 rfl rfl
theorem dL_law_907 : decode cL_law 907 = .ok (.iadd, 1) := de96 hL_law_904 3 rfl rfl
theorem dL_law_908 : decode cL_law 908 = .ok (.iaload, 1) := de46 hL_law_904 4 rfl rfl
theorem dL_law_909 : decode cL_law 909 = .ok (.aload_n 0, 1) := de42 hL_law_904 5 rfl rfl
theorem dL_law_910 : decode cL_law 910 = .ok (.iload_n 3, 1) := de29 hL_law_904 6 rfl rfl
theorem dL_law_911 : decode cL_law 911 = .ok (.bipush 6, 2) := de16 hL_law_904 7 rfl rfl rfl
theorem dL_law_913 : decode cL_law 913 = .ok (.iadd, 1) := de96 hL_law_904 9 rfl rfl
theorem dL_law_914 : decode cL_law 914 = .ok (.iaload, 1) := de46 hL_law_904 10 rfl rfl
theorem dL_law_915 : decode cL_law 915 = .ok (.aload_n 0, 1) := de42 hL_law_904 11 rfl rfl
theorem dL_law_916 : decode cL_law 916 = .ok (.iload_n 3, 1) := de29 hL_law_904 12 rfl rfl
theorem hL_law_917 : bHas cL_law 917 [16, 7, 96, 46, 182, 0, 100, 87, 167, 1, 120, 43, 42, 29, 4, 96, 46] := bH_c (n := 17) (by decide +kernel)
theorem dL_law_917 : decode cL_law 917 = .ok (.bipush 7, 2) := de16 hL_law_917 0 rfl rfl rfl
theorem dL_law_919 : decode cL_law 919 = .ok (.iadd, 1) := de96 hL_law_917 2 rfl rfl
theorem dL_law_920 : decode cL_law 920 = .ok (.iaload, 1) := de46 hL_law_917 3 rfl rfl
theorem dL_law_921 : decode cL_law 921 = .ok (.invokevirtual 100, 3) := de182 hL_law_917 4 rfl rfl rfl
theorem dL_law_924 : decode cL_law 924 = .ok (.pop, 1) := de87 hL_law_917 7 rfl rfl
theorem dL_law_925 : decode cL_law 925 = .ok (.goto 376, 3) := de167 hL_law_917 8 rfl rfl (by decide +kernel)
theorem dL_law_928 : decode cL_law 928 = .ok (.aload_n 1, 1) := de43 hL_law_917 11 rfl rfl
theorem dL_law_929 : decode cL_law 929 = .ok (.aload_n 0, 1) := de42 hL_law_917 12 rfl rfl
theorem dL_law_930 : decode cL_law 930 = .ok (.iload_n 3, 1) := de29 hL_law_917 13 rfl rfl
theorem dL_law_931 : decode cL_law 931 = .ok (.iconst 1, 1) := de4 hL_law_917 14 rfl rfl
theorem dL_law_932 : decode cL_law 932 = .ok (.iadd, 1) := de96 hL_law_917 15 rfl rfl
theorem dL_law_933 : decode cL_law 933 = .ok (.iaload, 1) := de46 hL_law_917 16 rfl rfl
theorem hL_law_934 : bHas cL_law 934 [42, 29, 5, 96, 46, 42, 29, 6, 96, 46, 182, 0, 101, 87] := bH_c (n := 14) (by decide +kernel)
theorem dL_law_934 : decode cL_law 934 = .ok (.aload_n 0, 1) := de42 hL_law_934 0 rfl rfl
theorem dL_law_935 : decode cL_law 935 = .ok (.iload_n 3, 1) := de29 hL_law_934 1 rfl rfl
theorem dL_law_936 : decode cL_law 936 = .ok (.iconst 2, 1) := de5 hL_law_934 2 rfl rfl
theorem dL_law_937 : decode cL_law 937 = .ok (.iadd, 1) := de96 hL_law_934 3 rfl rfl
theorem dL_law_938 : decode cL_law 938 = .ok (.iaload, 1) := de46 hL_law_934 4 rfl rfl
theorem dL_law_939 : decode cL_law 939 = .ok (.aload_n 0, 1) := de42 hL_law_934 5 rfl rfl
theorem dL_law_940 : decode cL_law 940 = .ok (.iload_n 3, 1) := de29 hL_law_934 6 rfl rfl
theorem dL_law_941 : decode cL_law 941 = .ok (.iconst 3, 1) := de6 hL_law_934 7 rfl rfl
theorem dL_law_942 : decode cL_law 942 = .ok (.iadd, 1) := de96 hL_law_934 8 rfl rfl
theorem dL_law_943 : decode cL_law 943 = .ok (.iaload, 1) := de46 hL_law_934 9 rfl rfl
theorem dL_law_944 : decode cL_law 944 = .ok (.invokevirtual 101, 3) := de182 hL_law_934 10 rfl rfl rfl
theorem dL_law_947 : decode cL_law 947 = .ok (.pop, 1) := de87 hL_law_934 13 rfl rfl
theorem hL_law_948 : bHas cL_law 948 [44, 42, 29, 4, 96, 46, 42, 29, 5, 96, 46, 42] := bH_c (n := 12) (by decide +kernel)
theorem dL_law_948 : decode cL_law 948 = .ok (.aload_n 2, 1) := de44 hL_law_948 0 rfl rfl
theorem dL_law_949 : decode cL_law 949 = .ok (.aload_n 0, 1) := de42 hL_law_948 1 rfl rfl
theorem dL_law_950 : decode cL_law 950 = .ok (.iload_n 3, 1) := de29 hL_law_948 2 rfl rfl
theorem dL_law_951 : decode cL_law 951 = .ok (.iconst 1, 1) := de4 hL_law_948 3 rfl rfl
theorem dL_law_952 : decode cL_law 952 = .ok (.iadd, 1) := de96 hL_law_948 4 rfl rfl
theorem dL_law_953 : decode cL_law 953 = .ok (.iaload, 1) := de46 hL_law_948 5 rfl rfl
theorem dL_law_954 : decode cL_law 954 = .ok (.aload_n 0, 1) := de42 hL_law_948 6 rfl rfl
theorem dL_law_955 : decode cL_law 955 = .ok (.iload_n 3, 1) := de29 hL_law_948 7 rfl rfl
theorem dL_law_956 : decode cL_law 956 = .ok (.iconst 2, 1) := de5 hL_law_948 8 rfl rfl
theorem dL_law_957 : decode cL_law 957 = .ok (.iadd, 1) := de96 hL_law_948 9 rfl rfl
theorem dL_law_958 : decode cL_law 958 = .ok (.iaload, 1) := de46 hL_law_948 10 rfl rfl
theorem dL_law_959 : decode cL_law 959 = .ok (.aload_n 0, 1) := de42 hL_law_948 11 rfl rfl
theorem hL_law_960 : bHas cL_law 960 [29, 6, 96, 46, 182, 0, 104, 87, 167, 1, 77, 43, 42, 29, 4, 96] := bH_c (n := 16) (by decide +kernel)
theorem dL_law_960 : decode cL_law 960 = .ok (.iload_n 3, 1) := de29 hL_law_960 0 rfl rfl
theorem dL_law_961 : decode cL_law 961 = .ok (.iconst 3, 1) := de6 hL_law_960 1 rfl rfl
theorem dL_law_962 : decode cL_law 962 = .ok (.iadd, 1) := de96 hL_law_960 2 rfl rfl
theorem dL_law_963 : decode cL_law 963 = .ok (.iaload, 1) := de46 hL_law_960 3 rfl rfl
theorem dL_law_964 : decode cL_law 964 = .ok (.invokevirtual 104, 3) := de182 hL_law_960 4 rfl rfl rfl
theorem dL_law_967 : decode cL_law 967 = .ok (.pop, 1) := de87 hL_law_960 7 rfl rfl
theorem dL_law_968 : decode cL_law 968 = .ok (.goto 333, 3) := de167 hL_law_960 8 rfl rfl (by decide +kernel)
theorem dL_law_971 : decode cL_law 971 = .ok (.aload_n 1, 1) := de43 hL_law_960 11 rfl rfl
theorem dL_law_972 : decode cL_law 972 = .ok (.aload_n 0, 1) := de42 hL_law_960 12 rfl rfl
theorem dL_law_973 : decode cL_law 973 = .ok (.iload_n 3, 1) := de29 hL_law_960 13 rfl rfl
theorem dL_law_974 : decode cL_law 974 = .ok (.iconst 1, 1) := de4 hL_law_960 14 rfl rfl
theorem dL_law_975 : decode cL_law 975 = .ok (.iadd, 1) := de96 hL_law_960 15 rfl rfl
theorem hL_law_976 : bHas cL_law 976 [46, 42, 29, 5, 96, 46, 42, 29, 6, 96, 46, 42] := bH_c (n := 12) (by decide +kernel)
theorem dL_law_976 : decode cL_law 976 = .ok (.iaload, 1) := de46 hL_law_976 0 rfl rfl
theorem dL_law_977 : decode cL_law 977 = .ok (.aload_n 0, 1) := de42 hL_law_976 1 rfl rfl
theorem dL_law_978 : decode cL_law 978 = .ok (.iload_n 3, 1) := de29 hL_law_976 2 rfl rfl
theorem dL_law_979 : decode cL_law 979 = .ok (.iconst 2, 1) := de5 hL_law_976 3 rfl rfl
theorem dL_law_980 : decode cL_law 980 = .ok (.iadd, 1) := de96 hL_law_976 4 rfl rfl
theorem dL_law_981 : decode cL_law 981 = .ok (.iaload, 1) := de46 hL_law_976 5 rfl rfl
theorem dL_law_982 : decode cL_law 982 = .ok (.aload_n 0, 1) := de42 hL_law_976 6 rfl rfl
theorem dL_law_983 : decode cL_law 983 = .ok (.iload_n 3, 1) := de29 hL_law_976 7 rfl rfl
theorem dL_law_984 : decode cL_law 984 = .ok (.iconst 3, 1) := de6 hL_law_976 8 rfl rfl
theorem dL_law_985 : decode cL_law 985 = .ok (.iadd, 1) := de96 hL_law_976 9 rfl rfl
theorem dL_law_986 : decode cL_law 986 = .ok (.iaload, 1) := de46 hL_law_976 10 rfl rfl
theorem dL_law_987 : decode cL_law 987 = .ok (.aload_n 0, 1) := de42 hL_law_976 11 rfl rfl
theorem hL_law_988 : bHas cL_law 988 [29, 7, 96, 46, 182, 0, 105, 87, 44, 42, 29, 4, 96, 46] := bH_c (n := 14) (by decide +kernel)
theorem dL_law_988 : decode cL_law 988 = .ok (.iload_n 3, 1) := de29 hL_law_988 0 rfl rfl
theorem dL_law_989 : decode cL_law 989 = .ok (.iconst 4, 1) := de7 hL_law_988 1 rfl rfl
theorem dL_law_990 : decode cL_law 990 = .ok (.iadd, 1) := de96 hL_law_988 2 rfl rfl
theorem dL_law_991 : decode cL_law 991 = .ok (.iaload, 1) := de46 hL_law_988 3 rfl rfl
theorem dL_law_992 : decode cL_law 992 = .ok (.invokevirtual 105, 3) := de182 hL_law_988 4 rfl rfl rfl
theorem dL_law_995 : decode cL_law 995 = .ok (.pop, 1) := de87 hL_law_988 7 rfl rfl
theorem dL_law_996 : decode cL_law 996 = .ok (.aload_n 2, 1) := de44 hL_law_988 8 rfl rfl
theorem dL_law_997 : decode cL_law 997 = .ok (.aload_n 0, 1) := de42 hL_law_988 9 rfl rfl
theorem dL_law_998 : decode cL_law 998 = .ok (.iload_n 3, 1) := de29 hL_law_988 10 rfl rfl
theorem dL_law_999 : decode cL_law 999 = .ok (.iconst 1, 1) := de4 hL_law_988 11 rfl rfl
theorem dL_law_1000 : decode cL_law 1000 = .ok (.iadd, 1) := de96 hL_law_988 12 rfl rfl
theorem dL_law_1001 : decode cL_law 1001 = .ok (.iaload, 1) := de46 hL_law_988 13 rfl rfl
theorem hL_law_1002 : bHas cL_law 1002 [42, 29, 5, 96, 46, 42, 29, 6, 96, 46, 42, 29] := bH_c (n := 12) (by decide +kernel)
theorem dL_law_1002 : decode cL_law 1002 = .ok (.aload_n 0, 1) := de42 hL_law_1002 0 rfl rfl
theorem dL_law_1003 : decode cL_law 1003 = .ok (.iload_n 3, 1) := de29 hL_law_1002 1 rfl rfl
theorem dL_law_1004 : decode cL_law 1004 = .ok (.iconst 2, 1) := de5 hL_law_1002 2 rfl rfl
theorem dL_law_1005 : decode cL_law 1005 = .ok (.iadd, 1) := de96 hL_law_1002 3 rfl rfl
theorem dL_law_1006 : decode cL_law 1006 = .ok (.iaload, 1) := de46 hL_law_1002 4 rfl rfl
theorem dL_law_1007 : decode cL_law 1007 = .ok (.aload_n 0, 1) := de42 hL_law_1002 5 rfl rfl
theorem dL_law_1008 : decode cL_law 1008 = .ok (.iload_n 3, 1) := de29 hL_law_1002 6 rfl rfl
theorem dL_law_1009 : decode cL_law 1009 = .ok (.iconst 3, 1) := de6 hL_law_1002 7 rfl rfl
theorem dL_law_1010 : decode cL_law 1010 = .ok (.iadd, 1) := de96 hL_law_1002 8 rfl rfl
theorem dL_law_1011 : decode cL_law 1011 = .ok (.iaload, 1) := de46 hL_law_1002 9 rfl rfl
theorem dL_law_1012 : decode cL_law 1012 = .ok (.aload_n 0, 1) := de42 hL_law_1002 10 rfl rfl
theorem dL_law_1013 : decode cL_law 1013 = .ok (.iload_n 3, 1) := de29 hL_law_1002 11 rfl rfl
theorem hL_law_1014 : bHas cL_law 1014 [7, 96, 46, 182, 0, 108, 87, 167, 1, 24, 43, 42, 29, 4, 96, 46] := bH_c (n := 16) (by decide +kernel)
theorem dL_law_1014 : decode cL_law 1014 = .ok (.iconst 4, 1) := de7 hL_law_1014 0 rfl rfl
theorem dL_law_1015 : decode cL_law 1015 = .ok (.iadd, 1) := de96 hL_law_1014 1 rfl rfl
theorem dL_law_1016 : decode cL_law 1016 = .ok (.iaload, 1) := de46 hL_law_1014 2 rfl rfl
theorem dL_law_1017 : decode cL_law 1017 = .ok (.invokevirtual 108, 3) := de182 hL_law_1014 3 rfl rfl rfl
theorem dL_law_1020 : decode cL_law 1020 = .ok (.pop, 1) := de87 hL_law_1014 6 rfl rfl
theorem dL_law_1021 : decode cL_law 1021 = .ok (.goto 280, 3) := de167 hL_law_1014 7 rfl rfl (by decide +kernel)
theorem dL_law_1024 : decode cL_law 1024 = .ok (.aload_n 1, 1) := de43 hL_law_1014 10 rfl rfl
theorem dL_law_1025 : decode cL_law 1025 = .ok (.aload_n 0, 1) := de42 hL_law_1014 11 rfl rfl
theorem dL_law_1026 : decode cL_law 1026 = .ok (.iload_n 3, 1) := de29 hL_law_1014 12 rfl rfl
theorem dL_law_1027 : decode cL_law 1027 = .ok (.iconst 1, 1) := de4 hL_law_1014 13 rfl rfl
theorem dL_law_1028 : decode cL_law 1028 = .ok (.iadd, 1) := de96 hL_law_1014 14 rfl rfl
theorem dL_law_1029 : decode cL_law 1029 = .ok (.iaload, 1) := de46 hL_law_1014 15 rfl rfl
theorem hL_law_1030 : bHas cL_law 1030 [42, 29, 5, 96, 46, 42, 29, 6, 96, 46, 182, 0, 109, 87] := bH_c (n := 14) (by decide +kernel)
theorem dL_law_1030 : decode cL_law 1030 = .ok (.aload_n 0, 1) := de42 hL_law_1030 0 rfl rfl
theorem dL_law_1031 : decode cL_law 1031 = .ok (.iload_n 3, 1) := de29 hL_law_1030 1 rfl rfl
theorem dL_law_1032 : decode cL_law 1032 = .ok (.iconst 2, 1) := de5 hL_law_1030 2 rfl rfl
theorem dL_law_1033 : decode cL_law 1033 = .ok (.iadd, 1) := de96 hL_law_1030 3 rfl rfl
theorem dL_law_1034 : decode cL_law 1034 = .ok (.iaload, 1) := de46 hL_law_1030 4 rfl rfl
theorem dL_law_1035 : decode cL_law 1035 = .ok (.aload_n 0, 1) := de42 hL_law_1030 5 rfl rfl
theorem dL_law_1036 : decode cL_law 1036 = .ok (.iload_n 3, 1) := de29 hL_law_1030 6 rfl rfl
theorem dL_law_1037 : decode cL_law 1037 = .ok (.iconst 3, 1) := de6 hL_law_1030 7 rfl rfl
theorem dL_law_1038 : decode cL_law 1038 = .ok (.iadd, 1) := de96 hL_law_1030 8 rfl rfl
theorem dL_law_1039 : decode cL_law 1039 = .ok (.iaload, 1) := de46 hL_law_1030 9 rfl rfl
theorem dL_law_1040 : decode cL_law 1040 = .ok (.invokevirtual 109, 3) := de182 hL_law_1030 10 rfl rfl rfl
theorem dL_law_1043 : decode cL_law 1043 = .ok (.pop, 1) := de87 hL_law_1030 13 rfl rfl
theorem hL_law_1044 : bHas cL_law 1044 [44, 42, 29, 4, 96, 46, 42, 29, 5, 96, 46, 42] := bH_c (n := 12) (by decide +kernel)
theorem dL_law_1044 : decode cL_law 1044 = .ok (.aload_n 2, 1) := de44 hL_law_1044 0 rfl rfl
theorem dL_law_1045 : decode cL_law 1045 = .ok (.aload_n 0, 1) := de42 hL_law_1044 1 rfl rfl
theorem dL_law_1046 : decode cL_law 1046 = .ok (.iload_n 3, 1) := de29 hL_law_1044 2 rfl rfl
theorem dL_law_1047 : decode cL_law 1047 = .ok (.iconst 1, 1) := de4 hL_law_1044 3 rfl rfl
theorem dL_law_1048 : decode cL_law 1048 = .ok (.iadd, 1) := de96 hL_law_1044 4 rfl rfl
theorem dL_law_1049 : decode cL_law 1049 = .ok (.iaload, 1) := de46 hL_law_1044 5 rfl rfl
theorem dL_law_1050 : decode cL_law 1050 = .ok (.aload_n 0, 1) := de42 hL_law_1044 6 rfl rfl
theorem dL_law_1051 : decode cL_law 1051 = .ok (.iload_n 3, 1) := de29 hL_law_1044 7 rfl rfl
theorem dL_law_1052 : decode cL_law 1052 = .ok (.iconst 2, 1) := de5 hL_law_1044 8 rfl rfl
theorem dL_law_1053 : decode cL_law 1053 = .ok (.iadd, 1) := de96 hL_law_1044 9 rfl rfl
theorem dL_law_1054 : decode cL_law 1054 = .ok (.iaload, 1) := de46 hL_law_1044 10 rfl rfl
theorem dL_law_1055 : decode cL_law 1055 = .ok (.aload_n 0, 1) := de42 hL_law_1044 11 rfl rfl
theorem hL_law_1056 : bHas cL_law 1056 [29, 6, 96, 46, 182, 0, 112, 87, 167, 0, 237, 43, 42, 29, 4, 96] := bH_c (n := 16) (by decide +kernel)
theorem dL_law_1056 : decode cL_law 1056 = .ok (.iload_n 3, 1) := de29 hL_law_1056 0 rfl rfl
theorem dL_law_1057 : decode cL_law 1057 = .ok (.iconst 3, 1) := de6 hL_law_1056 1 rfl rfl
theorem dL_law_1058 : decode cL_law 1058 = .ok (.iadd, 1) := de96 hL_law_1056 2 rfl rfl
theorem dL_law_1059 : decode cL_law 1059 = .ok (.iaload, 1) := de46 hL_law_1056 3 rfl rfl
theorem dL_law_1060 : decode cL_law 1060 = .ok (.invokevirtual 112, 3) := de182 hL_law_1056 4 rfl rfl rfl
theorem dL_law_1063 : decode cL_law 1063 = .ok (.pop, 1) := de87 hL_law_1056 7 rfl rfl
theorem dL_law_1064 : decode cL_law 1064 = .ok (.goto 237, 3) := de167 hL_law_1056 8 rfl rfl (by decide +kernel)
theorem dL_law_1067 : decode cL_law 1067 = .ok (.aload_n 1, 1) := de43 hL_law_1056 11 rfl rfl
theorem dL_law_1068 : decode cL_law 1068 = .ok (.aload_n 0, 1) := de42 hL_law_1056 12 rfl rfl
theorem dL_law_1069 : decode cL_law 1069 = .ok (.iload_n 3, 1) := de29 hL_law_1056 13 rfl rfl
theorem dL_law_1070 : decode cL_law 1070 = .ok (.iconst 1, 1) := de4 hL_law_1056 14 rfl rfl
theorem dL_law_1071 : decode cL_law 1071 = .ok (.iadd, 1) := de96 hL_law_1056 15 rfl rfl
theorem hL_law_1072 : bHas cL_law 1072 [46, 42, 29, 5, 96, 46, 182, 0, 113, 87, 44, 42, 29, 4] := bH_c (n := 14) (by decide +kernel)
theorem dL_law_1072 : decode cL_law 1072 = .ok (.iaload, 1) := de46 hL_law_1072 0 rfl rfl
theorem dL_law_1073 : decode cL_law 1073 = .ok (.aload_n 0, 1) := de42 hL_law_1072 1 rfl rfl
theorem dL_law_1074 : decode cL_law 1074 = .ok (.iload_n 3, 1) := de29 hL_law_1072 2 rfl rfl
theorem dL_law_1075 : decode cL_law 1075 = .ok (.iconst 2, 1) := de5 hL_law_1072 3 rfl rfl
theorem dL_law_1076 : decode cL_law 1076 = .ok (.iadd, 1) := de96 hL_law_1072 4 rfl rfl
theorem dL_law_1077 : decode cL_law 1077 = .ok (.iaload, 1) := de46 hL_law_1072 5 rfl rfl
theorem dL_law_1078 : decode cL_law 1078 = .ok (.invokevirtual 113, 3) := de182 hL_law_1072 6 rfl rfl rfl
theorem dL_law_1081 : decode cL_law 1081 = .ok (.pop, 1) := de87 hL_law_1072 9 rfl rfl
theorem dL_law_1082 : decode cL_law 1082 = .ok (.aload_n 2, 1) := de44 hL_law_1072 10 rfl rfl
theorem dL_law_1083 : decode cL_law 1083 = .ok (.aload_n 0, 1) := de42 hL_law_1072 11 rfl rfl
theorem dL_law_1084 : decode cL_law 1084 = .ok (.iload_n 3, 1) := de29 hL_law_1072 12 rfl rfl
theorem dL_law_1085 : decode cL_law 1085 = .ok (.iconst 1, 1) := de4 hL_law_1072 13 rfl rfl
theorem hL_law_1086 : bHas cL_law 1086 [96, 46, 42, 29, 5, 96, 46, 182, 0, 116, 87, 167, 0, 204, 43, 42] := bH_c (n := 16) (by decide +kernel)
theorem dL_law_1086 : decode cL_law 1086 = .ok (.iadd, 1) := de96 hL_law_1086 0 rfl rfl
theorem dL_law_1087 : decode cL_law 1087 = .ok (.iaload, 1) := de46 hL_law_1086 1 rfl rfl
theorem dL_law_1088 : decode cL_law 1088 = .ok (.aload_n 0, 1) := de42 hL_law_1086 2 rfl rfl
theorem dL_law_1089 : decode cL_law 1089 = .ok (.iload_n 3, 1) := de29 hL_law_1086 3 rfl rfl
theorem dL_law_1090 : decode cL_law 1090 = .ok (.iconst 2, 1) := de5 hL_law_1086 4 rfl rfl
theorem dL_law_1091 : decode cL_law 1091 = .ok (.iadd, 1) := de96 hL_law_1086 5 rfl rfl
theorem dL_law_1092 : decode cL_law 1092 = .ok (.iaload, 1) := de46 hL_law_1086 6 rfl rfl
theorem dL_law_1093 : decode cL_law 1093 = .ok (.invokevirtual 116, 3) := de182 hL_law_1086 7 rfl rfl rfl
theorem dL_law_1096 : decode cL_law 1096 = .ok (.pop, 1) := de87 hL_law_1086 10 rfl rfl
theorem dL_law_1097 : decode cL_law 1097 = .ok (.goto 204, 3) := de167 hL_law_1086 11 rfl rfl (by decide +kernel)
theorem dL_law_1100 : decode cL_law 1100 = .ok (.aload_n 1, 1) := de43 hL_law_1086 14 rfl rfl
theorem dL_law_1101 : decode cL_law 1101 = .ok (.aload_n 0, 1) := de42 hL_law_1086 15 rfl rfl
theorem hL_law_1102 : bHas cL_law 1102 [29, 4, 96, 46, 42, 29, 5, 96, 46, 182, 0, 117, 44, 42] := bH_c (n := 14) (by decide +kernel)
theorem dL_law_1102 : decode cL_law 1102 = .ok (.iload_n 3, 1) := de29 hL_law_1102 0 rfl rfl
theorem dL_law_1103 : decode cL_law 1103 = .ok (.iconst 1, 1) := de4 hL_law_1102 1 rfl rfl
theorem dL_law_1104 : decode cL_law 1104 = .ok (.iadd, 1) := de96 hL_law_1102 2 rfl rfl
theorem dL_law_1105 : decode cL_law 1105 = .ok (.iaload, 1) := de46 hL_law_1102 3 rfl rfl
theorem dL_law_1106 : decode cL_law 1106 = .ok (.aload_n 0, 1) := de42 hL_law_1102 4 rfl rfl
theorem dL_law_1107 : decode cL_law 1107 = .ok (.iload_n 3, 1) := de29 hL_law_1102 5 rfl rfl
theorem dL_law_1108 : decode cL_law 1108 = .ok (.iconst 2, 1) := de5 hL_law_1102 6 rfl rfl
theorem dL_law_1109 : decode cL_law 1109 = .ok (.iadd, 1) := de96 hL_law_1102 7 rfl rfl
theorem dL_law_1110 : decode cL_law 1110 = .ok (.iaload, 1) := de46 hL_law_1102 8 rfl rfl
theorem dL_law_1111 : decode cL_law 1111 = .ok (.invokevirtual 117, 3) := de182 hL_law_1102 9 rfl rfl rfl
theorem dL_law_1114 : decode cL_law 1114 = .ok (.aload_n 2, 1) := de44 hL_law_1102 12 rfl rfl
theorem dL_law_1115 : decode cL_law 1115 = .ok (.aload_n 0, 1) := de42 hL_law_1102 13 rfl rfl
theorem hL_law_1116 : bHas cL_law 1116 [29, 4, 96, 46, 42, 29, 5, 96, 46, 182, 0, 120, 159, 0, 173, 3] := bH_c (n := 16) (by decide +kernel)
theorem dL_law_1116 : decode cL_law 1116 = .ok (.iload_n 3, 1) := de29 hL_law_1116 0 rfl rfl
theorem dL_law_1117 : decode cL_law 1117 = .ok (.iconst 1, 1) := de4 hL_law_1116 1 rfl rfl
theorem dL_law_1118 : decode cL_law 1118 = .ok (.iadd, 1) := de96 hL_law_1116 2 rfl rfl
theorem dL_law_1119 : decode cL_law 1119 = .ok (.iaload, 1) := de46 hL_law_1116 3 rfl rfl
theorem dL_law_1120 : decode cL_law 1120 = .ok (.aload_n 0, 1) := de42 hL_law_1116 4 rfl rfl
theorem dL_law_1121 : decode cL_law 1121 = .ok (.iload_n 3, 1) := de29 hL_law_1116 5 rfl rfl
theorem dL_law_1122 : decode cL_law 1122 = .ok (.iconst 2, 1) := de5 hL_law_1116 6 rfl rfl
theorem dL_law_1123 : decode cL_law 1123 = .ok (.iadd, 1) := de96 hL_law_1116 7 rfl rfl
theorem dL_law_1124 : decode cL_law 1124 = .ok (.iaload, 1) := de46 hL_law_1116 8 rfl rfl
theorem dL_law_1125 : decode cL_law 1125 = .ok (.invokevirtual 120, 3) := de182 hL_law_1116 9 rfl rfl rfl
theorem dL_law_1128 : decode cL_law 1128 = .ok (.if_icmp .eq 173, 3) := de159 hL_law_1116 12 rfl rfl (by decide +kernel)
theorem dL_law_1131 : decode cL_law 1131 = .ok (.iconst 0, 1) := de3 hL_law_1116 15 rfl rfl
theorem hL_law_1132 : bHas cL_law 1132 [172, 43, 42, 29, 4, 96, 46, 42, 29, 5, 96, 46] := bH_c (n := 12) (by decide +kernel)
theorem dL_law_1132 : decode cL_law 1132 = .ok (.ireturn, 1) := de172 hL_law_1132 0 rfl rfl
theorem dL_law_1133 : decode cL_law 1133 = .ok (.aload_n 1, 1) := de43 hL_law_1132 1 rfl rfl
theorem dL_law_1134 : decode cL_law 1134 = .ok (.aload_n 0, 1) := de42 hL_law_1132 2 rfl rfl
theorem dL_law_1135 : decode cL_law 1135 = .ok (.iload_n 3, 1) := de29 hL_law_1132 3 rfl rfl
theorem dL_law_1136 : decode cL_law 1136 = .ok (.iconst 1, 1) := de4 hL_law_1132 4 rfl rfl
theorem dL_law_1137 : decode cL_law 1137 = .ok (.iadd, 1) := de96 hL_law_1132 5 rfl rfl
theorem dL_law_1138 : decode cL_law 1138 = .ok (.iaload, 1) := de46 hL_law_1132 6 rfl rfl
theorem dL_law_1139 : decode cL_law 1139 = .ok (.aload_n 0, 1) := de42 hL_law_1132 7 rfl rfl
theorem dL_law_1140 : decode cL_law 1140 = .ok (.iload_n 3, 1) := de29 hL_law_1132 8 rfl rfl
theorem dL_law_1141 : decode cL_law 1141 = .ok (.iconst 2, 1) := de5 hL_law_1132 9 rfl rfl
theorem dL_law_1142 : decode cL_law 1142 = .ok (.iadd, 1) := de96 hL_law_1132 10 rfl rfl
theorem dL_law_1143 : decode cL_law 1143 = .ok (.iaload, 1) := de46 hL_law_1132 11 rfl rfl
theorem hL_law_1144 : bHas cL_law 1144 [182, 0, 121, 87, 44, 42, 29, 4, 96, 46, 42, 29, 5, 96] := bH_c (n := 14) (by decide +kernel)
theorem dL_law_1144 : decode cL_law 1144 = .ok (.invokevirtual 121, 3) := de182 hL_law_1144 0 rfl rfl rfl
theorem dL_law_1147 : decode cL_law 1147 = .ok (.pop, 1) := de87 hL_law_1144 3 rfl rfl
theorem dL_law_1148 : decode cL_law 1148 = .ok (.aload_n 2, 1) := de44 hL_law_1144 4 rfl rfl
theorem dL_law_1149 : decode cL_law 1149 = .ok (.aload_n 0, 1) := de42 hL_law_1144 5 rfl rfl
theorem dL_law_1150 : decode cL_law 1150 = .ok (.iload_n 3, 1) := de29 hL_law_1144 6 rfl rfl
theorem dL_law_1151 : decode cL_law 1151 = .ok (.iconst 1, 1) := de4 hL_law_1144 7 rfl rfl
theorem dL_law_1152 : decode cL_law 1152 = .ok (.iadd, 1) := de96 hL_law_1144 8 rfl rfl
theorem dL_law_1153 : decode cL_law 1153 = .ok (.iaload, 1) := de46 hL_law_1144 9 rfl rfl
theorem dL_law_1154 : decode cL_law 1154 = .ok (.aload_n 0, 1) := de42 hL_law_1144 10 rfl rfl
theorem dL_law_1155 : decode cL_law 1155 = .ok (.iload_n 3, 1) := de29 hL_law_1144 11 rfl rfl
theorem dL_law_1156 : decode cL_law 1156 = .ok (.iconst 2, 1) := de5 hL_law_1144 12 rfl rfl
theorem dL_law_1157 : decode cL_law 1157 = .ok (.iadd, 1) := de96 hL_law_1144 13 rfl rfl
theorem hL_law_1158 : bHas cL_law 1158 [46, 182, 0, 124, 87, 167, 0, 138, 43, 42, 29, 4, 96, 46, 42, 29] := bH_c (n := 16) (by decide +kernel)
theorem dL_law_1158 : decode cL_law 1158 = .ok (.iaload, 1) := de46 hL_law_1158 0 rfl rfl
theorem dL_law_1159 : decode cL_law 1159 = .ok (.invokevirtual 124, 3) := de182 hL_law_1158 1 rfl rfl rfl
theorem dL_law_1162 : decode cL_law 1162 = .ok (.pop, 1) := de87 hL_law_1158 4 rfl rfl
theorem dL_law_1163 : decode cL_law 1163 = .ok (.goto 138, 3) := de167 hL_law_1158 5 rfl rfl (by decide +kernel)
theorem dL_law_1166 : decode cL_law 1166 = .ok (.aload_n 1, 1) := de43 hL_law_1158 8 rfl rfl
theorem dL_law_1167 : decode cL_law 1167 = .ok (.aload_n 0, 1) := de42 hL_law_1158 9 rfl rfl
theorem dL_law_1168 : decode cL_law 1168 = .ok (.iload_n 3, 1) := de29 hL_law_1158 10 rfl rfl
theorem dL_law_1169 : decode cL_law 1169 = .ok (.iconst 1, 1) := de4 hL_law_1158 11 rfl rfl
theorem dL_law_1170 : decode cL_law 1170 = .ok (.iadd, 1) := de96 hL_law_1158 12 rfl rfl
theorem dL_law_1171 : decode cL_law 1171 = .ok (.iaload, 1) := de46 hL_law_1158 13 rfl rfl
theorem dL_law_1172 : decode cL_law 1172 = .ok (.aload_n 0, 1) := de42 hL_law_1158 14 rfl rfl
theorem dL_law_1173 : decode cL_law 1173 = .ok (.iload_n 3, 1) := de29 hL_law_1158 15 rfl rfl
theorem hL_law_1174 : bHas cL_law 1174 [5, 96, 46, 182, 0, 125, 88, 44, 42, 29, 4, 96, 46, 42] := bH_c (n := 14) (by decide +kernel)
theorem dL_law_1174 : decode cL_law 1174 = .ok (.iconst 2, 1) := de5 hL_law_1174 0 rfl rfl
theorem dL_law_1175 : decode cL_law 1175 = .ok (.iadd, 1) := de96 hL_law_1174 1 rfl rfl
theorem dL_law_1176 : decode cL_law 1176 = .ok (.iaload, 1) := de46 hL_law_1174 2 rfl rfl
theorem dL_law_1177 : decode cL_law 1177 = .ok (.invokevirtual 125, 3) := de182 hL_law_1174 3 rfl rfl rfl
theorem dL_law_1180 : decode cL_law 1180 = .ok (.pop2, 1) := de88 hL_law_1174 6 rfl rfl
theorem dL_law_1181 : decode cL_law 1181 = .ok (.aload_n 2, 1) := de44 hL_law_1174 7 rfl rfl
theorem dL_law_1182 : decode cL_law 1182 = .ok (.aload_n 0, 1) := de42 hL_law_1174 8 rfl rfl
theorem dL_law_1183 : decode cL_law 1183 = .ok (.iload_n 3, 1) := de29 hL_law_1174 9 rfl rfl
theorem dL_law_1184 : decode cL_law 1184 = .ok (.iconst 1, 1) := de4 hL_law_1174 10 rfl rfl
theorem dL_law_1185 : decode cL_law 1185 = .ok (.iadd, 1) := de96 hL_law_1174 11 rfl rfl
theorem dL_law_1186 : decode cL_law 1186 = .ok (.iaload, 1) := de46 hL_law_1174 12 rfl rfl
theorem dL_law_1187 : decode cL_law 1187 = .ok (.aload_n 0, 1) := de42 hL_law_1174 13 rfl rfl
theorem hL_law_1188 : bHas cL_law 1188 [29, 5, 96, 46, 182, 0, 129, 88, 167, 0, 105, 43, 42, 29, 4, 96] := bH_c (n := 16) (by decide +kernel)
theorem dL_law_1188 : decode cL_law 1188 = .ok (.iload_n 3, 1) := de29 hL_law_1188 0 rfl rfl
theorem dL_law_1189 : decode cL_law 1189 = .ok (.iconst 2, 1) := de5 hL_law_1188 1 rfl rfl
theorem dL_law_1190 : decode cL_law 1190 = .ok (.iadd, 1) := de96 hL_law_1188 2 rfl rfl
theorem dL_law_1191 : decode cL_law 1191 = .ok (.iaload, 1) := de46 hL_law_1188 3 rfl rfl
theorem dL_law_1192 : decode cL_law 1192 = .ok (.invokevirtual 129, 3) := de182 hL_law_1188 4 rfl rfl rfl
theorem dL_law_1195 : decode cL_law 1195 = .ok (.pop2, 1) := de88 hL_law_1188 7 rfl rfl
theorem dL_law_1196 : decode cL_law 1196 = .ok (.goto 105, 3) := de167 hL_law_1188 8 rfl rfl (by decide +kernel)
theorem dL_law_1199 : decode cL_law 1199 = .ok (.aload_n 1, 1) := de43 hL_law_1188 11 rfl rfl
theorem dL_law_1200 : decode cL_law 1200 = .ok (.aload_n 0, 1) := de42 hL_law_1188 12 rfl rfl
theorem dL_law_1201 : decode cL_law 1201 = .ok (.iload_n 3, 1) := de29 hL_law_1188 13 rfl rfl
theorem dL_law_1202 : decode cL_law 1202 = .ok (.iconst 1, 1) := de4 hL_law_1188 14 rfl rfl
theorem dL_law_1203 : decode cL_law 1203 = .ok (.iadd, 1) := de96 hL_law_1188 15 rfl rfl
theorem hL_law_1204 : bHas cL_law 1204 [46, 42, 29, 5, 96, 46, 182, 0, 130, 87, 44, 42, 29, 4] := bH_c (n := 14) (by decide +kernel)
theorem dL_law_1204 : decode cL_law 1204 = .ok (.iaload, 1) := de46 hL_law_1204 0 rfl rfl
theorem dL_law_1205 : decode cL_law 1205 = .ok (.aload_n 0, 1) := de42 hL_law_1204 1 rfl rfl
theorem dL_law_1206 : decode cL_law 1206 = .ok (.iload_n 3, 1) := de29 hL_law_1204 2 rfl rfl
theorem dL_law_1207 : decode cL_law 1207 = .ok (.iconst 2, 1) := de5 hL_law_1204 3 rfl rfl
theorem dL_law_1208 : decode cL_law 1208 = .ok (.iadd, 1) := de96 hL_law_1204 4 rfl rfl
theorem dL_law_1209 : decode cL_law 1209 = .ok (.iaload, 1) := de46 hL_law_1204 5 rfl rfl
theorem dL_law_1210 : decode cL_law 1210 = .ok (.invokevirtual 130, 3) := de182 hL_law_1204 6 rfl rfl rfl
theorem dL_law_1213 : decode cL_law 1213 = .ok (.pop, 1) := de87 hL_law_1204 9 rfl rfl
theorem dL_law_1214 : decode cL_law 1214 = .ok (.aload_n 2, 1) := de44 hL_law_1204 10 rfl rfl
theorem dL_law_1215 : decode cL_law 1215 = .ok (.aload_n 0, 1) := de42 hL_law_1204 11 rfl rfl
theorem dL_law_1216 : decode cL_law 1216 = .ok (.iload_n 3, 1) := de29 hL_law_1204 12 rfl rfl
theorem dL_law_1217 : decode cL_law 1217 = .ok (.iconst 1, 1) := de4 hL_law_1204 13 rfl rfl
theorem hL_law_1218 : bHas cL_law 1218 [96, 46, 42, 29, 5, 96, 46, 182, 0, 133, 87, 167, 0, 72, 43, 42] := bH_c (n := 16) (by decide +kernel)
theorem dL_law_1218 : decode cL_law 1218 = .ok (.iadd, 1) := de96 hL_law_1218 0 rfl rfl
theorem dL_law_1219 : decode cL_law 1219 = .ok (.iaload, 1) := de46 hL_law_1218 1 rfl rfl
theorem dL_law_1220 : decode cL_law 1220 = .ok (.aload_n 0, 1) := de42 hL_law_1218 2 rfl rfl
theorem dL_law_1221 : decode cL_law 1221 = .ok (.iload_n 3, 1) := de29 hL_law_1218 3 rfl rfl
theorem dL_law_1222 : decode cL_law 1222 = .ok (.iconst 2, 1) := de5 hL_law_1218 4 rfl rfl
theorem dL_law_1223 : decode cL_law 1223 = .ok (.iadd, 1) := de96 hL_law_1218 5 rfl rfl
theorem dL_law_1224 : decode cL_law 1224 = .ok (.iaload, 1) := de46 hL_law_1218 6 rfl rfl
theorem dL_law_1225 : decode cL_law 1225 = .ok (.invokevirtual 133, 3) := de182 hL_law_1218 7 rfl rfl rfl
theorem dL_law_1228 : decode cL_law 1228 = .ok (.pop, 1) := de87 hL_law_1218 10 rfl rfl
theorem dL_law_1229 : decode cL_law 1229 = .ok (.goto 72, 3) := de167 hL_law_1218 11 rfl rfl (by decide +kernel)
theorem dL_law_1232 : decode cL_law 1232 = .ok (.aload_n 1, 1) := de43 hL_law_1218 14 rfl rfl
theorem dL_law_1233 : decode cL_law 1233 = .ok (.aload_n 0, 1) := de42 hL_law_1218 15 rfl rfl
theorem hL_law_1234 : bHas cL_law 1234 [29, 4, 96, 46, 182, 0, 134, 87, 44, 42, 29, 4, 96, 46] := bH_c (n := 14) (by decide +kernel)
theorem dL_law_1234 : decode cL_law 1234 = .ok (.iload_n 3, 1) := de29 hL_law_1234 0 rfl rfl
theorem dL_law_1235 : decode cL_law 1235 = .ok (.iconst 1, 1) := de4 hL_law_1234 1 rfl rfl
theorem dL_law_1236 : decode cL_law 1236 = .ok (.iadd, 1) := de96 hL_law_1234 2 rfl rfl
theorem dL_law_1237 : decode cL_law 1237 = .ok (.iaload, 1) := de46 hL_law_1234 3 rfl rfl
theorem dL_law_1238 : decode cL_law 1238 = .ok (.invokevirtual 134, 3) := de182 hL_law_1234 4 rfl rfl rfl
theorem dL_law_1241 : decode cL_law 1241 = .ok (.pop, 1) := de87 hL_law_1234 7 rfl rfl
theorem dL_law_1242 : decode cL_law 1242 = .ok (.aload_n 2, 1) := de44 hL_law_1234 8 rfl rfl
theorem dL_law_1243 : decode cL_law 1243 = .ok (.aload_n 0, 1) := de42 hL_law_1234 9 rfl rfl
theorem dL_law_1244 : decode cL_law 1244 = .ok (.iload_n 3, 1) := de29 hL_law_1234 10 rfl rfl
theorem dL_law_1245 : decode cL_law 1245 = .ok (.iconst 1, 1) := de4 hL_law_1234 11 rfl rfl
theorem dL_law_1246 : decode cL_law 1246 = .ok (.iadd, 1) := de96 hL_law_1234 12 rfl rfl
theorem dL_law_1247 : decode cL_law 1247 = .ok (.iaload, 1) := de46 hL_law_1234 13 rfl rfl
theorem hL_law_1248 : bHas cL_law 1248 [182, 0, 137, 87, 167, 0, 49, 43, 42, 29, 4, 96, 46, 182, 0, 138, 87, 44] := bH_c (n := 18) (by decide +kernel)
theorem dL_law_1248 : decode cL_law 1248 = .ok (.invokevirtual 137, 3) := de182 hL_law_1248 0 rfl rfl rfl
theorem dL_law_1251 : decode cL_law 1251 = .ok (.pop, 1) := de87 hL_law_1248 3 rfl rfl
theorem dL_law_1252 : decode cL_law 1252 = .ok (.goto 49, 3) := de167 hL_law_1248 4 rfl rfl (by decide +kernel)
theorem dL_law_1255 : decode cL_law 1255 = .ok (.aload_n 1, 1) := de43 hL_law_1248 7 rfl rfl
theorem dL_law_1256 : decode cL_law 1256 = .ok (.aload_n 0, 1) := de42 hL_law_1248 8 rfl rfl
theorem dL_law_1257 : decode cL_law 1257 = .ok (.iload_n 3, 1) := de29 hL_law_1248 9 rfl rfl
theorem dL_law_1258 : decode cL_law 1258 = .ok (.iconst 1, 1) := de4 hL_law_1248 10 rfl rfl
theorem dL_law_1259 : decode cL_law 1259 = .ok (.iadd, 1) := de96 hL_law_1248 11 rfl rfl
theorem dL_law_1260 : decode cL_law 1260 = .ok (.iaload, 1) := de46 hL_law_1248 12 rfl rfl
theorem dL_law_1261 : decode cL_law 1261 = .ok (.invokevirtual 138, 3) := de182 hL_law_1248 13 rfl rfl rfl
theorem dL_law_1264 : decode cL_law 1264 = .ok (.pop, 1) := de87 hL_law_1248 16 rfl rfl
theorem dL_law_1265 : decode cL_law 1265 = .ok (.aload_n 2, 1) := de44 hL_law_1248 17 rfl rfl
theorem hL_law_1266 : bHas cL_law 1266 [42, 29, 4, 96, 46, 182, 0, 141, 87, 167, 0, 26, 43, 42, 29, 4] := bH_c (n := 16) (by decide +kernel)
theorem dL_law_1266 : decode cL_law 1266 = .ok (.aload_n 0, 1) := de42 hL_law_1266 0 rfl rfl
theorem dL_law_1267 : decode cL_law 1267 = .ok (.iload_n 3, 1) := de29 hL_law_1266 1 rfl rfl
theorem dL_law_1268 : decode cL_law 1268 = .ok (.iconst 1, 1) := de4 hL_law_1266 2 rfl rfl
theorem dL_law_1269 : decode cL_law 1269 = .ok (.iadd, 1) := de96 hL_law_1266 3 rfl rfl
theorem dL_law_1270 : decode cL_law 1270 = .ok (.iaload, 1) := de46 hL_law_1266 4 rfl rfl
theorem dL_law_1271 : decode cL_law 1271 = .ok (.invokevirtual 141, 3) := de182 hL_law_1266 5 rfl rfl rfl
theorem dL_law_1274 : decode cL_law 1274 = .ok (.pop, 1) := de87 hL_law_1266 8 rfl rfl
theorem dL_law_1275 : decode cL_law 1275 = .ok (.goto 26, 3) := de167 hL_law_1266 9 rfl rfl (by decide +kernel)
theorem dL_law_1278 : decode cL_law 1278 = .ok (.aload_n 1, 1) := de43 hL_law_1266 12 rfl rfl
theorem dL_law_1279 : decode cL_law 1279 = .ok (.aload_n 0, 1) := de42 hL_law_1266 13 rfl rfl
theorem dL_law_1280 : decode cL_law 1280 = .ok (.iload_n 3, 1) := de29 hL_law_1266 14 rfl rfl
theorem dL_law_1281 : decode cL_law 1281 = .ok (.iconst 1, 1) := de4 hL_law_1266 15 rfl rfl
theorem hL_law_1282 : bHas cL_law 1282 [96, 46, 182, 0, 142, 87, 44, 42, 29, 4, 96, 46, 182, 0, 145, 87] := bH_c (n := 16) (by decide +kernel)
theorem dL_law_1282 : decode cL_law 1282 = .ok (.iadd, 1) := de96 hL_law_1282 0 rfl rfl
theorem dL_law_1283 : decode cL_law 1283 = .ok (.iaload, 1) := de46 hL_law_1282 1 rfl rfl
theorem dL_law_1284 : decode cL_law 1284 = .ok (.invokevirtual 142, 3) := de182 hL_law_1282 2 rfl rfl rfl
theorem dL_law_1287 : decode cL_law 1287 = .ok (.pop, 1) := de87 hL_law_1282 5 rfl rfl
theorem dL_law_1288 : decode cL_law 1288 = .ok (.aload_n 2, 1) := de44 hL_law_1282 6 rfl rfl
theorem dL_law_1289 : decode cL_law 1289 = .ok (.aload_n 0, 1) := de42 hL_law_1282 7 rfl rfl
theorem dL_law_1290 : decode cL_law 1290 = .ok (.iload_n 3, 1) := de29 hL_law_1282 8 rfl rfl
theorem dL_law_1291 : decode cL_law 1291 = .ok (.iconst 1, 1) := de4 hL_law_1282 9 rfl rfl
theorem dL_law_1292 : decode cL_law 1292 = .ok (.iadd, 1) := de96 hL_law_1282 10 rfl rfl
theorem dL_law_1293 : decode cL_law 1293 = .ok (.iaload, 1) := de46 hL_law_1282 11 rfl rfl
theorem dL_law_1294 : decode cL_law 1294 = .ok (.invokevirtual 145, 3) := de182 hL_law_1282 12 rfl rfl rfl
theorem dL_law_1297 : decode cL_law 1297 = .ok (.pop, 1) := de87 hL_law_1282 15 rfl rfl
theorem hL_law_1298 : bHas cL_law 1298 [167, 0, 3, 132, 3, 8, 167, 250, 250, 4, 172] := bH_c (n := 11) (by decide +kernel)
theorem dL_law_1298 : decode cL_law 1298 = .ok (.goto 3, 3) := de167 hL_law_1298 0 rfl rfl (by decide +kernel)
theorem dL_law_1301 : decode cL_law 1301 = .ok (.iinc 3 8, 3) := de132 hL_law_1298 3 rfl rfl rfl rfl
theorem dL_law_1304 : decode cL_law 1304 = .ok (.goto (-1286), 3) := de167 hL_law_1298 6 rfl rfl (by decide +kernel)
theorem dL_law_1307 : decode cL_law 1307 = .ok (.iconst 1, 1) := de4 hL_law_1298 9 rfl rfl
theorem dL_law_1308 : decode cL_law 1308 = .ok (.ireturn, 1) := de172 hL_law_1298 10 rfl rfl
