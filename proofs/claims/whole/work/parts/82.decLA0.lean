theorem d_LA_law_0 : decode (xcode m_LA_law) 0 = .ok (.new 7, 3) := by decide +kernel
theorem d_LA_law_3 : decode (xcode m_LA_law) 3 = .ok (.dup, 1) := by decide +kernel
theorem d_LA_law_4 : decode (xcode m_LA_law) 4 = .ok (.invokespecial 9, 3) := by decide +kernel
theorem d_LA_law_7 : decode (xcode m_LA_law) 7 = .ok (.astore_n 1, 1) := by decide +kernel
theorem d_LA_law_8 : decode (xcode m_LA_law) 8 = .ok (.new 10, 3) := by decide +kernel
theorem d_LA_law_11 : decode (xcode m_LA_law) 11 = .ok (.dup, 1) := by decide +kernel
theorem d_LA_law_12 : decode (xcode m_LA_law) 12 = .ok (.invokespecial 12, 3) := by decide +kernel
theorem d_LA_law_15 : decode (xcode m_LA_law) 15 = .ok (.astore_n 2, 1) := by decide +kernel
theorem d_LA_law_16 : decode (xcode m_LA_law) 16 = .ok (.iconst 0, 1) := by decide +kernel
theorem d_LA_law_17 : decode (xcode m_LA_law) 17 = .ok (.istore_n 3, 1) := by decide +kernel
theorem d_LA_law_18 : decode (xcode m_LA_law) 18 = .ok (.iload_n 3, 1) := by decide +kernel
theorem d_LA_law_19 : decode (xcode m_LA_law) 19 = .ok (.aload_n 0, 1) := by decide +kernel
theorem d_LA_law_20 : decode (xcode m_LA_law) 20 = .ok (.arraylength, 1) := by decide +kernel
theorem d_LA_law_21 : decode (xcode m_LA_law) 21 = .ok (.bipush 6, 2) := by decide +kernel
theorem d_LA_law_23 : decode (xcode m_LA_law) 23 = .ok (.isub, 1) := by decide +kernel
theorem d_LA_law_24 : decode (xcode m_LA_law) 24 = .ok (.if_icmp .gt 1326, 3) := by decide +kernel
theorem d_LA_law_27 : decode (xcode m_LA_law) 27 = .ok (.aload_n 0, 1) := by decide +kernel
theorem d_LA_law_28 : decode (xcode m_LA_law) 28 = .ok (.iload_n 3, 1) := by decide +kernel
theorem d_LA_law_29 : decode (xcode m_LA_law) 29 = .ok (.iaload, 1) := by decide +kernel
theorem d_LA_law_30 : decode (xcode m_LA_law) 30 = .ok (.bipush 31, 2) := by decide +kernel
theorem d_LA_law_32 : decode (xcode m_LA_law) 32 = .ok (.iand, 1) := by decide +kernel
theorem d_LA_law_33 : decode (xcode m_LA_law) 33 = .ok (.tableswitch 1311 0 25 #[119, 182, 205, 228, 261, 284, 307, 360, 413, 466, 519, 562, 641, 710, 763, 796, 829, 872, 915, 968, 1037, 1080, 1103, 1146, 1225, 1268], 119) := by decide +kernel
theorem d_LA_law_152 : decode (xcode m_LA_law) 152 = .ok (.aload_n 1, 1) := by decide +kernel
theorem d_LA_law_153 : decode (xcode m_LA_law) 153 = .ok (.aload_n 0, 1) := by decide +kernel
theorem d_LA_law_154 : decode (xcode m_LA_law) 154 = .ok (.iload_n 3, 1) := by decide +kernel
theorem d_LA_law_155 : decode (xcode m_LA_law) 155 = .ok (.iconst 1, 1) := by decide +kernel
theorem d_LA_law_156 : decode (xcode m_LA_law) 156 = .ok (.iadd, 1) := by decide +kernel
theorem d_LA_law_157 : decode (xcode m_LA_law) 157 = .ok (.iaload, 1) := by decide +kernel
theorem d_LA_law_158 : decode (xcode m_LA_law) 158 = .ok (.aload_n 0, 1) := by decide +kernel
theorem d_LA_law_159 : decode (xcode m_LA_law) 159 = .ok (.iload_n 3, 1) := by decide +kernel
theorem d_LA_law_160 : decode (xcode m_LA_law) 160 = .ok (.iconst 2, 1) := by decide +kernel
theorem d_LA_law_161 : decode (xcode m_LA_law) 161 = .ok (.iadd, 1) := by decide +kernel
theorem d_LA_law_162 : decode (xcode m_LA_law) 162 = .ok (.iaload, 1) := by decide +kernel
theorem d_LA_law_163 : decode (xcode m_LA_law) 163 = .ok (.aload_n 0, 1) := by decide +kernel
theorem d_LA_law_164 : decode (xcode m_LA_law) 164 = .ok (.iload_n 3, 1) := by decide +kernel
theorem d_LA_law_165 : decode (xcode m_LA_law) 165 = .ok (.iconst 3, 1) := by decide +kernel
theorem d_LA_law_166 : decode (xcode m_LA_law) 166 = .ok (.iadd, 1) := by decide +kernel
theorem d_LA_law_167 : decode (xcode m_LA_law) 167 = .ok (.iaload, 1) := by decide +kernel
theorem d_LA_law_168 : decode (xcode m_LA_law) 168 = .ok (.aload_n 0, 1) := by decide +kernel
theorem d_LA_law_169 : decode (xcode m_LA_law) 169 = .ok (.iload_n 3, 1) := by decide +kernel
theorem d_LA_law_170 : decode (xcode m_LA_law) 170 = .ok (.iconst 4, 1) := by decide +kernel
theorem d_LA_law_171 : decode (xcode m_LA_law) 171 = .ok (.iadd, 1) := by decide +kernel
theorem d_LA_law_172 : decode (xcode m_LA_law) 172 = .ok (.iaload, 1) := by decide +kernel
theorem d_LA_law_173 : decode (xcode m_LA_law) 173 = .ok (.aload_n 0, 1) := by decide +kernel
theorem d_LA_law_174 : decode (xcode m_LA_law) 174 = .ok (.iload_n 3, 1) := by decide +kernel
theorem d_LA_law_175 : decode (xcode m_LA_law) 175 = .ok (.iconst 5, 1) := by decide +kernel
theorem d_LA_law_176 : decode (xcode m_LA_law) 176 = .ok (.iadd, 1) := by decide +kernel
theorem d_LA_law_177 : decode (xcode m_LA_law) 177 = .ok (.iaload, 1) := by decide +kernel
theorem d_LA_law_178 : decode (xcode m_LA_law) 178 = .ok (.invokevirtual 13, 3) := by decide +kernel
theorem d_LA_law_181 : decode (xcode m_LA_law) 181 = .ok (.aload_n 2, 1) := by decide +kernel
theorem d_LA_law_182 : decode (xcode m_LA_law) 182 = .ok (.aload_n 0, 1) := by decide +kernel
theorem d_LA_law_183 : decode (xcode m_LA_law) 183 = .ok (.iload_n 3, 1) := by decide +kernel
theorem d_LA_law_184 : decode (xcode m_LA_law) 184 = .ok (.iconst 1, 1) := by decide +kernel
theorem d_LA_law_185 : decode (xcode m_LA_law) 185 = .ok (.iadd, 1) := by decide +kernel
theorem d_LA_law_186 : decode (xcode m_LA_law) 186 = .ok (.iaload, 1) := by decide +kernel
theorem d_LA_law_187 : decode (xcode m_LA_law) 187 = .ok (.aload_n 0, 1) := by decide +kernel
theorem d_LA_law_188 : decode (xcode m_LA_law) 188 = .ok (.iload_n 3, 1) := by decide +kernel
theorem d_LA_law_189 : decode (xcode m_LA_law) 189 = .ok (.iconst 2, 1) := by decide +kernel
theorem d_LA_law_190 : decode (xcode m_LA_law) 190 = .ok (.iadd, 1) := by decide +kernel
theorem d_LA_law_191 : decode (xcode m_LA_law) 191 = .ok (.iaload, 1) := by decide +kernel
theorem d_LA_law_192 : decode (xcode m_LA_law) 192 = .ok (.aload_n 0, 1) := by decide +kernel
theorem d_LA_law_193 : decode (xcode m_LA_law) 193 = .ok (.iload_n 3, 1) := by decide +kernel
theorem d_LA_law_194 : decode (xcode m_LA_law) 194 = .ok (.iconst 3, 1) := by decide +kernel
theorem d_LA_law_195 : decode (xcode m_LA_law) 195 = .ok (.iadd, 1) := by decide +kernel
theorem d_LA_law_196 : decode (xcode m_LA_law) 196 = .ok (.iaload, 1) := by decide +kernel
theorem d_LA_law_197 : decode (xcode m_LA_law) 197 = .ok (.aload_n 0, 1) := by decide +kernel
theorem d_LA_law_198 : decode (xcode m_LA_law) 198 = .ok (.iload_n 3, 1) := by decide +kernel
theorem d_LA_law_199 : decode (xcode m_LA_law) 199 = .ok (.iconst 4, 1) := by decide +kernel
theorem d_LA_law_200 : decode (xcode m_LA_law) 200 = .ok (.iadd, 1) := by decide +kernel
theorem d_LA_law_201 : decode (xcode m_LA_law) 201 = .ok (.iaload, 1) := by decide +kernel
theorem d_LA_law_202 : decode (xcode m_LA_law) 202 = .ok (.aload_n 0, 1) := by decide +kernel
theorem d_LA_law_203 : decode (xcode m_LA_law) 203 = .ok (.iload_n 3, 1) := by decide +kernel
theorem d_LA_law_204 : decode (xcode m_LA_law) 204 = .ok (.iconst 5, 1) := by decide +kernel
theorem d_LA_law_205 : decode (xcode m_LA_law) 205 = .ok (.iadd, 1) := by decide +kernel
theorem d_LA_law_206 : decode (xcode m_LA_law) 206 = .ok (.iaload, 1) := by decide +kernel
theorem d_LA_law_207 : decode (xcode m_LA_law) 207 = .ok (.invokevirtual 17, 3) := by decide +kernel
theorem d_LA_law_210 : decode (xcode m_LA_law) 210 = .ok (.if_icmp .eq 1134, 3) := by decide +kernel
theorem d_LA_law_213 : decode (xcode m_LA_law) 213 = .ok (.iconst 0, 1) := by decide +kernel
theorem d_LA_law_214 : decode (xcode m_LA_law) 214 = .ok (.ireturn, 1) := by decide +kernel
theorem d_LA_law_215 : decode (xcode m_LA_law) 215 = .ok (.aload_n 1, 1) := by decide +kernel
theorem d_LA_law_216 : decode (xcode m_LA_law) 216 = .ok (.aload_n 0, 1) := by decide +kernel
theorem d_LA_law_217 : decode (xcode m_LA_law) 217 = .ok (.iload_n 3, 1) := by decide +kernel
theorem d_LA_law_218 : decode (xcode m_LA_law) 218 = .ok (.iconst 1, 1) := by decide +kernel
theorem d_LA_law_219 : decode (xcode m_LA_law) 219 = .ok (.iadd, 1) := by decide +kernel
theorem d_LA_law_220 : decode (xcode m_LA_law) 220 = .ok (.iaload, 1) := by decide +kernel
theorem d_LA_law_221 : decode (xcode m_LA_law) 221 = .ok (.invokevirtual 18, 3) := by decide +kernel
theorem d_LA_law_224 : decode (xcode m_LA_law) 224 = .ok (.aload_n 2, 1) := by decide +kernel
theorem d_LA_law_225 : decode (xcode m_LA_law) 225 = .ok (.aload_n 0, 1) := by decide +kernel
theorem d_LA_law_226 : decode (xcode m_LA_law) 226 = .ok (.iload_n 3, 1) := by decide +kernel
theorem d_LA_law_227 : decode (xcode m_LA_law) 227 = .ok (.iconst 1, 1) := by decide +kernel
theorem d_LA_law_228 : decode (xcode m_LA_law) 228 = .ok (.iadd, 1) := by decide +kernel
theorem d_LA_law_229 : decode (xcode m_LA_law) 229 = .ok (.iaload, 1) := by decide +kernel
theorem d_LA_law_230 : decode (xcode m_LA_law) 230 = .ok (.invokevirtual 22, 3) := by decide +kernel
theorem d_LA_law_233 : decode (xcode m_LA_law) 233 = .ok (.if_icmp .eq 1111, 3) := by decide +kernel
theorem d_LA_law_236 : decode (xcode m_LA_law) 236 = .ok (.iconst 0, 1) := by decide +kernel
theorem d_LA_law_237 : decode (xcode m_LA_law) 237 = .ok (.ireturn, 1) := by decide +kernel
theorem d_LA_law_238 : decode (xcode m_LA_law) 238 = .ok (.aload_n 1, 1) := by decide +kernel
theorem d_LA_law_239 : decode (xcode m_LA_law) 239 = .ok (.aload_n 0, 1) := by decide +kernel
theorem d_LA_law_240 : decode (xcode m_LA_law) 240 = .ok (.iload_n 3, 1) := by decide +kernel
theorem d_LA_law_241 : decode (xcode m_LA_law) 241 = .ok (.iconst 1, 1) := by decide +kernel
theorem d_LA_law_242 : decode (xcode m_LA_law) 242 = .ok (.iadd, 1) := by decide +kernel
theorem d_LA_law_243 : decode (xcode m_LA_law) 243 = .ok (.iaload, 1) := by decide +kernel
theorem d_LA_law_244 : decode (xcode m_LA_law) 244 = .ok (.invokevirtual 23, 3) := by decide +kernel
theorem d_LA_law_247 : decode (xcode m_LA_law) 247 = .ok (.aload_n 2, 1) := by decide +kernel
theorem d_LA_law_248 : decode (xcode m_LA_law) 248 = .ok (.aload_n 0, 1) := by decide +kernel
theorem d_LA_law_249 : decode (xcode m_LA_law) 249 = .ok (.iload_n 3, 1) := by decide +kernel
theorem d_LA_law_250 : decode (xcode m_LA_law) 250 = .ok (.iconst 1, 1) := by decide +kernel
theorem d_LA_law_251 : decode (xcode m_LA_law) 251 = .ok (.iadd, 1) := by decide +kernel
theorem d_LA_law_252 : decode (xcode m_LA_law) 252 = .ok (.iaload, 1) := by decide +kernel
theorem d_LA_law_253 : decode (xcode m_LA_law) 253 = .ok (.invokevirtual 26, 3) := by decide +kernel
theorem d_LA_law_256 : decode (xcode m_LA_law) 256 = .ok (.if_icmp .eq 1088, 3) := by decide +kernel
theorem d_LA_law_259 : decode (xcode m_LA_law) 259 = .ok (.iconst 0, 1) := by decide +kernel
theorem d_LA_law_260 : decode (xcode m_LA_law) 260 = .ok (.ireturn, 1) := by decide +kernel
theorem d_LA_law_261 : decode (xcode m_LA_law) 261 = .ok (.aload_n 1, 1) := by decide +kernel
theorem d_LA_law_262 : decode (xcode m_LA_law) 262 = .ok (.aload_n 0, 1) := by decide +kernel
theorem d_LA_law_263 : decode (xcode m_LA_law) 263 = .ok (.iload_n 3, 1) := by decide +kernel
theorem d_LA_law_264 : decode (xcode m_LA_law) 264 = .ok (.iconst 1, 1) := by decide +kernel
theorem d_LA_law_265 : decode (xcode m_LA_law) 265 = .ok (.iadd, 1) := by decide +kernel
theorem d_LA_law_266 : decode (xcode m_LA_law) 266 = .ok (.iaload, 1) := by decide +kernel
theorem d_LA_law_267 : decode (xcode m_LA_law) 267 = .ok (.aload_n 0, 1) := by decide +kernel
theorem d_LA_law_268 : decode (xcode m_LA_law) 268 = .ok (.iload_n 3, 1) := by decide +kernel
theorem d_LA_law_269 : decode (xcode m_LA_law) 269 = .ok (.iconst 2, 1) := by decide +kernel
theorem d_LA_law_270 : decode (xcode m_LA_law) 270 = .ok (.iadd, 1) := by decide +kernel
theorem d_LA_law_271 : decode (xcode m_LA_law) 271 = .ok (.iaload, 1) := by decide +kernel
theorem d_LA_law_272 : decode (xcode m_LA_law) 272 = .ok (.invokevirtual 27, 3) := by decide +kernel
theorem d_LA_law_275 : decode (xcode m_LA_law) 275 = .ok (.aload_n 2, 1) := by decide +kernel
theorem d_LA_law_276 : decode (xcode m_LA_law) 276 = .ok (.aload_n 0, 1) := by decide +kernel
theorem d_LA_law_277 : decode (xcode m_LA_law) 277 = .ok (.iload_n 3, 1) := by decide +kernel
theorem d_LA_law_278 : decode (xcode m_LA_law) 278 = .ok (.iconst 1, 1) := by decide +kernel
theorem d_LA_law_279 : decode (xcode m_LA_law) 279 = .ok (.iadd, 1) := by decide +kernel
theorem d_LA_law_280 : decode (xcode m_LA_law) 280 = .ok (.iaload, 1) := by decide +kernel
theorem d_LA_law_281 : decode (xcode m_LA_law) 281 = .ok (.aload_n 0, 1) := by decide +kernel
theorem d_LA_law_282 : decode (xcode m_LA_law) 282 = .ok (.iload_n 3, 1) := by decide +kernel
theorem d_LA_law_283 : decode (xcode m_LA_law) 283 = .ok (.iconst 2, 1) := by decide +kernel
theorem d_LA_law_284 : decode (xcode m_LA_law) 284 = .ok (.iadd, 1) := by decide +kernel
theorem d_LA_law_285 : decode (xcode m_LA_law) 285 = .ok (.iaload, 1) := by decide +kernel
theorem d_LA_law_286 : decode (xcode m_LA_law) 286 = .ok (.invokevirtual 31, 3) := by decide +kernel
theorem d_LA_law_289 : decode (xcode m_LA_law) 289 = .ok (.if_icmp .eq 1055, 3) := by decide +kernel
theorem d_LA_law_292 : decode (xcode m_LA_law) 292 = .ok (.iconst 0, 1) := by decide +kernel
theorem d_LA_law_293 : decode (xcode m_LA_law) 293 = .ok (.ireturn, 1) := by decide +kernel
theorem d_LA_law_294 : decode (xcode m_LA_law) 294 = .ok (.aload_n 1, 1) := by decide +kernel
theorem d_LA_law_295 : decode (xcode m_LA_law) 295 = .ok (.aload_n 0, 1) := by decide +kernel
theorem d_LA_law_296 : decode (xcode m_LA_law) 296 = .ok (.iload_n 3, 1) := by decide +kernel
theorem d_LA_law_297 : decode (xcode m_LA_law) 297 = .ok (.iconst 1, 1) := by decide +kernel
theorem d_LA_law_298 : decode (xcode m_LA_law) 298 = .ok (.iadd, 1) := by decide +kernel
theorem d_LA_law_299 : decode (xcode m_LA_law) 299 = .ok (.iaload, 1) := by decide +kernel
theorem d_LA_law_300 : decode (xcode m_LA_law) 300 = .ok (.invokevirtual 32, 3) := by decide +kernel
theorem d_LA_law_303 : decode (xcode m_LA_law) 303 = .ok (.aload_n 2, 1) := by decide +kernel
theorem d_LA_law_304 : decode (xcode m_LA_law) 304 = .ok (.aload_n 0, 1) := by decide +kernel
theorem d_LA_law_305 : decode (xcode m_LA_law) 305 = .ok (.iload_n 3, 1) := by decide +kernel
theorem d_LA_law_306 : decode (xcode m_LA_law) 306 = .ok (.iconst 1, 1) := by decide +kernel
theorem d_LA_law_307 : decode (xcode m_LA_law) 307 = .ok (.iadd, 1) := by decide +kernel
theorem d_LA_law_308 : decode (xcode m_LA_law) 308 = .ok (.iaload, 1) := by decide +kernel
theorem d_LA_law_309 : decode (xcode m_LA_law) 309 = .ok (.invokevirtual 35, 3) := by decide +kernel
theorem d_LA_law_312 : decode (xcode m_LA_law) 312 = .ok (.if_icmp .eq 1032, 3) := by decide +kernel
theorem d_LA_law_315 : decode (xcode m_LA_law) 315 = .ok (.iconst 0, 1) := by decide +kernel
theorem d_LA_law_316 : decode (xcode m_LA_law) 316 = .ok (.ireturn, 1) := by decide +kernel
theorem d_LA_law_317 : decode (xcode m_LA_law) 317 = .ok (.aload_n 1, 1) := by decide +kernel
theorem d_LA_law_318 : decode (xcode m_LA_law) 318 = .ok (.aload_n 0, 1) := by decide +kernel
theorem d_LA_law_319 : decode (xcode m_LA_law) 319 = .ok (.iload_n 3, 1) := by decide +kernel
theorem d_LA_law_320 : decode (xcode m_LA_law) 320 = .ok (.iconst 1, 1) := by decide +kernel
theorem d_LA_law_321 : decode (xcode m_LA_law) 321 = .ok (.iadd, 1) := by decide +kernel
theorem d_LA_law_322 : decode (xcode m_LA_law) 322 = .ok (.iaload, 1) := by decide +kernel
theorem d_LA_law_323 : decode (xcode m_LA_law) 323 = .ok (.invokevirtual 36, 3) := by decide +kernel
theorem d_LA_law_326 : decode (xcode m_LA_law) 326 = .ok (.aload_n 2, 1) := by decide +kernel
theorem d_LA_law_327 : decode (xcode m_LA_law) 327 = .ok (.aload_n 0, 1) := by decide +kernel
theorem d_LA_law_328 : decode (xcode m_LA_law) 328 = .ok (.iload_n 3, 1) := by decide +kernel
theorem d_LA_law_329 : decode (xcode m_LA_law) 329 = .ok (.iconst 1, 1) := by decide +kernel
theorem d_LA_law_330 : decode (xcode m_LA_law) 330 = .ok (.iadd, 1) := by decide +kernel
theorem d_LA_law_331 : decode (xcode m_LA_law) 331 = .ok (.iaload, 1) := by decide +kernel
theorem d_LA_law_332 : decode (xcode m_LA_law) 332 = .ok (.invokevirtual 39, 3) := by decide +kernel
theorem d_LA_law_335 : decode (xcode m_LA_law) 335 = .ok (.if_icmp .eq 1009, 3) := by decide +kernel
theorem d_LA_law_338 : decode (xcode m_LA_law) 338 = .ok (.iconst 0, 1) := by decide +kernel
theorem d_LA_law_339 : decode (xcode m_LA_law) 339 = .ok (.ireturn, 1) := by decide +kernel
theorem d_LA_law_340 : decode (xcode m_LA_law) 340 = .ok (.aload_n 1, 1) := by decide +kernel
theorem d_LA_law_341 : decode (xcode m_LA_law) 341 = .ok (.aload_n 0, 1) := by decide +kernel
theorem d_LA_law_342 : decode (xcode m_LA_law) 342 = .ok (.iload_n 3, 1) := by decide +kernel
theorem d_LA_law_343 : decode (xcode m_LA_law) 343 = .ok (.iconst 1, 1) := by decide +kernel
theorem d_LA_law_344 : decode (xcode m_LA_law) 344 = .ok (.iadd, 1) := by decide +kernel
theorem d_LA_law_345 : decode (xcode m_LA_law) 345 = .ok (.iaload, 1) := by decide +kernel
theorem d_LA_law_346 : decode (xcode m_LA_law) 346 = .ok (.aload_n 0, 1) := by decide +kernel
theorem d_LA_law_347 : decode (xcode m_LA_law) 347 = .ok (.iload_n 3, 1) := by decide +kernel
theorem d_LA_law_348 : decode (xcode m_LA_law) 348 = .ok (.iconst 2, 1) := by decide +kernel
theorem d_LA_law_349 : decode (xcode m_LA_law) 349 = .ok (.iadd, 1) := by decide +kernel
theorem d_LA_law_350 : decode (xcode m_LA_law) 350 = .ok (.iaload, 1) := by decide +kernel
theorem d_LA_law_351 : decode (xcode m_LA_law) 351 = .ok (.aload_n 0, 1) := by decide +kernel
theorem d_LA_law_352 : decode (xcode m_LA_law) 352 = .ok (.iload_n 3, 1) := by decide +kernel
theorem d_LA_law_353 : decode (xcode m_LA_law) 353 = .ok (.iconst 3, 1) := by decide +kernel
theorem d_LA_law_354 : decode (xcode m_LA_law) 354 = .ok (.iadd, 1) := by decide +kernel
theorem d_LA_law_355 : decode (xcode m_LA_law) 355 = .ok (.iaload, 1) := by decide +kernel
theorem d_LA_law_356 : decode (xcode m_LA_law) 356 = .ok (.aload_n 0, 1) := by decide +kernel
theorem d_LA_law_357 : decode (xcode m_LA_law) 357 = .ok (.iload_n 3, 1) := by decide +kernel
theorem d_LA_law_358 : decode (xcode m_LA_law) 358 = .ok (.iconst 4, 1) := by decide +kernel
theorem d_LA_law_359 : decode (xcode m_LA_law) 359 = .ok (.iadd, 1) := by decide +kernel
theorem d_LA_law_360 : decode (xcode m_LA_law) 360 = .ok (.iaload, 1) := by decide +kernel
theorem d_LA_law_361 : decode (xcode m_LA_law) 361 = .ok (.invokevirtual 40, 3) := by decide +kernel
theorem d_LA_law_364 : decode (xcode m_LA_law) 364 = .ok (.aload_n 2, 1) := by decide +kernel
theorem d_LA_law_365 : decode (xcode m_LA_law) 365 = .ok (.aload_n 0, 1) := by decide +kernel
theorem d_LA_law_366 : decode (xcode m_LA_law) 366 = .ok (.iload_n 3, 1) := by decide +kernel
theorem d_LA_law_367 : decode (xcode m_LA_law) 367 = .ok (.iconst 1, 1) := by decide +kernel
theorem d_LA_law_368 : decode (xcode m_LA_law) 368 = .ok (.iadd, 1) := by decide +kernel
theorem d_LA_law_369 : decode (xcode m_LA_law) 369 = .ok (.iaload, 1) := by decide +kernel
theorem d_LA_law_370 : decode (xcode m_LA_law) 370 = .ok (.aload_n 0, 1) := by decide +kernel
theorem d_LA_law_371 : decode (xcode m_LA_law) 371 = .ok (.iload_n 3, 1) := by decide +kernel
theorem d_LA_law_372 : decode (xcode m_LA_law) 372 = .ok (.iconst 2, 1) := by decide +kernel
theorem d_LA_law_373 : decode (xcode m_LA_law) 373 = .ok (.iadd, 1) := by decide +kernel
theorem d_LA_law_374 : decode (xcode m_LA_law) 374 = .ok (.iaload, 1) := by decide +kernel
theorem d_LA_law_375 : decode (xcode m_LA_law) 375 = .ok (.aload_n 0, 1) := by decide +kernel
theorem d_LA_law_376 : decode (xcode m_LA_law) 376 = .ok (.iload_n 3, 1) := by decide +kernel
theorem d_LA_law_377 : decode (xcode m_LA_law) 377 = .ok (.iconst 3, 1) := by decide +kernel
theorem d_LA_law_378 : decode (xcode m_LA_law) 378 = .ok (.iadd, 1) := by decide +kernel
theorem d_LA_law_379 : decode (xcode m_LA_law) 379 = .ok (.iaload, 1) := by decide +kernel
theorem d_LA_law_380 : decode (xcode m_LA_law) 380 = .ok (.aload_n 0, 1) := by decide +kernel
theorem d_LA_law_381 : decode (xcode m_LA_law) 381 = .ok (.iload_n 3, 1) := by decide +kernel
theorem d_LA_law_382 : decode (xcode m_LA_law) 382 = .ok (.iconst 4, 1) := by decide +kernel
theorem d_LA_law_383 : decode (xcode m_LA_law) 383 = .ok (.iadd, 1) := by decide +kernel
theorem d_LA_law_384 : decode (xcode m_LA_law) 384 = .ok (.iaload, 1) := by decide +kernel
theorem d_LA_law_385 : decode (xcode m_LA_law) 385 = .ok (.invokevirtual 44, 3) := by decide +kernel
theorem d_LA_law_388 : decode (xcode m_LA_law) 388 = .ok (.if_icmp .eq 956, 3) := by decide +kernel
theorem d_LA_law_391 : decode (xcode m_LA_law) 391 = .ok (.iconst 0, 1) := by decide +kernel
theorem d_LA_law_392 : decode (xcode m_LA_law) 392 = .ok (.ireturn, 1) := by decide +kernel
theorem d_LA_law_393 : decode (xcode m_LA_law) 393 = .ok (.aload_n 1, 1) := by decide +kernel
theorem d_LA_law_394 : decode (xcode m_LA_law) 394 = .ok (.aload_n 0, 1) := by decide +kernel
theorem d_LA_law_395 : decode (xcode m_LA_law) 395 = .ok (.iload_n 3, 1) := by decide +kernel
theorem d_LA_law_396 : decode (xcode m_LA_law) 396 = .ok (.iconst 1, 1) := by decide +kernel
theorem d_LA_law_397 : decode (xcode m_LA_law) 397 = .ok (.iadd, 1) := by decide +kernel
theorem d_LA_law_398 : decode (xcode m_LA_law) 398 = .ok (.iaload, 1) := by decide +kernel
theorem d_LA_law_399 : decode (xcode m_LA_law) 399 = .ok (.aload_n 0, 1) := by decide +kernel
theorem d_LA_law_400 : decode (xcode m_LA_law) 400 = .ok (.iload_n 3, 1) := by decide +kernel
theorem d_LA_law_401 : decode (xcode m_LA_law) 401 = .ok (.iconst 2, 1) := by decide +kernel
theorem d_LA_law_402 : decode (xcode m_LA_law) 402 = .ok (.iadd, 1) := by decide +kernel
theorem d_LA_law_403 : decode (xcode m_LA_law) 403 = .ok (.iaload, 1) := by decide +kernel
theorem d_LA_law_404 : decode (xcode m_LA_law) 404 = .ok (.aload_n 0, 1) := by decide +kernel
theorem d_LA_law_405 : decode (xcode m_LA_law) 405 = .ok (.iload_n 3, 1) := by decide +kernel
theorem d_LA_law_406 : decode (xcode m_LA_law) 406 = .ok (.iconst 3, 1) := by decide +kernel
theorem d_LA_law_407 : decode (xcode m_LA_law) 407 = .ok (.iadd, 1) := by decide +kernel
theorem d_LA_law_408 : decode (xcode m_LA_law) 408 = .ok (.iaload, 1) := by decide +kernel
theorem d_LA_law_409 : decode (xcode m_LA_law) 409 = .ok (.aload_n 0, 1) := by decide +kernel
theorem d_LA_law_410 : decode (xcode m_LA_law) 410 = .ok (.iload_n 3, 1) := by decide +kernel
theorem d_LA_law_411 : decode (xcode m_LA_law) 411 = .ok (.iconst 4, 1) := by decide +kernel
theorem d_LA_law_412 : decode (xcode m_LA_law) 412 = .ok (.iadd, 1) := by decide +kernel
theorem d_LA_law_413 : decode (xcode m_LA_law) 413 = .ok (.iaload, 1) := by decide +kernel
theorem d_LA_law_414 : decode (xcode m_LA_law) 414 = .ok (.invokevirtual 45, 3) := by decide +kernel
theorem d_LA_law_417 : decode (xcode m_LA_law) 417 = .ok (.aload_n 2, 1) := by decide +kernel
theorem d_LA_law_418 : decode (xcode m_LA_law) 418 = .ok (.aload_n 0, 1) := by decide +kernel
theorem d_LA_law_419 : decode (xcode m_LA_law) 419 = .ok (.iload_n 3, 1) := by decide +kernel
theorem d_LA_law_420 : decode (xcode m_LA_law) 420 = .ok (.iconst 1, 1) := by decide +kernel
theorem d_LA_law_421 : decode (xcode m_LA_law) 421 = .ok (.iadd, 1) := by decide +kernel
theorem d_LA_law_422 : decode (xcode m_LA_law) 422 = .ok (.iaload, 1) := by decide +kernel
theorem d_LA_law_423 : decode (xcode m_LA_law) 423 = .ok (.aload_n 0, 1) := by decide +kernel
theorem d_LA_law_424 : decode (xcode m_LA_law) 424 = .ok (.iload_n 3, 1) := by decide +kernel
theorem d_LA_law_425 : decode (xcode m_LA_law) 425 = .ok (.iconst 2, 1) := by decide +kernel
theorem d_LA_law_426 : decode (xcode m_LA_law) 426 = .ok (.iadd, 1) := by decide +kernel
theorem d_LA_law_427 : decode (xcode m_LA_law) 427 = .ok (.iaload, 1) := by decide +kernel
theorem d_LA_law_428 : decode (xcode m_LA_law) 428 = .ok (.aload_n 0, 1) := by decide +kernel
theorem d_LA_law_429 : decode (xcode m_LA_law) 429 = .ok (.iload_n 3, 1) := by decide +kernel
theorem d_LA_law_430 : decode (xcode m_LA_law) 430 = .ok (.iconst 3, 1) := by decide +kernel
theorem d_LA_law_431 : decode (xcode m_LA_law) 431 = .ok (.iadd, 1) := by decide +kernel
