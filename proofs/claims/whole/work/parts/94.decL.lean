def mL_law : zv_M := (yL_law, cL_law, 4, some .boolean)
theorem dL_law_0 : decode mL_law.2.1 0 = .ok (.new 7, 3) := by decide +kernel
theorem dL_law_3 : decode mL_law.2.1 3 = .ok (.dup, 1) := by decide +kernel
theorem dL_law_4 : decode mL_law.2.1 4 = .ok (.invokespecial 9, 3) := by decide +kernel
theorem dL_law_7 : decode mL_law.2.1 7 = .ok (.astore_n 1, 1) := by decide +kernel
theorem dL_law_8 : decode mL_law.2.1 8 = .ok (.new 10, 3) := by decide +kernel
theorem dL_law_11 : decode mL_law.2.1 11 = .ok (.dup, 1) := by decide +kernel
theorem dL_law_12 : decode mL_law.2.1 12 = .ok (.invokespecial 12, 3) := by decide +kernel
theorem dL_law_15 : decode mL_law.2.1 15 = .ok (.astore_n 2, 1) := by decide +kernel
theorem dL_law_16 : decode mL_law.2.1 16 = .ok (.iconst 0, 1) := by decide +kernel
theorem dL_law_17 : decode mL_law.2.1 17 = .ok (.istore_n 3, 1) := by decide +kernel
theorem dL_law_18 : decode mL_law.2.1 18 = .ok (.iload_n 3, 1) := by decide +kernel
theorem dL_law_19 : decode mL_law.2.1 19 = .ok (.aload_n 0, 1) := by decide +kernel
theorem dL_law_20 : decode mL_law.2.1 20 = .ok (.arraylength, 1) := by decide +kernel
theorem dL_law_21 : decode mL_law.2.1 21 = .ok (.iconst 5, 1) := by decide +kernel
theorem dL_law_22 : decode mL_law.2.1 22 = .ok (.isub, 1) := by decide +kernel
theorem dL_law_23 : decode mL_law.2.1 23 = .ok (.if_icmp .gt 919, 3) := by decide +kernel
theorem dL_law_26 : decode mL_law.2.1 26 = .ok (.aload_n 0, 1) := by decide +kernel
theorem dL_law_27 : decode mL_law.2.1 27 = .ok (.iload_n 3, 1) := by decide +kernel
theorem dL_law_28 : decode mL_law.2.1 28 = .ok (.iaload, 1) := by decide +kernel
theorem dL_law_29 : decode mL_law.2.1 29 = .ok (.bipush 31, 2) := by decide +kernel
theorem dL_law_31 : decode mL_law.2.1 31 = .ok (.iand, 1) := by decide +kernel
theorem dL_law_32 : decode mL_law.2.1 32 = .ok (.tableswitch 904 0 23 #[112, 125, 148, 191, 234, 277, 310, 343, 366, 399, 432, 465, 508, 541, 584, 607, 640, 663, 696, 739, 762, 805, 838, 891], 112) := by decide +kernel
theorem dL_law_144 : decode mL_law.2.1 144 = .ok (.aload_n 1, 1) := by decide +kernel
theorem dL_law_145 : decode mL_law.2.1 145 = .ok (.invokevirtual 13, 3) := by decide +kernel
theorem dL_law_148 : decode mL_law.2.1 148 = .ok (.aload_n 2, 1) := by decide +kernel
theorem dL_law_149 : decode mL_law.2.1 149 = .ok (.invokevirtual 17, 3) := by decide +kernel
theorem dL_law_152 : decode mL_law.2.1 152 = .ok (.if_icmp .eq 784, 3) := by decide +kernel
theorem dL_law_155 : decode mL_law.2.1 155 = .ok (.iconst 0, 1) := by decide +kernel
theorem dL_law_156 : decode mL_law.2.1 156 = .ok (.ireturn, 1) := by decide +kernel
theorem dL_law_157 : decode mL_law.2.1 157 = .ok (.aload_n 1, 1) := by decide +kernel
theorem dL_law_158 : decode mL_law.2.1 158 = .ok (.aload_n 0, 1) := by decide +kernel
theorem dL_law_159 : decode mL_law.2.1 159 = .ok (.iload_n 3, 1) := by decide +kernel
theorem dL_law_160 : decode mL_law.2.1 160 = .ok (.iconst 1, 1) := by decide +kernel
theorem dL_law_161 : decode mL_law.2.1 161 = .ok (.iadd, 1) := by decide +kernel
theorem dL_law_162 : decode mL_law.2.1 162 = .ok (.iaload, 1) := by decide +kernel
theorem dL_law_163 : decode mL_law.2.1 163 = .ok (.invokevirtual 18, 3) := by decide +kernel
theorem dL_law_166 : decode mL_law.2.1 166 = .ok (.aload_n 2, 1) := by decide +kernel
theorem dL_law_167 : decode mL_law.2.1 167 = .ok (.aload_n 0, 1) := by decide +kernel
theorem dL_law_168 : decode mL_law.2.1 168 = .ok (.iload_n 3, 1) := by decide +kernel
theorem dL_law_169 : decode mL_law.2.1 169 = .ok (.iconst 1, 1) := by decide +kernel
theorem dL_law_170 : decode mL_law.2.1 170 = .ok (.iadd, 1) := by decide +kernel
theorem dL_law_171 : decode mL_law.2.1 171 = .ok (.iaload, 1) := by decide +kernel
theorem dL_law_172 : decode mL_law.2.1 172 = .ok (.invokevirtual 22, 3) := by decide +kernel
theorem dL_law_175 : decode mL_law.2.1 175 = .ok (.if_icmp .eq 761, 3) := by decide +kernel
theorem dL_law_178 : decode mL_law.2.1 178 = .ok (.iconst 0, 1) := by decide +kernel
theorem dL_law_179 : decode mL_law.2.1 179 = .ok (.ireturn, 1) := by decide +kernel
theorem dL_law_180 : decode mL_law.2.1 180 = .ok (.aload_n 1, 1) := by decide +kernel
theorem dL_law_181 : decode mL_law.2.1 181 = .ok (.aload_n 0, 1) := by decide +kernel
theorem dL_law_182 : decode mL_law.2.1 182 = .ok (.iload_n 3, 1) := by decide +kernel
theorem dL_law_183 : decode mL_law.2.1 183 = .ok (.iconst 1, 1) := by decide +kernel
theorem dL_law_184 : decode mL_law.2.1 184 = .ok (.iadd, 1) := by decide +kernel
theorem dL_law_185 : decode mL_law.2.1 185 = .ok (.iaload, 1) := by decide +kernel
theorem dL_law_186 : decode mL_law.2.1 186 = .ok (.aload_n 0, 1) := by decide +kernel
theorem dL_law_187 : decode mL_law.2.1 187 = .ok (.iload_n 3, 1) := by decide +kernel
theorem dL_law_188 : decode mL_law.2.1 188 = .ok (.iconst 2, 1) := by decide +kernel
theorem dL_law_189 : decode mL_law.2.1 189 = .ok (.iadd, 1) := by decide +kernel
theorem dL_law_190 : decode mL_law.2.1 190 = .ok (.iaload, 1) := by decide +kernel
theorem dL_law_191 : decode mL_law.2.1 191 = .ok (.aload_n 0, 1) := by decide +kernel
theorem dL_law_192 : decode mL_law.2.1 192 = .ok (.iload_n 3, 1) := by decide +kernel
theorem dL_law_193 : decode mL_law.2.1 193 = .ok (.iconst 3, 1) := by decide +kernel
theorem dL_law_194 : decode mL_law.2.1 194 = .ok (.iadd, 1) := by decide +kernel
theorem dL_law_195 : decode mL_law.2.1 195 = .ok (.iaload, 1) := by decide +kernel
theorem dL_law_196 : decode mL_law.2.1 196 = .ok (.invokevirtual 23, 3) := by decide +kernel
theorem dL_law_199 : decode mL_law.2.1 199 = .ok (.aload_n 2, 1) := by decide +kernel
theorem dL_law_200 : decode mL_law.2.1 200 = .ok (.aload_n 0, 1) := by decide +kernel
theorem dL_law_201 : decode mL_law.2.1 201 = .ok (.iload_n 3, 1) := by decide +kernel
theorem dL_law_202 : decode mL_law.2.1 202 = .ok (.iconst 1, 1) := by decide +kernel
theorem dL_law_203 : decode mL_law.2.1 203 = .ok (.iadd, 1) := by decide +kernel
theorem dL_law_204 : decode mL_law.2.1 204 = .ok (.iaload, 1) := by decide +kernel
theorem dL_law_205 : decode mL_law.2.1 205 = .ok (.aload_n 0, 1) := by decide +kernel
theorem dL_law_206 : decode mL_law.2.1 206 = .ok (.iload_n 3, 1) := by decide +kernel
theorem dL_law_207 : decode mL_law.2.1 207 = .ok (.iconst 2, 1) := by decide +kernel
theorem dL_law_208 : decode mL_law.2.1 208 = .ok (.iadd, 1) := by decide +kernel
theorem dL_law_209 : decode mL_law.2.1 209 = .ok (.iaload, 1) := by decide +kernel
theorem dL_law_210 : decode mL_law.2.1 210 = .ok (.aload_n 0, 1) := by decide +kernel
theorem dL_law_211 : decode mL_law.2.1 211 = .ok (.iload_n 3, 1) := by decide +kernel
theorem dL_law_212 : decode mL_law.2.1 212 = .ok (.iconst 3, 1) := by decide +kernel
theorem dL_law_213 : decode mL_law.2.1 213 = .ok (.iadd, 1) := by decide +kernel
theorem dL_law_214 : decode mL_law.2.1 214 = .ok (.iaload, 1) := by decide +kernel
theorem dL_law_215 : decode mL_law.2.1 215 = .ok (.invokevirtual 27, 3) := by decide +kernel
theorem dL_law_218 : decode mL_law.2.1 218 = .ok (.if_icmp .eq 718, 3) := by decide +kernel
theorem dL_law_221 : decode mL_law.2.1 221 = .ok (.iconst 0, 1) := by decide +kernel
theorem dL_law_222 : decode mL_law.2.1 222 = .ok (.ireturn, 1) := by decide +kernel
theorem dL_law_223 : decode mL_law.2.1 223 = .ok (.aload_n 1, 1) := by decide +kernel
theorem dL_law_224 : decode mL_law.2.1 224 = .ok (.aload_n 0, 1) := by decide +kernel
theorem dL_law_225 : decode mL_law.2.1 225 = .ok (.iload_n 3, 1) := by decide +kernel
theorem dL_law_226 : decode mL_law.2.1 226 = .ok (.iconst 1, 1) := by decide +kernel
theorem dL_law_227 : decode mL_law.2.1 227 = .ok (.iadd, 1) := by decide +kernel
theorem dL_law_228 : decode mL_law.2.1 228 = .ok (.iaload, 1) := by decide +kernel
theorem dL_law_229 : decode mL_law.2.1 229 = .ok (.aload_n 0, 1) := by decide +kernel
theorem dL_law_230 : decode mL_law.2.1 230 = .ok (.iload_n 3, 1) := by decide +kernel
theorem dL_law_231 : decode mL_law.2.1 231 = .ok (.iconst 2, 1) := by decide +kernel
theorem dL_law_232 : decode mL_law.2.1 232 = .ok (.iadd, 1) := by decide +kernel
theorem dL_law_233 : decode mL_law.2.1 233 = .ok (.iaload, 1) := by decide +kernel
theorem dL_law_234 : decode mL_law.2.1 234 = .ok (.aload_n 0, 1) := by decide +kernel
theorem dL_law_235 : decode mL_law.2.1 235 = .ok (.iload_n 3, 1) := by decide +kernel
theorem dL_law_236 : decode mL_law.2.1 236 = .ok (.iconst 3, 1) := by decide +kernel
theorem dL_law_237 : decode mL_law.2.1 237 = .ok (.iadd, 1) := by decide +kernel
theorem dL_law_238 : decode mL_law.2.1 238 = .ok (.iaload, 1) := by decide +kernel
theorem dL_law_239 : decode mL_law.2.1 239 = .ok (.invokevirtual 28, 3) := by decide +kernel
theorem dL_law_242 : decode mL_law.2.1 242 = .ok (.aload_n 2, 1) := by decide +kernel
theorem dL_law_243 : decode mL_law.2.1 243 = .ok (.aload_n 0, 1) := by decide +kernel
theorem dL_law_244 : decode mL_law.2.1 244 = .ok (.iload_n 3, 1) := by decide +kernel
theorem dL_law_245 : decode mL_law.2.1 245 = .ok (.iconst 1, 1) := by decide +kernel
theorem dL_law_246 : decode mL_law.2.1 246 = .ok (.iadd, 1) := by decide +kernel
theorem dL_law_247 : decode mL_law.2.1 247 = .ok (.iaload, 1) := by decide +kernel
theorem dL_law_248 : decode mL_law.2.1 248 = .ok (.aload_n 0, 1) := by decide +kernel
theorem dL_law_249 : decode mL_law.2.1 249 = .ok (.iload_n 3, 1) := by decide +kernel
theorem dL_law_250 : decode mL_law.2.1 250 = .ok (.iconst 2, 1) := by decide +kernel
theorem dL_law_251 : decode mL_law.2.1 251 = .ok (.iadd, 1) := by decide +kernel
theorem dL_law_252 : decode mL_law.2.1 252 = .ok (.iaload, 1) := by decide +kernel
theorem dL_law_253 : decode mL_law.2.1 253 = .ok (.aload_n 0, 1) := by decide +kernel
theorem dL_law_254 : decode mL_law.2.1 254 = .ok (.iload_n 3, 1) := by decide +kernel
theorem dL_law_255 : decode mL_law.2.1 255 = .ok (.iconst 3, 1) := by decide +kernel
theorem dL_law_256 : decode mL_law.2.1 256 = .ok (.iadd, 1) := by decide +kernel
theorem dL_law_257 : decode mL_law.2.1 257 = .ok (.iaload, 1) := by decide +kernel
theorem dL_law_258 : decode mL_law.2.1 258 = .ok (.invokevirtual 31, 3) := by decide +kernel
theorem dL_law_261 : decode mL_law.2.1 261 = .ok (.if_icmp .eq 675, 3) := by decide +kernel
theorem dL_law_264 : decode mL_law.2.1 264 = .ok (.iconst 0, 1) := by decide +kernel
theorem dL_law_265 : decode mL_law.2.1 265 = .ok (.ireturn, 1) := by decide +kernel
theorem dL_law_266 : decode mL_law.2.1 266 = .ok (.aload_n 1, 1) := by decide +kernel
theorem dL_law_267 : decode mL_law.2.1 267 = .ok (.aload_n 0, 1) := by decide +kernel
theorem dL_law_268 : decode mL_law.2.1 268 = .ok (.iload_n 3, 1) := by decide +kernel
theorem dL_law_269 : decode mL_law.2.1 269 = .ok (.iconst 1, 1) := by decide +kernel
theorem dL_law_270 : decode mL_law.2.1 270 = .ok (.iadd, 1) := by decide +kernel
theorem dL_law_271 : decode mL_law.2.1 271 = .ok (.iaload, 1) := by decide +kernel
theorem dL_law_272 : decode mL_law.2.1 272 = .ok (.aload_n 0, 1) := by decide +kernel
theorem dL_law_273 : decode mL_law.2.1 273 = .ok (.iload_n 3, 1) := by decide +kernel
theorem dL_law_274 : decode mL_law.2.1 274 = .ok (.iconst 2, 1) := by decide +kernel
theorem dL_law_275 : decode mL_law.2.1 275 = .ok (.iadd, 1) := by decide +kernel
theorem dL_law_276 : decode mL_law.2.1 276 = .ok (.iaload, 1) := by decide +kernel
theorem dL_law_277 : decode mL_law.2.1 277 = .ok (.aload_n 0, 1) := by decide +kernel
theorem dL_law_278 : decode mL_law.2.1 278 = .ok (.iload_n 3, 1) := by decide +kernel
theorem dL_law_279 : decode mL_law.2.1 279 = .ok (.iconst 3, 1) := by decide +kernel
theorem dL_law_280 : decode mL_law.2.1 280 = .ok (.iadd, 1) := by decide +kernel
theorem dL_law_281 : decode mL_law.2.1 281 = .ok (.iaload, 1) := by decide +kernel
theorem dL_law_282 : decode mL_law.2.1 282 = .ok (.invokevirtual 32, 3) := by decide +kernel
theorem dL_law_285 : decode mL_law.2.1 285 = .ok (.aload_n 2, 1) := by decide +kernel
theorem dL_law_286 : decode mL_law.2.1 286 = .ok (.aload_n 0, 1) := by decide +kernel
theorem dL_law_287 : decode mL_law.2.1 287 = .ok (.iload_n 3, 1) := by decide +kernel
theorem dL_law_288 : decode mL_law.2.1 288 = .ok (.iconst 1, 1) := by decide +kernel
theorem dL_law_289 : decode mL_law.2.1 289 = .ok (.iadd, 1) := by decide +kernel
theorem dL_law_290 : decode mL_law.2.1 290 = .ok (.iaload, 1) := by decide +kernel
theorem dL_law_291 : decode mL_law.2.1 291 = .ok (.aload_n 0, 1) := by decide +kernel
theorem dL_law_292 : decode mL_law.2.1 292 = .ok (.iload_n 3, 1) := by decide +kernel
theorem dL_law_293 : decode mL_law.2.1 293 = .ok (.iconst 2, 1) := by decide +kernel
theorem dL_law_294 : decode mL_law.2.1 294 = .ok (.iadd, 1) := by decide +kernel
theorem dL_law_295 : decode mL_law.2.1 295 = .ok (.iaload, 1) := by decide +kernel
theorem dL_law_296 : decode mL_law.2.1 296 = .ok (.aload_n 0, 1) := by decide +kernel
theorem dL_law_297 : decode mL_law.2.1 297 = .ok (.iload_n 3, 1) := by decide +kernel
theorem dL_law_298 : decode mL_law.2.1 298 = .ok (.iconst 3, 1) := by decide +kernel
theorem dL_law_299 : decode mL_law.2.1 299 = .ok (.iadd, 1) := by decide +kernel
theorem dL_law_300 : decode mL_law.2.1 300 = .ok (.iaload, 1) := by decide +kernel
theorem dL_law_301 : decode mL_law.2.1 301 = .ok (.invokevirtual 35, 3) := by decide +kernel
theorem dL_law_304 : decode mL_law.2.1 304 = .ok (.if_icmp .eq 632, 3) := by decide +kernel
theorem dL_law_307 : decode mL_law.2.1 307 = .ok (.iconst 0, 1) := by decide +kernel
theorem dL_law_308 : decode mL_law.2.1 308 = .ok (.ireturn, 1) := by decide +kernel
theorem dL_law_309 : decode mL_law.2.1 309 = .ok (.aload_n 1, 1) := by decide +kernel
theorem dL_law_310 : decode mL_law.2.1 310 = .ok (.aload_n 0, 1) := by decide +kernel
theorem dL_law_311 : decode mL_law.2.1 311 = .ok (.iload_n 3, 1) := by decide +kernel
theorem dL_law_312 : decode mL_law.2.1 312 = .ok (.iconst 1, 1) := by decide +kernel
theorem dL_law_313 : decode mL_law.2.1 313 = .ok (.iadd, 1) := by decide +kernel
theorem dL_law_314 : decode mL_law.2.1 314 = .ok (.iaload, 1) := by decide +kernel
theorem dL_law_315 : decode mL_law.2.1 315 = .ok (.aload_n 0, 1) := by decide +kernel
theorem dL_law_316 : decode mL_law.2.1 316 = .ok (.iload_n 3, 1) := by decide +kernel
theorem dL_law_317 : decode mL_law.2.1 317 = .ok (.iconst 2, 1) := by decide +kernel
theorem dL_law_318 : decode mL_law.2.1 318 = .ok (.iadd, 1) := by decide +kernel
theorem dL_law_319 : decode mL_law.2.1 319 = .ok (.iaload, 1) := by decide +kernel
theorem dL_law_320 : decode mL_law.2.1 320 = .ok (.invokevirtual 36, 3) := by decide +kernel
theorem dL_law_323 : decode mL_law.2.1 323 = .ok (.aload_n 2, 1) := by decide +kernel
theorem dL_law_324 : decode mL_law.2.1 324 = .ok (.aload_n 0, 1) := by decide +kernel
theorem dL_law_325 : decode mL_law.2.1 325 = .ok (.iload_n 3, 1) := by decide +kernel
theorem dL_law_326 : decode mL_law.2.1 326 = .ok (.iconst 1, 1) := by decide +kernel
theorem dL_law_327 : decode mL_law.2.1 327 = .ok (.iadd, 1) := by decide +kernel
theorem dL_law_328 : decode mL_law.2.1 328 = .ok (.iaload, 1) := by decide +kernel
theorem dL_law_329 : decode mL_law.2.1 329 = .ok (.aload_n 0, 1) := by decide +kernel
theorem dL_law_330 : decode mL_law.2.1 330 = .ok (.iload_n 3, 1) := by decide +kernel
theorem dL_law_331 : decode mL_law.2.1 331 = .ok (.iconst 2, 1) := by decide +kernel
theorem dL_law_332 : decode mL_law.2.1 332 = .ok (.iadd, 1) := by decide +kernel
theorem dL_law_333 : decode mL_law.2.1 333 = .ok (.iaload, 1) := by decide +kernel
theorem dL_law_334 : decode mL_law.2.1 334 = .ok (.invokevirtual 40, 3) := by decide +kernel
theorem dL_law_337 : decode mL_law.2.1 337 = .ok (.if_icmp .eq 599, 3) := by decide +kernel
theorem dL_law_340 : decode mL_law.2.1 340 = .ok (.iconst 0, 1) := by decide +kernel
theorem dL_law_341 : decode mL_law.2.1 341 = .ok (.ireturn, 1) := by decide +kernel
theorem dL_law_342 : decode mL_law.2.1 342 = .ok (.aload_n 1, 1) := by decide +kernel
theorem dL_law_343 : decode mL_law.2.1 343 = .ok (.aload_n 0, 1) := by decide +kernel
theorem dL_law_344 : decode mL_law.2.1 344 = .ok (.iload_n 3, 1) := by decide +kernel
theorem dL_law_345 : decode mL_law.2.1 345 = .ok (.iconst 1, 1) := by decide +kernel
theorem dL_law_346 : decode mL_law.2.1 346 = .ok (.iadd, 1) := by decide +kernel
theorem dL_law_347 : decode mL_law.2.1 347 = .ok (.iaload, 1) := by decide +kernel
theorem dL_law_348 : decode mL_law.2.1 348 = .ok (.aload_n 0, 1) := by decide +kernel
theorem dL_law_349 : decode mL_law.2.1 349 = .ok (.iload_n 3, 1) := by decide +kernel
theorem dL_law_350 : decode mL_law.2.1 350 = .ok (.iconst 2, 1) := by decide +kernel
theorem dL_law_351 : decode mL_law.2.1 351 = .ok (.iadd, 1) := by decide +kernel
theorem dL_law_352 : decode mL_law.2.1 352 = .ok (.iaload, 1) := by decide +kernel
theorem dL_law_353 : decode mL_law.2.1 353 = .ok (.invokevirtual 41, 3) := by decide +kernel
theorem dL_law_356 : decode mL_law.2.1 356 = .ok (.aload_n 2, 1) := by decide +kernel
theorem dL_law_357 : decode mL_law.2.1 357 = .ok (.aload_n 0, 1) := by decide +kernel
theorem dL_law_358 : decode mL_law.2.1 358 = .ok (.iload_n 3, 1) := by decide +kernel
theorem dL_law_359 : decode mL_law.2.1 359 = .ok (.iconst 1, 1) := by decide +kernel
theorem dL_law_360 : decode mL_law.2.1 360 = .ok (.iadd, 1) := by decide +kernel
theorem dL_law_361 : decode mL_law.2.1 361 = .ok (.iaload, 1) := by decide +kernel
theorem dL_law_362 : decode mL_law.2.1 362 = .ok (.aload_n 0, 1) := by decide +kernel
theorem dL_law_363 : decode mL_law.2.1 363 = .ok (.iload_n 3, 1) := by decide +kernel
theorem dL_law_364 : decode mL_law.2.1 364 = .ok (.iconst 2, 1) := by decide +kernel
theorem dL_law_365 : decode mL_law.2.1 365 = .ok (.iadd, 1) := by decide +kernel
theorem dL_law_366 : decode mL_law.2.1 366 = .ok (.iaload, 1) := by decide +kernel
theorem dL_law_367 : decode mL_law.2.1 367 = .ok (.invokevirtual 44, 3) := by decide +kernel
theorem dL_law_370 : decode mL_law.2.1 370 = .ok (.if_icmp .eq 566, 3) := by decide +kernel
theorem dL_law_373 : decode mL_law.2.1 373 = .ok (.iconst 0, 1) := by decide +kernel
theorem dL_law_374 : decode mL_law.2.1 374 = .ok (.ireturn, 1) := by decide +kernel
theorem dL_law_375 : decode mL_law.2.1 375 = .ok (.aload_n 1, 1) := by decide +kernel
theorem dL_law_376 : decode mL_law.2.1 376 = .ok (.aload_n 0, 1) := by decide +kernel
theorem dL_law_377 : decode mL_law.2.1 377 = .ok (.iload_n 3, 1) := by decide +kernel
theorem dL_law_378 : decode mL_law.2.1 378 = .ok (.iconst 1, 1) := by decide +kernel
theorem dL_law_379 : decode mL_law.2.1 379 = .ok (.iadd, 1) := by decide +kernel
theorem dL_law_380 : decode mL_law.2.1 380 = .ok (.iaload, 1) := by decide +kernel
theorem dL_law_381 : decode mL_law.2.1 381 = .ok (.invokevirtual 45, 3) := by decide +kernel
theorem dL_law_384 : decode mL_law.2.1 384 = .ok (.aload_n 2, 1) := by decide +kernel
theorem dL_law_385 : decode mL_law.2.1 385 = .ok (.aload_n 0, 1) := by decide +kernel
theorem dL_law_386 : decode mL_law.2.1 386 = .ok (.iload_n 3, 1) := by decide +kernel
theorem dL_law_387 : decode mL_law.2.1 387 = .ok (.iconst 1, 1) := by decide +kernel
theorem dL_law_388 : decode mL_law.2.1 388 = .ok (.iadd, 1) := by decide +kernel
theorem dL_law_389 : decode mL_law.2.1 389 = .ok (.iaload, 1) := by decide +kernel
theorem dL_law_390 : decode mL_law.2.1 390 = .ok (.invokevirtual 48, 3) := by decide +kernel
theorem dL_law_393 : decode mL_law.2.1 393 = .ok (.if_icmp .eq 543, 3) := by decide +kernel
theorem dL_law_396 : decode mL_law.2.1 396 = .ok (.iconst 0, 1) := by decide +kernel
theorem dL_law_397 : decode mL_law.2.1 397 = .ok (.ireturn, 1) := by decide +kernel
theorem dL_law_398 : decode mL_law.2.1 398 = .ok (.aload_n 1, 1) := by decide +kernel
theorem dL_law_399 : decode mL_law.2.1 399 = .ok (.aload_n 0, 1) := by decide +kernel
theorem dL_law_400 : decode mL_law.2.1 400 = .ok (.iload_n 3, 1) := by decide +kernel
theorem dL_law_401 : decode mL_law.2.1 401 = .ok (.iconst 1, 1) := by decide +kernel
theorem dL_law_402 : decode mL_law.2.1 402 = .ok (.iadd, 1) := by decide +kernel
theorem dL_law_403 : decode mL_law.2.1 403 = .ok (.iaload, 1) := by decide +kernel
theorem dL_law_404 : decode mL_law.2.1 404 = .ok (.aload_n 0, 1) := by decide +kernel
theorem dL_law_405 : decode mL_law.2.1 405 = .ok (.iload_n 3, 1) := by decide +kernel
theorem dL_law_406 : decode mL_law.2.1 406 = .ok (.iconst 2, 1) := by decide +kernel
theorem dL_law_407 : decode mL_law.2.1 407 = .ok (.iadd, 1) := by decide +kernel
theorem dL_law_408 : decode mL_law.2.1 408 = .ok (.iaload, 1) := by decide +kernel
theorem dL_law_409 : decode mL_law.2.1 409 = .ok (.invokevirtual 49, 3) := by decide +kernel
theorem dL_law_412 : decode mL_law.2.1 412 = .ok (.aload_n 2, 1) := by decide +kernel
theorem dL_law_413 : decode mL_law.2.1 413 = .ok (.aload_n 0, 1) := by decide +kernel
theorem dL_law_414 : decode mL_law.2.1 414 = .ok (.iload_n 3, 1) := by decide +kernel
theorem dL_law_415 : decode mL_law.2.1 415 = .ok (.iconst 1, 1) := by decide +kernel
theorem dL_law_416 : decode mL_law.2.1 416 = .ok (.iadd, 1) := by decide +kernel
theorem dL_law_417 : decode mL_law.2.1 417 = .ok (.iaload, 1) := by decide +kernel
theorem dL_law_418 : decode mL_law.2.1 418 = .ok (.aload_n 0, 1) := by decide +kernel
theorem dL_law_419 : decode mL_law.2.1 419 = .ok (.iload_n 3, 1) := by decide +kernel
theorem dL_law_420 : decode mL_law.2.1 420 = .ok (.iconst 2, 1) := by decide +kernel
theorem dL_law_421 : decode mL_law.2.1 421 = .ok (.iadd, 1) := by decide +kernel
theorem dL_law_422 : decode mL_law.2.1 422 = .ok (.iaload, 1) := by decide +kernel
theorem dL_law_423 : decode mL_law.2.1 423 = .ok (.invokevirtual 52, 3) := by decide +kernel
theorem dL_law_426 : decode mL_law.2.1 426 = .ok (.if_icmp .eq 510, 3) := by decide +kernel
theorem dL_law_429 : decode mL_law.2.1 429 = .ok (.iconst 0, 1) := by decide +kernel
theorem dL_law_430 : decode mL_law.2.1 430 = .ok (.ireturn, 1) := by decide +kernel
theorem dL_law_431 : decode mL_law.2.1 431 = .ok (.aload_n 1, 1) := by decide +kernel
theorem dL_law_432 : decode mL_law.2.1 432 = .ok (.aload_n 0, 1) := by decide +kernel
theorem dL_law_433 : decode mL_law.2.1 433 = .ok (.iload_n 3, 1) := by decide +kernel
theorem dL_law_434 : decode mL_law.2.1 434 = .ok (.iconst 1, 1) := by decide +kernel
theorem dL_law_435 : decode mL_law.2.1 435 = .ok (.iadd, 1) := by decide +kernel
theorem dL_law_436 : decode mL_law.2.1 436 = .ok (.iaload, 1) := by decide +kernel
theorem dL_law_437 : decode mL_law.2.1 437 = .ok (.aload_n 0, 1) := by decide +kernel
theorem dL_law_438 : decode mL_law.2.1 438 = .ok (.iload_n 3, 1) := by decide +kernel
theorem dL_law_439 : decode mL_law.2.1 439 = .ok (.iconst 2, 1) := by decide +kernel
theorem dL_law_440 : decode mL_law.2.1 440 = .ok (.iadd, 1) := by decide +kernel
theorem dL_law_441 : decode mL_law.2.1 441 = .ok (.iaload, 1) := by decide +kernel
theorem dL_law_442 : decode mL_law.2.1 442 = .ok (.invokevirtual 53, 3) := by decide +kernel
theorem dL_law_445 : decode mL_law.2.1 445 = .ok (.aload_n 2, 1) := by decide +kernel
theorem dL_law_446 : decode mL_law.2.1 446 = .ok (.aload_n 0, 1) := by decide +kernel
theorem dL_law_447 : decode mL_law.2.1 447 = .ok (.iload_n 3, 1) := by decide +kernel
theorem dL_law_448 : decode mL_law.2.1 448 = .ok (.iconst 1, 1) := by decide +kernel
theorem dL_law_449 : decode mL_law.2.1 449 = .ok (.iadd, 1) := by decide +kernel
theorem dL_law_450 : decode mL_law.2.1 450 = .ok (.iaload, 1) := by decide +kernel
theorem dL_law_451 : decode mL_law.2.1 451 = .ok (.aload_n 0, 1) := by decide +kernel
theorem dL_law_452 : decode mL_law.2.1 452 = .ok (.iload_n 3, 1) := by decide +kernel
theorem dL_law_453 : decode mL_law.2.1 453 = .ok (.iconst 2, 1) := by decide +kernel
theorem dL_law_454 : decode mL_law.2.1 454 = .ok (.iadd, 1) := by decide +kernel
theorem dL_law_455 : decode mL_law.2.1 455 = .ok (.iaload, 1) := by decide +kernel
theorem dL_law_456 : decode mL_law.2.1 456 = .ok (.invokevirtual 56, 3) := by decide +kernel
theorem dL_law_459 : decode mL_law.2.1 459 = .ok (.if_icmp .eq 477, 3) := by decide +kernel
theorem dL_law_462 : decode mL_law.2.1 462 = .ok (.iconst 0, 1) := by decide +kernel
theorem dL_law_463 : decode mL_law.2.1 463 = .ok (.ireturn, 1) := by decide +kernel
theorem dL_law_464 : decode mL_law.2.1 464 = .ok (.aload_n 1, 1) := by decide +kernel
theorem dL_law_465 : decode mL_law.2.1 465 = .ok (.aload_n 0, 1) := by decide +kernel
theorem dL_law_466 : decode mL_law.2.1 466 = .ok (.iload_n 3, 1) := by decide +kernel
theorem dL_law_467 : decode mL_law.2.1 467 = .ok (.iconst 1, 1) := by decide +kernel
theorem dL_law_468 : decode mL_law.2.1 468 = .ok (.iadd, 1) := by decide +kernel
theorem dL_law_469 : decode mL_law.2.1 469 = .ok (.iaload, 1) := by decide +kernel
theorem dL_law_470 : decode mL_law.2.1 470 = .ok (.aload_n 0, 1) := by decide +kernel
theorem dL_law_471 : decode mL_law.2.1 471 = .ok (.iload_n 3, 1) := by decide +kernel
theorem dL_law_472 : decode mL_law.2.1 472 = .ok (.iconst 2, 1) := by decide +kernel
theorem dL_law_473 : decode mL_law.2.1 473 = .ok (.iadd, 1) := by decide +kernel
theorem dL_law_474 : decode mL_law.2.1 474 = .ok (.iaload, 1) := by decide +kernel
theorem dL_law_475 : decode mL_law.2.1 475 = .ok (.invokevirtual 57, 3) := by decide +kernel
theorem dL_law_478 : decode mL_law.2.1 478 = .ok (.aload_n 2, 1) := by decide +kernel
theorem dL_law_479 : decode mL_law.2.1 479 = .ok (.aload_n 0, 1) := by decide +kernel
theorem dL_law_480 : decode mL_law.2.1 480 = .ok (.iload_n 3, 1) := by decide +kernel
theorem dL_law_481 : decode mL_law.2.1 481 = .ok (.iconst 1, 1) := by decide +kernel
theorem dL_law_482 : decode mL_law.2.1 482 = .ok (.iadd, 1) := by decide +kernel
theorem dL_law_483 : decode mL_law.2.1 483 = .ok (.iaload, 1) := by decide +kernel
theorem dL_law_484 : decode mL_law.2.1 484 = .ok (.aload_n 0, 1) := by decide +kernel
theorem dL_law_485 : decode mL_law.2.1 485 = .ok (.iload_n 3, 1) := by decide +kernel
theorem dL_law_486 : decode mL_law.2.1 486 = .ok (.iconst 2, 1) := by decide +kernel
theorem dL_law_487 : decode mL_law.2.1 487 = .ok (.iadd, 1) := by decide +kernel
theorem dL_law_488 : decode mL_law.2.1 488 = .ok (.iaload, 1) := by decide +kernel
theorem dL_law_489 : decode mL_law.2.1 489 = .ok (.invokevirtual 60, 3) := by decide +kernel
theorem dL_law_492 : decode mL_law.2.1 492 = .ok (.if_icmp .eq 444, 3) := by decide +kernel
theorem dL_law_495 : decode mL_law.2.1 495 = .ok (.iconst 0, 1) := by decide +kernel
theorem dL_law_496 : decode mL_law.2.1 496 = .ok (.ireturn, 1) := by decide +kernel
theorem dL_law_497 : decode mL_law.2.1 497 = .ok (.aload_n 1, 1) := by decide +kernel
theorem dL_law_498 : decode mL_law.2.1 498 = .ok (.aload_n 0, 1) := by decide +kernel
theorem dL_law_499 : decode mL_law.2.1 499 = .ok (.iload_n 3, 1) := by decide +kernel
theorem dL_law_500 : decode mL_law.2.1 500 = .ok (.iconst 1, 1) := by decide +kernel
theorem dL_law_501 : decode mL_law.2.1 501 = .ok (.iadd, 1) := by decide +kernel
theorem dL_law_502 : decode mL_law.2.1 502 = .ok (.iaload, 1) := by decide +kernel
theorem dL_law_503 : decode mL_law.2.1 503 = .ok (.aload_n 0, 1) := by decide +kernel
theorem dL_law_504 : decode mL_law.2.1 504 = .ok (.iload_n 3, 1) := by decide +kernel
theorem dL_law_505 : decode mL_law.2.1 505 = .ok (.iconst 2, 1) := by decide +kernel
theorem dL_law_506 : decode mL_law.2.1 506 = .ok (.iadd, 1) := by decide +kernel
theorem dL_law_507 : decode mL_law.2.1 507 = .ok (.iaload, 1) := by decide +kernel
theorem dL_law_508 : decode mL_law.2.1 508 = .ok (.aload_n 0, 1) := by decide +kernel
theorem dL_law_509 : decode mL_law.2.1 509 = .ok (.iload_n 3, 1) := by decide +kernel
theorem dL_law_510 : decode mL_law.2.1 510 = .ok (.iconst 3, 1) := by decide +kernel
theorem dL_law_511 : decode mL_law.2.1 511 = .ok (.iadd, 1) := by decide +kernel
theorem dL_law_512 : decode mL_law.2.1 512 = .ok (.iaload, 1) := by decide +kernel
theorem dL_law_513 : decode mL_law.2.1 513 = .ok (.invokevirtual 61, 3) := by decide +kernel
theorem dL_law_516 : decode mL_law.2.1 516 = .ok (.aload_n 2, 1) := by decide +kernel
theorem dL_law_517 : decode mL_law.2.1 517 = .ok (.aload_n 0, 1) := by decide +kernel
theorem dL_law_518 : decode mL_law.2.1 518 = .ok (.iload_n 3, 1) := by decide +kernel
theorem dL_law_519 : decode mL_law.2.1 519 = .ok (.iconst 1, 1) := by decide +kernel
theorem dL_law_520 : decode mL_law.2.1 520 = .ok (.iadd, 1) := by decide +kernel
theorem dL_law_521 : decode mL_law.2.1 521 = .ok (.iaload, 1) := by decide +kernel
theorem dL_law_522 : decode mL_law.2.1 522 = .ok (.aload_n 0, 1) := by decide +kernel
theorem dL_law_523 : decode mL_law.2.1 523 = .ok (.iload_n 3, 1) := by decide +kernel
theorem dL_law_524 : decode mL_law.2.1 524 = .ok (.iconst 2, 1) := by decide +kernel
theorem dL_law_525 : decode mL_law.2.1 525 = .ok (.iadd, 1) := by decide +kernel
theorem dL_law_526 : decode mL_law.2.1 526 = .ok (.iaload, 1) := by decide +kernel
