theorem q_L_cell_0 : decode m_L_cell.2.1 0 = .ok (.iload_n 1, 1) := by decide +kernel
theorem q_L_cell_1 : decode m_L_cell.2.1 1 = .ok (.aload_n 0, 1) := by decide +kernel
theorem q_L_cell_2 : decode m_L_cell.2.1 2 = .ok (.arraylength, 1) := by decide +kernel
theorem q_L_cell_3 : decode m_L_cell.2.1 3 = .ok (.if_icmp .ge 9, 3) := by decide +kernel
theorem q_L_cell_6 : decode m_L_cell.2.1 6 = .ok (.aload_n 0, 1) := by decide +kernel
theorem q_L_cell_7 : decode m_L_cell.2.1 7 = .ok (.iload_n 1, 1) := by decide +kernel
theorem q_L_cell_8 : decode m_L_cell.2.1 8 = .ok (.iaload, 1) := by decide +kernel
theorem q_L_cell_9 : decode m_L_cell.2.1 9 = .ok (.goto 4, 3) := by decide +kernel
theorem q_L_cell_12 : decode m_L_cell.2.1 12 = .ok (.iconst 0, 1) := by decide +kernel
theorem q_L_cell_13 : decode m_L_cell.2.1 13 = .ok (.ireturn, 1) := by decide +kernel
theorem q_L_law_0 : decode m_L_law.2.1 0 = .ok (.new 7, 3) := by decide +kernel
theorem q_L_law_3 : decode m_L_law.2.1 3 = .ok (.dup, 1) := by decide +kernel
theorem q_L_law_4 : decode m_L_law.2.1 4 = .ok (.aload_n 0, 1) := by decide +kernel
theorem q_L_law_5 : decode m_L_law.2.1 5 = .ok (.iconst 0, 1) := by decide +kernel
theorem q_L_law_6 : decode m_L_law.2.1 6 = .ok (.invokestatic 9, 3) := by decide +kernel
theorem q_L_law_9 : decode m_L_law.2.1 9 = .ok (.invokespecial 15, 3) := by decide +kernel
theorem q_L_law_12 : decode m_L_law.2.1 12 = .ok (.astore_n 1, 1) := by decide +kernel
theorem q_L_law_13 : decode m_L_law.2.1 13 = .ok (.new 18, 3) := by decide +kernel
theorem q_L_law_16 : decode m_L_law.2.1 16 = .ok (.dup, 1) := by decide +kernel
theorem q_L_law_17 : decode m_L_law.2.1 17 = .ok (.aload_n 0, 1) := by decide +kernel
theorem q_L_law_18 : decode m_L_law.2.1 18 = .ok (.iconst 0, 1) := by decide +kernel
theorem q_L_law_19 : decode m_L_law.2.1 19 = .ok (.invokestatic 9, 3) := by decide +kernel
theorem q_L_law_22 : decode m_L_law.2.1 22 = .ok (.invokespecial 20, 3) := by decide +kernel
theorem q_L_law_25 : decode m_L_law.2.1 25 = .ok (.astore_n 2, 1) := by decide +kernel
theorem q_L_law_26 : decode m_L_law.2.1 26 = .ok (.iconst 1, 1) := by decide +kernel
theorem q_L_law_27 : decode m_L_law.2.1 27 = .ok (.istore_n 3, 1) := by decide +kernel
theorem q_L_law_28 : decode m_L_law.2.1 28 = .ok (.iload_n 3, 1) := by decide +kernel
theorem q_L_law_29 : decode m_L_law.2.1 29 = .ok (.aload_n 0, 1) := by decide +kernel
theorem q_L_law_30 : decode m_L_law.2.1 30 = .ok (.arraylength, 1) := by decide +kernel
theorem q_L_law_31 : decode m_L_law.2.1 31 = .ok (.bipush 7, 2) := by decide +kernel
theorem q_L_law_33 : decode m_L_law.2.1 33 = .ok (.isub, 1) := by decide +kernel
theorem q_L_law_34 : decode m_L_law.2.1 34 = .ok (.if_icmp .gt 1037, 3) := by decide +kernel
theorem q_L_law_37 : decode m_L_law.2.1 37 = .ok (.aload_n 0, 1) := by decide +kernel
theorem q_L_law_38 : decode m_L_law.2.1 38 = .ok (.iload_n 3, 1) := by decide +kernel
theorem q_L_law_39 : decode m_L_law.2.1 39 = .ok (.iaload, 1) := by decide +kernel
theorem q_L_law_40 : decode m_L_law.2.1 40 = .ok (.bipush 31, 2) := by decide +kernel
theorem q_L_law_42 : decode m_L_law.2.1 42 = .ok (.iand, 1) := by decide +kernel
theorem q_L_law_43 : decode m_L_law.2.1 43 = .ok (.tableswitch 1022 0 24 #[113, 136, 251, 274, 337, 410, 443, 496, 549, 572, 586, 610, 633, 646, 680, 729, 782, 805, 829, 852, 886, 909, 943, 976, 999], 113) := by decide +kernel
theorem q_L_law_156 : decode m_L_law.2.1 156 = .ok (.aload_n 1, 1) := by decide +kernel
theorem q_L_law_157 : decode m_L_law.2.1 157 = .ok (.aload_n 0, 1) := by decide +kernel
theorem q_L_law_158 : decode m_L_law.2.1 158 = .ok (.iload_n 3, 1) := by decide +kernel
theorem q_L_law_159 : decode m_L_law.2.1 159 = .ok (.iconst 1, 1) := by decide +kernel
theorem q_L_law_160 : decode m_L_law.2.1 160 = .ok (.iadd, 1) := by decide +kernel
theorem q_L_law_161 : decode m_L_law.2.1 161 = .ok (.iaload, 1) := by decide +kernel
theorem q_L_law_162 : decode m_L_law.2.1 162 = .ok (.invokevirtual 21, 3) := by decide +kernel
theorem q_L_law_165 : decode m_L_law.2.1 165 = .ok (.aload_n 2, 1) := by decide +kernel
theorem q_L_law_166 : decode m_L_law.2.1 166 = .ok (.aload_n 0, 1) := by decide +kernel
theorem q_L_law_167 : decode m_L_law.2.1 167 = .ok (.iload_n 3, 1) := by decide +kernel
theorem q_L_law_168 : decode m_L_law.2.1 168 = .ok (.iconst 1, 1) := by decide +kernel
theorem q_L_law_169 : decode m_L_law.2.1 169 = .ok (.iadd, 1) := by decide +kernel
theorem q_L_law_170 : decode m_L_law.2.1 170 = .ok (.iaload, 1) := by decide +kernel
theorem q_L_law_171 : decode m_L_law.2.1 171 = .ok (.invokevirtual 25, 3) := by decide +kernel
theorem q_L_law_174 : decode m_L_law.2.1 174 = .ok (.if_icmp .eq 891, 3) := by decide +kernel
theorem q_L_law_177 : decode m_L_law.2.1 177 = .ok (.iconst 0, 1) := by decide +kernel
theorem q_L_law_178 : decode m_L_law.2.1 178 = .ok (.ireturn, 1) := by decide +kernel
theorem q_L_law_179 : decode m_L_law.2.1 179 = .ok (.aload_n 1, 1) := by decide +kernel
theorem q_L_law_180 : decode m_L_law.2.1 180 = .ok (.aload_n 0, 1) := by decide +kernel
theorem q_L_law_181 : decode m_L_law.2.1 181 = .ok (.iload_n 3, 1) := by decide +kernel
theorem q_L_law_182 : decode m_L_law.2.1 182 = .ok (.iconst 1, 1) := by decide +kernel
theorem q_L_law_183 : decode m_L_law.2.1 183 = .ok (.iadd, 1) := by decide +kernel
theorem q_L_law_184 : decode m_L_law.2.1 184 = .ok (.iaload, 1) := by decide +kernel
theorem q_L_law_185 : decode m_L_law.2.1 185 = .ok (.aload_n 0, 1) := by decide +kernel
theorem q_L_law_186 : decode m_L_law.2.1 186 = .ok (.iload_n 3, 1) := by decide +kernel
theorem q_L_law_187 : decode m_L_law.2.1 187 = .ok (.iconst 2, 1) := by decide +kernel
theorem q_L_law_188 : decode m_L_law.2.1 188 = .ok (.iadd, 1) := by decide +kernel
theorem q_L_law_189 : decode m_L_law.2.1 189 = .ok (.iaload, 1) := by decide +kernel
theorem q_L_law_190 : decode m_L_law.2.1 190 = .ok (.aload_n 0, 1) := by decide +kernel
theorem q_L_law_191 : decode m_L_law.2.1 191 = .ok (.iload_n 3, 1) := by decide +kernel
theorem q_L_law_192 : decode m_L_law.2.1 192 = .ok (.iconst 3, 1) := by decide +kernel
theorem q_L_law_193 : decode m_L_law.2.1 193 = .ok (.iadd, 1) := by decide +kernel
theorem q_L_law_194 : decode m_L_law.2.1 194 = .ok (.iaload, 1) := by decide +kernel
theorem q_L_law_195 : decode m_L_law.2.1 195 = .ok (.i2l, 1) := by decide +kernel
theorem q_L_law_196 : decode m_L_law.2.1 196 = .ok (.bipush 32, 2) := by decide +kernel
theorem q_L_law_198 : decode m_L_law.2.1 198 = .ok (.lshl, 1) := by decide +kernel
theorem q_L_law_199 : decode m_L_law.2.1 199 = .ok (.aload_n 0, 1) := by decide +kernel
theorem q_L_law_200 : decode m_L_law.2.1 200 = .ok (.iload_n 3, 1) := by decide +kernel
theorem q_L_law_201 : decode m_L_law.2.1 201 = .ok (.iconst 4, 1) := by decide +kernel
theorem q_L_law_202 : decode m_L_law.2.1 202 = .ok (.iadd, 1) := by decide +kernel
theorem q_L_law_203 : decode m_L_law.2.1 203 = .ok (.iaload, 1) := by decide +kernel
theorem q_L_law_204 : decode m_L_law.2.1 204 = .ok (.i2l, 1) := by decide +kernel
theorem q_L_law_205 : decode m_L_law.2.1 205 = .ok (.ldc2_w 26, 3) := by decide +kernel
theorem q_L_law_208 : decode m_L_law.2.1 208 = .ok (.land, 1) := by decide +kernel
theorem q_L_law_209 : decode m_L_law.2.1 209 = .ok (.lor, 1) := by decide +kernel
theorem q_L_law_210 : decode m_L_law.2.1 210 = .ok (.aload_n 0, 1) := by decide +kernel
theorem q_L_law_211 : decode m_L_law.2.1 211 = .ok (.iload_n 3, 1) := by decide +kernel
theorem q_L_law_212 : decode m_L_law.2.1 212 = .ok (.iconst 5, 1) := by decide +kernel
theorem q_L_law_213 : decode m_L_law.2.1 213 = .ok (.iadd, 1) := by decide +kernel
theorem q_L_law_214 : decode m_L_law.2.1 214 = .ok (.iaload, 1) := by decide +kernel
theorem q_L_law_215 : decode m_L_law.2.1 215 = .ok (.i2l, 1) := by decide +kernel
theorem q_L_law_216 : decode m_L_law.2.1 216 = .ok (.bipush 32, 2) := by decide +kernel
theorem q_L_law_218 : decode m_L_law.2.1 218 = .ok (.lshl, 1) := by decide +kernel
theorem q_L_law_219 : decode m_L_law.2.1 219 = .ok (.aload_n 0, 1) := by decide +kernel
theorem q_L_law_220 : decode m_L_law.2.1 220 = .ok (.iload_n 3, 1) := by decide +kernel
theorem q_L_law_221 : decode m_L_law.2.1 221 = .ok (.bipush 6, 2) := by decide +kernel
theorem q_L_law_223 : decode m_L_law.2.1 223 = .ok (.iadd, 1) := by decide +kernel
theorem q_L_law_224 : decode m_L_law.2.1 224 = .ok (.iaload, 1) := by decide +kernel
theorem q_L_law_225 : decode m_L_law.2.1 225 = .ok (.i2l, 1) := by decide +kernel
theorem q_L_law_226 : decode m_L_law.2.1 226 = .ok (.ldc2_w 26, 3) := by decide +kernel
theorem q_L_law_229 : decode m_L_law.2.1 229 = .ok (.land, 1) := by decide +kernel
theorem q_L_law_230 : decode m_L_law.2.1 230 = .ok (.lor, 1) := by decide +kernel
theorem q_L_law_231 : decode m_L_law.2.1 231 = .ok (.invokevirtual 28, 3) := by decide +kernel
theorem q_L_law_234 : decode m_L_law.2.1 234 = .ok (.aload_n 2, 1) := by decide +kernel
theorem q_L_law_235 : decode m_L_law.2.1 235 = .ok (.aload_n 0, 1) := by decide +kernel
theorem q_L_law_236 : decode m_L_law.2.1 236 = .ok (.iload_n 3, 1) := by decide +kernel
theorem q_L_law_237 : decode m_L_law.2.1 237 = .ok (.iconst 1, 1) := by decide +kernel
theorem q_L_law_238 : decode m_L_law.2.1 238 = .ok (.iadd, 1) := by decide +kernel
theorem q_L_law_239 : decode m_L_law.2.1 239 = .ok (.iaload, 1) := by decide +kernel
theorem q_L_law_240 : decode m_L_law.2.1 240 = .ok (.aload_n 0, 1) := by decide +kernel
theorem q_L_law_241 : decode m_L_law.2.1 241 = .ok (.iload_n 3, 1) := by decide +kernel
theorem q_L_law_242 : decode m_L_law.2.1 242 = .ok (.iconst 2, 1) := by decide +kernel
theorem q_L_law_243 : decode m_L_law.2.1 243 = .ok (.iadd, 1) := by decide +kernel
theorem q_L_law_244 : decode m_L_law.2.1 244 = .ok (.iaload, 1) := by decide +kernel
theorem q_L_law_245 : decode m_L_law.2.1 245 = .ok (.aload_n 0, 1) := by decide +kernel
theorem q_L_law_246 : decode m_L_law.2.1 246 = .ok (.iload_n 3, 1) := by decide +kernel
theorem q_L_law_247 : decode m_L_law.2.1 247 = .ok (.iconst 3, 1) := by decide +kernel
theorem q_L_law_248 : decode m_L_law.2.1 248 = .ok (.iadd, 1) := by decide +kernel
theorem q_L_law_249 : decode m_L_law.2.1 249 = .ok (.iaload, 1) := by decide +kernel
theorem q_L_law_250 : decode m_L_law.2.1 250 = .ok (.i2l, 1) := by decide +kernel
theorem q_L_law_251 : decode m_L_law.2.1 251 = .ok (.bipush 32, 2) := by decide +kernel
theorem q_L_law_253 : decode m_L_law.2.1 253 = .ok (.lshl, 1) := by decide +kernel
theorem q_L_law_254 : decode m_L_law.2.1 254 = .ok (.aload_n 0, 1) := by decide +kernel
theorem q_L_law_255 : decode m_L_law.2.1 255 = .ok (.iload_n 3, 1) := by decide +kernel
theorem q_L_law_256 : decode m_L_law.2.1 256 = .ok (.iconst 4, 1) := by decide +kernel
theorem q_L_law_257 : decode m_L_law.2.1 257 = .ok (.iadd, 1) := by decide +kernel
theorem q_L_law_258 : decode m_L_law.2.1 258 = .ok (.iaload, 1) := by decide +kernel
theorem q_L_law_259 : decode m_L_law.2.1 259 = .ok (.i2l, 1) := by decide +kernel
theorem q_L_law_260 : decode m_L_law.2.1 260 = .ok (.ldc2_w 26, 3) := by decide +kernel
theorem q_L_law_263 : decode m_L_law.2.1 263 = .ok (.land, 1) := by decide +kernel
theorem q_L_law_264 : decode m_L_law.2.1 264 = .ok (.lor, 1) := by decide +kernel
theorem q_L_law_265 : decode m_L_law.2.1 265 = .ok (.aload_n 0, 1) := by decide +kernel
theorem q_L_law_266 : decode m_L_law.2.1 266 = .ok (.iload_n 3, 1) := by decide +kernel
theorem q_L_law_267 : decode m_L_law.2.1 267 = .ok (.iconst 5, 1) := by decide +kernel
theorem q_L_law_268 : decode m_L_law.2.1 268 = .ok (.iadd, 1) := by decide +kernel
theorem q_L_law_269 : decode m_L_law.2.1 269 = .ok (.iaload, 1) := by decide +kernel
theorem q_L_law_270 : decode m_L_law.2.1 270 = .ok (.i2l, 1) := by decide +kernel
theorem q_L_law_271 : decode m_L_law.2.1 271 = .ok (.bipush 32, 2) := by decide +kernel
theorem q_L_law_273 : decode m_L_law.2.1 273 = .ok (.lshl, 1) := by decide +kernel
theorem q_L_law_274 : decode m_L_law.2.1 274 = .ok (.aload_n 0, 1) := by decide +kernel
theorem q_L_law_275 : decode m_L_law.2.1 275 = .ok (.iload_n 3, 1) := by decide +kernel
theorem q_L_law_276 : decode m_L_law.2.1 276 = .ok (.bipush 6, 2) := by decide +kernel
theorem q_L_law_278 : decode m_L_law.2.1 278 = .ok (.iadd, 1) := by decide +kernel
theorem q_L_law_279 : decode m_L_law.2.1 279 = .ok (.iaload, 1) := by decide +kernel
theorem q_L_law_280 : decode m_L_law.2.1 280 = .ok (.i2l, 1) := by decide +kernel
theorem q_L_law_281 : decode m_L_law.2.1 281 = .ok (.ldc2_w 26, 3) := by decide +kernel
theorem q_L_law_284 : decode m_L_law.2.1 284 = .ok (.land, 1) := by decide +kernel
theorem q_L_law_285 : decode m_L_law.2.1 285 = .ok (.lor, 1) := by decide +kernel
theorem q_L_law_286 : decode m_L_law.2.1 286 = .ok (.invokevirtual 32, 3) := by decide +kernel
theorem q_L_law_289 : decode m_L_law.2.1 289 = .ok (.if_icmp .eq 776, 3) := by decide +kernel
theorem q_L_law_292 : decode m_L_law.2.1 292 = .ok (.iconst 0, 1) := by decide +kernel
theorem q_L_law_293 : decode m_L_law.2.1 293 = .ok (.ireturn, 1) := by decide +kernel
theorem q_L_law_294 : decode m_L_law.2.1 294 = .ok (.aload_n 1, 1) := by decide +kernel
theorem q_L_law_295 : decode m_L_law.2.1 295 = .ok (.aload_n 0, 1) := by decide +kernel
theorem q_L_law_296 : decode m_L_law.2.1 296 = .ok (.iload_n 3, 1) := by decide +kernel
theorem q_L_law_297 : decode m_L_law.2.1 297 = .ok (.iconst 1, 1) := by decide +kernel
theorem q_L_law_298 : decode m_L_law.2.1 298 = .ok (.iadd, 1) := by decide +kernel
theorem q_L_law_299 : decode m_L_law.2.1 299 = .ok (.iaload, 1) := by decide +kernel
theorem q_L_law_300 : decode m_L_law.2.1 300 = .ok (.invokevirtual 33, 3) := by decide +kernel
theorem q_L_law_303 : decode m_L_law.2.1 303 = .ok (.aload_n 2, 1) := by decide +kernel
theorem q_L_law_304 : decode m_L_law.2.1 304 = .ok (.aload_n 0, 1) := by decide +kernel
theorem q_L_law_305 : decode m_L_law.2.1 305 = .ok (.iload_n 3, 1) := by decide +kernel
theorem q_L_law_306 : decode m_L_law.2.1 306 = .ok (.iconst 1, 1) := by decide +kernel
theorem q_L_law_307 : decode m_L_law.2.1 307 = .ok (.iadd, 1) := by decide +kernel
theorem q_L_law_308 : decode m_L_law.2.1 308 = .ok (.iaload, 1) := by decide +kernel
theorem q_L_law_309 : decode m_L_law.2.1 309 = .ok (.invokevirtual 37, 3) := by decide +kernel
theorem q_L_law_312 : decode m_L_law.2.1 312 = .ok (.if_icmp .eq 753, 3) := by decide +kernel
theorem q_L_law_315 : decode m_L_law.2.1 315 = .ok (.iconst 0, 1) := by decide +kernel
theorem q_L_law_316 : decode m_L_law.2.1 316 = .ok (.ireturn, 1) := by decide +kernel
theorem q_L_law_317 : decode m_L_law.2.1 317 = .ok (.aload_n 1, 1) := by decide +kernel
theorem q_L_law_318 : decode m_L_law.2.1 318 = .ok (.aload_n 0, 1) := by decide +kernel
theorem q_L_law_319 : decode m_L_law.2.1 319 = .ok (.iload_n 3, 1) := by decide +kernel
theorem q_L_law_320 : decode m_L_law.2.1 320 = .ok (.iconst 1, 1) := by decide +kernel
theorem q_L_law_321 : decode m_L_law.2.1 321 = .ok (.iadd, 1) := by decide +kernel
theorem q_L_law_322 : decode m_L_law.2.1 322 = .ok (.iaload, 1) := by decide +kernel
theorem q_L_law_323 : decode m_L_law.2.1 323 = .ok (.aload_n 0, 1) := by decide +kernel
theorem q_L_law_324 : decode m_L_law.2.1 324 = .ok (.iload_n 3, 1) := by decide +kernel
theorem q_L_law_325 : decode m_L_law.2.1 325 = .ok (.iconst 2, 1) := by decide +kernel
theorem q_L_law_326 : decode m_L_law.2.1 326 = .ok (.iadd, 1) := by decide +kernel
theorem q_L_law_327 : decode m_L_law.2.1 327 = .ok (.iaload, 1) := by decide +kernel
theorem q_L_law_328 : decode m_L_law.2.1 328 = .ok (.i2l, 1) := by decide +kernel
theorem q_L_law_329 : decode m_L_law.2.1 329 = .ok (.bipush 32, 2) := by decide +kernel
theorem q_L_law_331 : decode m_L_law.2.1 331 = .ok (.lshl, 1) := by decide +kernel
theorem q_L_law_332 : decode m_L_law.2.1 332 = .ok (.aload_n 0, 1) := by decide +kernel
theorem q_L_law_333 : decode m_L_law.2.1 333 = .ok (.iload_n 3, 1) := by decide +kernel
theorem q_L_law_334 : decode m_L_law.2.1 334 = .ok (.iconst 3, 1) := by decide +kernel
theorem q_L_law_335 : decode m_L_law.2.1 335 = .ok (.iadd, 1) := by decide +kernel
theorem q_L_law_336 : decode m_L_law.2.1 336 = .ok (.iaload, 1) := by decide +kernel
theorem q_L_law_337 : decode m_L_law.2.1 337 = .ok (.i2l, 1) := by decide +kernel
theorem q_L_law_338 : decode m_L_law.2.1 338 = .ok (.ldc2_w 26, 3) := by decide +kernel
theorem q_L_law_341 : decode m_L_law.2.1 341 = .ok (.land, 1) := by decide +kernel
theorem q_L_law_342 : decode m_L_law.2.1 342 = .ok (.lor, 1) := by decide +kernel
theorem q_L_law_343 : decode m_L_law.2.1 343 = .ok (.invokevirtual 38, 3) := by decide +kernel
theorem q_L_law_346 : decode m_L_law.2.1 346 = .ok (.aload_n 2, 1) := by decide +kernel
theorem q_L_law_347 : decode m_L_law.2.1 347 = .ok (.aload_n 0, 1) := by decide +kernel
theorem q_L_law_348 : decode m_L_law.2.1 348 = .ok (.iload_n 3, 1) := by decide +kernel
theorem q_L_law_349 : decode m_L_law.2.1 349 = .ok (.iconst 1, 1) := by decide +kernel
theorem q_L_law_350 : decode m_L_law.2.1 350 = .ok (.iadd, 1) := by decide +kernel
theorem q_L_law_351 : decode m_L_law.2.1 351 = .ok (.iaload, 1) := by decide +kernel
theorem q_L_law_352 : decode m_L_law.2.1 352 = .ok (.aload_n 0, 1) := by decide +kernel
theorem q_L_law_353 : decode m_L_law.2.1 353 = .ok (.iload_n 3, 1) := by decide +kernel
theorem q_L_law_354 : decode m_L_law.2.1 354 = .ok (.iconst 2, 1) := by decide +kernel
theorem q_L_law_355 : decode m_L_law.2.1 355 = .ok (.iadd, 1) := by decide +kernel
theorem q_L_law_356 : decode m_L_law.2.1 356 = .ok (.iaload, 1) := by decide +kernel
theorem q_L_law_357 : decode m_L_law.2.1 357 = .ok (.i2l, 1) := by decide +kernel
theorem q_L_law_358 : decode m_L_law.2.1 358 = .ok (.bipush 32, 2) := by decide +kernel
theorem q_L_law_360 : decode m_L_law.2.1 360 = .ok (.lshl, 1) := by decide +kernel
theorem q_L_law_361 : decode m_L_law.2.1 361 = .ok (.aload_n 0, 1) := by decide +kernel
theorem q_L_law_362 : decode m_L_law.2.1 362 = .ok (.iload_n 3, 1) := by decide +kernel
theorem q_L_law_363 : decode m_L_law.2.1 363 = .ok (.iconst 3, 1) := by decide +kernel
theorem q_L_law_364 : decode m_L_law.2.1 364 = .ok (.iadd, 1) := by decide +kernel
theorem q_L_law_365 : decode m_L_law.2.1 365 = .ok (.iaload, 1) := by decide +kernel
theorem q_L_law_366 : decode m_L_law.2.1 366 = .ok (.i2l, 1) := by decide +kernel
theorem q_L_law_367 : decode m_L_law.2.1 367 = .ok (.ldc2_w 26, 3) := by decide +kernel
theorem q_L_law_370 : decode m_L_law.2.1 370 = .ok (.land, 1) := by decide +kernel
theorem q_L_law_371 : decode m_L_law.2.1 371 = .ok (.lor, 1) := by decide +kernel
theorem q_L_law_372 : decode m_L_law.2.1 372 = .ok (.invokevirtual 42, 3) := by decide +kernel
theorem q_L_law_375 : decode m_L_law.2.1 375 = .ok (.if_icmp .eq 690, 3) := by decide +kernel
theorem q_L_law_378 : decode m_L_law.2.1 378 = .ok (.iconst 0, 1) := by decide +kernel
theorem q_L_law_379 : decode m_L_law.2.1 379 = .ok (.ireturn, 1) := by decide +kernel
theorem q_L_law_380 : decode m_L_law.2.1 380 = .ok (.aload_n 1, 1) := by decide +kernel
theorem q_L_law_381 : decode m_L_law.2.1 381 = .ok (.aload_n 0, 1) := by decide +kernel
theorem q_L_law_382 : decode m_L_law.2.1 382 = .ok (.iload_n 3, 1) := by decide +kernel
theorem q_L_law_383 : decode m_L_law.2.1 383 = .ok (.iconst 1, 1) := by decide +kernel
theorem q_L_law_384 : decode m_L_law.2.1 384 = .ok (.iadd, 1) := by decide +kernel
theorem q_L_law_385 : decode m_L_law.2.1 385 = .ok (.iaload, 1) := by decide +kernel
theorem q_L_law_386 : decode m_L_law.2.1 386 = .ok (.aload_n 0, 1) := by decide +kernel
theorem q_L_law_387 : decode m_L_law.2.1 387 = .ok (.iload_n 3, 1) := by decide +kernel
theorem q_L_law_388 : decode m_L_law.2.1 388 = .ok (.iconst 2, 1) := by decide +kernel
theorem q_L_law_389 : decode m_L_law.2.1 389 = .ok (.iadd, 1) := by decide +kernel
theorem q_L_law_390 : decode m_L_law.2.1 390 = .ok (.iaload, 1) := by decide +kernel
theorem q_L_law_391 : decode m_L_law.2.1 391 = .ok (.aload_n 0, 1) := by decide +kernel
theorem q_L_law_392 : decode m_L_law.2.1 392 = .ok (.iload_n 3, 1) := by decide +kernel
theorem q_L_law_393 : decode m_L_law.2.1 393 = .ok (.iconst 3, 1) := by decide +kernel
theorem q_L_law_394 : decode m_L_law.2.1 394 = .ok (.iadd, 1) := by decide +kernel
theorem q_L_law_395 : decode m_L_law.2.1 395 = .ok (.iaload, 1) := by decide +kernel
theorem q_L_law_396 : decode m_L_law.2.1 396 = .ok (.i2l, 1) := by decide +kernel
theorem q_L_law_397 : decode m_L_law.2.1 397 = .ok (.bipush 32, 2) := by decide +kernel
theorem q_L_law_399 : decode m_L_law.2.1 399 = .ok (.lshl, 1) := by decide +kernel
theorem q_L_law_400 : decode m_L_law.2.1 400 = .ok (.aload_n 0, 1) := by decide +kernel
theorem q_L_law_401 : decode m_L_law.2.1 401 = .ok (.iload_n 3, 1) := by decide +kernel
theorem q_L_law_402 : decode m_L_law.2.1 402 = .ok (.iconst 4, 1) := by decide +kernel
theorem q_L_law_403 : decode m_L_law.2.1 403 = .ok (.iadd, 1) := by decide +kernel
theorem q_L_law_404 : decode m_L_law.2.1 404 = .ok (.iaload, 1) := by decide +kernel
theorem q_L_law_405 : decode m_L_law.2.1 405 = .ok (.i2l, 1) := by decide +kernel
theorem q_L_law_406 : decode m_L_law.2.1 406 = .ok (.ldc2_w 26, 3) := by decide +kernel
theorem q_L_law_409 : decode m_L_law.2.1 409 = .ok (.land, 1) := by decide +kernel
theorem q_L_law_410 : decode m_L_law.2.1 410 = .ok (.lor, 1) := by decide +kernel
theorem q_L_law_411 : decode m_L_law.2.1 411 = .ok (.invokevirtual 43, 3) := by decide +kernel
theorem q_L_law_414 : decode m_L_law.2.1 414 = .ok (.aload_n 2, 1) := by decide +kernel
theorem q_L_law_415 : decode m_L_law.2.1 415 = .ok (.aload_n 0, 1) := by decide +kernel
theorem q_L_law_416 : decode m_L_law.2.1 416 = .ok (.iload_n 3, 1) := by decide +kernel
theorem q_L_law_417 : decode m_L_law.2.1 417 = .ok (.iconst 1, 1) := by decide +kernel
theorem q_L_law_418 : decode m_L_law.2.1 418 = .ok (.iadd, 1) := by decide +kernel
theorem q_L_law_419 : decode m_L_law.2.1 419 = .ok (.iaload, 1) := by decide +kernel
theorem q_L_law_420 : decode m_L_law.2.1 420 = .ok (.aload_n 0, 1) := by decide +kernel
theorem q_L_law_421 : decode m_L_law.2.1 421 = .ok (.iload_n 3, 1) := by decide +kernel
theorem q_L_law_422 : decode m_L_law.2.1 422 = .ok (.iconst 2, 1) := by decide +kernel
theorem q_L_law_423 : decode m_L_law.2.1 423 = .ok (.iadd, 1) := by decide +kernel
theorem q_L_law_424 : decode m_L_law.2.1 424 = .ok (.iaload, 1) := by decide +kernel
theorem q_L_law_425 : decode m_L_law.2.1 425 = .ok (.aload_n 0, 1) := by decide +kernel
theorem q_L_law_426 : decode m_L_law.2.1 426 = .ok (.iload_n 3, 1) := by decide +kernel
theorem q_L_law_427 : decode m_L_law.2.1 427 = .ok (.iconst 3, 1) := by decide +kernel
theorem q_L_law_428 : decode m_L_law.2.1 428 = .ok (.iadd, 1) := by decide +kernel
theorem q_L_law_429 : decode m_L_law.2.1 429 = .ok (.iaload, 1) := by decide +kernel
theorem q_L_law_430 : decode m_L_law.2.1 430 = .ok (.i2l, 1) := by decide +kernel
theorem q_L_law_431 : decode m_L_law.2.1 431 = .ok (.bipush 32, 2) := by decide +kernel
theorem q_L_law_433 : decode m_L_law.2.1 433 = .ok (.lshl, 1) := by decide +kernel
theorem q_L_law_434 : decode m_L_law.2.1 434 = .ok (.aload_n 0, 1) := by decide +kernel
theorem q_L_law_435 : decode m_L_law.2.1 435 = .ok (.iload_n 3, 1) := by decide +kernel
theorem q_L_law_436 : decode m_L_law.2.1 436 = .ok (.iconst 4, 1) := by decide +kernel
theorem q_L_law_437 : decode m_L_law.2.1 437 = .ok (.iadd, 1) := by decide +kernel
theorem q_L_law_438 : decode m_L_law.2.1 438 = .ok (.iaload, 1) := by decide +kernel
theorem q_L_law_439 : decode m_L_law.2.1 439 = .ok (.i2l, 1) := by decide +kernel
theorem q_L_law_440 : decode m_L_law.2.1 440 = .ok (.ldc2_w 26, 3) := by decide +kernel
theorem q_L_law_443 : decode m_L_law.2.1 443 = .ok (.land, 1) := by decide +kernel
theorem q_L_law_444 : decode m_L_law.2.1 444 = .ok (.lor, 1) := by decide +kernel
theorem q_L_law_445 : decode m_L_law.2.1 445 = .ok (.invokevirtual 47, 3) := by decide +kernel
theorem q_L_law_448 : decode m_L_law.2.1 448 = .ok (.if_icmp .eq 617, 3) := by decide +kernel
theorem q_L_law_451 : decode m_L_law.2.1 451 = .ok (.iconst 0, 1) := by decide +kernel
theorem q_L_law_452 : decode m_L_law.2.1 452 = .ok (.ireturn, 1) := by decide +kernel
theorem q_L_law_453 : decode m_L_law.2.1 453 = .ok (.aload_n 1, 1) := by decide +kernel
theorem q_L_law_454 : decode m_L_law.2.1 454 = .ok (.aload_n 0, 1) := by decide +kernel
theorem q_L_law_455 : decode m_L_law.2.1 455 = .ok (.iload_n 3, 1) := by decide +kernel
theorem q_L_law_456 : decode m_L_law.2.1 456 = .ok (.iconst 1, 1) := by decide +kernel
theorem q_L_law_457 : decode m_L_law.2.1 457 = .ok (.iadd, 1) := by decide +kernel
theorem q_L_law_458 : decode m_L_law.2.1 458 = .ok (.iaload, 1) := by decide +kernel
theorem q_L_law_459 : decode m_L_law.2.1 459 = .ok (.aload_n 0, 1) := by decide +kernel
theorem q_L_law_460 : decode m_L_law.2.1 460 = .ok (.iload_n 3, 1) := by decide +kernel
theorem q_L_law_461 : decode m_L_law.2.1 461 = .ok (.iconst 2, 1) := by decide +kernel
theorem q_L_law_462 : decode m_L_law.2.1 462 = .ok (.iadd, 1) := by decide +kernel
theorem q_L_law_463 : decode m_L_law.2.1 463 = .ok (.iaload, 1) := by decide +kernel
theorem q_L_law_464 : decode m_L_law.2.1 464 = .ok (.invokevirtual 48, 3) := by decide +kernel
theorem q_L_law_467 : decode m_L_law.2.1 467 = .ok (.aload_n 2, 1) := by decide +kernel
theorem q_L_law_468 : decode m_L_law.2.1 468 = .ok (.aload_n 0, 1) := by decide +kernel
theorem q_L_law_469 : decode m_L_law.2.1 469 = .ok (.iload_n 3, 1) := by decide +kernel
theorem q_L_law_470 : decode m_L_law.2.1 470 = .ok (.iconst 1, 1) := by decide +kernel
theorem q_L_law_471 : decode m_L_law.2.1 471 = .ok (.iadd, 1) := by decide +kernel
theorem q_L_law_472 : decode m_L_law.2.1 472 = .ok (.iaload, 1) := by decide +kernel
theorem q_L_law_473 : decode m_L_law.2.1 473 = .ok (.aload_n 0, 1) := by decide +kernel
theorem q_L_law_474 : decode m_L_law.2.1 474 = .ok (.iload_n 3, 1) := by decide +kernel
theorem q_L_law_475 : decode m_L_law.2.1 475 = .ok (.iconst 2, 1) := by decide +kernel
theorem q_L_law_476 : decode m_L_law.2.1 476 = .ok (.iadd, 1) := by decide +kernel
theorem q_L_law_477 : decode m_L_law.2.1 477 = .ok (.iaload, 1) := by decide +kernel
theorem q_L_law_478 : decode m_L_law.2.1 478 = .ok (.invokevirtual 52, 3) := by decide +kernel
theorem q_L_law_481 : decode m_L_law.2.1 481 = .ok (.if_icmp .eq 584, 3) := by decide +kernel
theorem q_L_law_484 : decode m_L_law.2.1 484 = .ok (.iconst 0, 1) := by decide +kernel
theorem q_L_law_485 : decode m_L_law.2.1 485 = .ok (.ireturn, 1) := by decide +kernel
theorem q_L_law_486 : decode m_L_law.2.1 486 = .ok (.aload_n 1, 1) := by decide +kernel
theorem q_L_law_487 : decode m_L_law.2.1 487 = .ok (.aload_n 0, 1) := by decide +kernel
theorem q_L_law_488 : decode m_L_law.2.1 488 = .ok (.iload_n 3, 1) := by decide +kernel
theorem q_L_law_489 : decode m_L_law.2.1 489 = .ok (.iconst 1, 1) := by decide +kernel
theorem q_L_law_490 : decode m_L_law.2.1 490 = .ok (.iadd, 1) := by decide +kernel
theorem q_L_law_491 : decode m_L_law.2.1 491 = .ok (.iaload, 1) := by decide +kernel
theorem q_L_law_492 : decode m_L_law.2.1 492 = .ok (.i2l, 1) := by decide +kernel
theorem q_L_law_493 : decode m_L_law.2.1 493 = .ok (.bipush 32, 2) := by decide +kernel
theorem q_L_law_495 : decode m_L_law.2.1 495 = .ok (.lshl, 1) := by decide +kernel
theorem q_L_law_496 : decode m_L_law.2.1 496 = .ok (.aload_n 0, 1) := by decide +kernel
theorem q_L_law_497 : decode m_L_law.2.1 497 = .ok (.iload_n 3, 1) := by decide +kernel
theorem q_L_law_498 : decode m_L_law.2.1 498 = .ok (.iconst 2, 1) := by decide +kernel
theorem q_L_law_499 : decode m_L_law.2.1 499 = .ok (.iadd, 1) := by decide +kernel
theorem q_L_law_500 : decode m_L_law.2.1 500 = .ok (.iaload, 1) := by decide +kernel
theorem q_L_law_501 : decode m_L_law.2.1 501 = .ok (.i2l, 1) := by decide +kernel
theorem q_L_law_502 : decode m_L_law.2.1 502 = .ok (.ldc2_w 26, 3) := by decide +kernel
theorem q_L_law_505 : decode m_L_law.2.1 505 = .ok (.land, 1) := by decide +kernel
theorem q_L_law_506 : decode m_L_law.2.1 506 = .ok (.lor, 1) := by decide +kernel
theorem q_L_law_507 : decode m_L_law.2.1 507 = .ok (.invokevirtual 53, 3) := by decide +kernel
theorem q_L_law_510 : decode m_L_law.2.1 510 = .ok (.aload_n 2, 1) := by decide +kernel
theorem q_L_law_511 : decode m_L_law.2.1 511 = .ok (.aload_n 0, 1) := by decide +kernel
theorem q_L_law_512 : decode m_L_law.2.1 512 = .ok (.iload_n 3, 1) := by decide +kernel
theorem q_L_law_513 : decode m_L_law.2.1 513 = .ok (.iconst 1, 1) := by decide +kernel
theorem q_L_law_514 : decode m_L_law.2.1 514 = .ok (.iadd, 1) := by decide +kernel
theorem q_L_law_515 : decode m_L_law.2.1 515 = .ok (.iaload, 1) := by decide +kernel
theorem q_L_law_516 : decode m_L_law.2.1 516 = .ok (.i2l, 1) := by decide +kernel
theorem q_L_law_517 : decode m_L_law.2.1 517 = .ok (.bipush 32, 2) := by decide +kernel
theorem q_L_law_519 : decode m_L_law.2.1 519 = .ok (.lshl, 1) := by decide +kernel
theorem q_L_law_520 : decode m_L_law.2.1 520 = .ok (.aload_n 0, 1) := by decide +kernel
theorem q_L_law_521 : decode m_L_law.2.1 521 = .ok (.iload_n 3, 1) := by decide +kernel
theorem q_L_law_522 : decode m_L_law.2.1 522 = .ok (.iconst 2, 1) := by decide +kernel
theorem q_L_law_523 : decode m_L_law.2.1 523 = .ok (.iadd, 1) := by decide +kernel
theorem q_L_law_524 : decode m_L_law.2.1 524 = .ok (.iaload, 1) := by decide +kernel
theorem q_L_law_525 : decode m_L_law.2.1 525 = .ok (.i2l, 1) := by decide +kernel
theorem q_L_law_526 : decode m_L_law.2.1 526 = .ok (.ldc2_w 26, 3) := by decide +kernel
theorem q_L_law_529 : decode m_L_law.2.1 529 = .ok (.land, 1) := by decide +kernel
theorem q_L_law_530 : decode m_L_law.2.1 530 = .ok (.lor, 1) := by decide +kernel
theorem q_L_law_531 : decode m_L_law.2.1 531 = .ok (.invokevirtual 57, 3) := by decide +kernel
theorem q_L_law_534 : decode m_L_law.2.1 534 = .ok (.if_icmp .eq 531, 3) := by decide +kernel
theorem q_L_law_537 : decode m_L_law.2.1 537 = .ok (.iconst 0, 1) := by decide +kernel
theorem q_L_law_538 : decode m_L_law.2.1 538 = .ok (.ireturn, 1) := by decide +kernel
theorem q_L_law_539 : decode m_L_law.2.1 539 = .ok (.aload_n 1, 1) := by decide +kernel
theorem q_L_law_540 : decode m_L_law.2.1 540 = .ok (.aload_n 0, 1) := by decide +kernel
theorem q_L_law_541 : decode m_L_law.2.1 541 = .ok (.iload_n 3, 1) := by decide +kernel
theorem q_L_law_542 : decode m_L_law.2.1 542 = .ok (.iconst 1, 1) := by decide +kernel
theorem q_L_law_543 : decode m_L_law.2.1 543 = .ok (.iadd, 1) := by decide +kernel
theorem q_L_law_544 : decode m_L_law.2.1 544 = .ok (.iaload, 1) := by decide +kernel
theorem q_L_law_545 : decode m_L_law.2.1 545 = .ok (.i2l, 1) := by decide +kernel
theorem q_L_law_546 : decode m_L_law.2.1 546 = .ok (.bipush 32, 2) := by decide +kernel
theorem q_L_law_548 : decode m_L_law.2.1 548 = .ok (.lshl, 1) := by decide +kernel
theorem q_L_law_549 : decode m_L_law.2.1 549 = .ok (.aload_n 0, 1) := by decide +kernel
theorem q_L_law_550 : decode m_L_law.2.1 550 = .ok (.iload_n 3, 1) := by decide +kernel
theorem q_L_law_551 : decode m_L_law.2.1 551 = .ok (.iconst 2, 1) := by decide +kernel
theorem q_L_law_552 : decode m_L_law.2.1 552 = .ok (.iadd, 1) := by decide +kernel
theorem q_L_law_553 : decode m_L_law.2.1 553 = .ok (.iaload, 1) := by decide +kernel
theorem q_L_law_554 : decode m_L_law.2.1 554 = .ok (.i2l, 1) := by decide +kernel
theorem q_L_law_555 : decode m_L_law.2.1 555 = .ok (.ldc2_w 26, 3) := by decide +kernel
theorem q_L_law_558 : decode m_L_law.2.1 558 = .ok (.land, 1) := by decide +kernel
theorem q_L_law_559 : decode m_L_law.2.1 559 = .ok (.lor, 1) := by decide +kernel
theorem q_L_law_560 : decode m_L_law.2.1 560 = .ok (.invokevirtual 58, 3) := by decide +kernel
theorem q_L_law_563 : decode m_L_law.2.1 563 = .ok (.aload_n 2, 1) := by decide +kernel
theorem q_L_law_564 : decode m_L_law.2.1 564 = .ok (.aload_n 0, 1) := by decide +kernel
theorem q_L_law_565 : decode m_L_law.2.1 565 = .ok (.iload_n 3, 1) := by decide +kernel
theorem q_L_law_566 : decode m_L_law.2.1 566 = .ok (.iconst 1, 1) := by decide +kernel
theorem q_L_law_567 : decode m_L_law.2.1 567 = .ok (.iadd, 1) := by decide +kernel
theorem q_L_law_568 : decode m_L_law.2.1 568 = .ok (.iaload, 1) := by decide +kernel
theorem q_L_law_569 : decode m_L_law.2.1 569 = .ok (.i2l, 1) := by decide +kernel
theorem q_L_law_570 : decode m_L_law.2.1 570 = .ok (.bipush 32, 2) := by decide +kernel
theorem q_L_law_572 : decode m_L_law.2.1 572 = .ok (.lshl, 1) := by decide +kernel
theorem q_L_law_573 : decode m_L_law.2.1 573 = .ok (.aload_n 0, 1) := by decide +kernel
theorem q_L_law_574 : decode m_L_law.2.1 574 = .ok (.iload_n 3, 1) := by decide +kernel
theorem q_L_law_575 : decode m_L_law.2.1 575 = .ok (.iconst 2, 1) := by decide +kernel
theorem q_L_law_576 : decode m_L_law.2.1 576 = .ok (.iadd, 1) := by decide +kernel
theorem q_L_law_577 : decode m_L_law.2.1 577 = .ok (.iaload, 1) := by decide +kernel
theorem q_L_law_578 : decode m_L_law.2.1 578 = .ok (.i2l, 1) := by decide +kernel
theorem q_L_law_579 : decode m_L_law.2.1 579 = .ok (.ldc2_w 26, 3) := by decide +kernel
theorem q_L_law_582 : decode m_L_law.2.1 582 = .ok (.land, 1) := by decide +kernel
theorem q_L_law_583 : decode m_L_law.2.1 583 = .ok (.lor, 1) := by decide +kernel
theorem q_L_law_584 : decode m_L_law.2.1 584 = .ok (.invokevirtual 62, 3) := by decide +kernel
theorem q_L_law_587 : decode m_L_law.2.1 587 = .ok (.if_icmp .eq 478, 3) := by decide +kernel
theorem q_L_law_590 : decode m_L_law.2.1 590 = .ok (.iconst 0, 1) := by decide +kernel
theorem q_L_law_591 : decode m_L_law.2.1 591 = .ok (.ireturn, 1) := by decide +kernel
theorem q_L_law_592 : decode m_L_law.2.1 592 = .ok (.aload_n 1, 1) := by decide +kernel
theorem q_L_law_593 : decode m_L_law.2.1 593 = .ok (.aload_n 0, 1) := by decide +kernel
theorem q_L_law_594 : decode m_L_law.2.1 594 = .ok (.iload_n 3, 1) := by decide +kernel
theorem q_L_law_595 : decode m_L_law.2.1 595 = .ok (.iconst 1, 1) := by decide +kernel
theorem q_L_law_596 : decode m_L_law.2.1 596 = .ok (.iadd, 1) := by decide +kernel
theorem q_L_law_597 : decode m_L_law.2.1 597 = .ok (.iaload, 1) := by decide +kernel
theorem q_L_law_598 : decode m_L_law.2.1 598 = .ok (.invokevirtual 63, 3) := by decide +kernel
theorem q_L_law_601 : decode m_L_law.2.1 601 = .ok (.aload_n 2, 1) := by decide +kernel
theorem q_L_law_602 : decode m_L_law.2.1 602 = .ok (.aload_n 0, 1) := by decide +kernel
theorem q_L_law_603 : decode m_L_law.2.1 603 = .ok (.iload_n 3, 1) := by decide +kernel
theorem q_L_law_604 : decode m_L_law.2.1 604 = .ok (.iconst 1, 1) := by decide +kernel
theorem q_L_law_605 : decode m_L_law.2.1 605 = .ok (.iadd, 1) := by decide +kernel
