theorem dL_law_163 : decode bL_law 163 = .ok (.lcmp, 1) := by decide +kernel
theorem dL_law_164 : decode bL_law 164 = .ok (.ifCond .eq 5, 3) := by decide +kernel
theorem dL_law_169 : decode bL_law 169 = .ok (.goto 1096, 3) := by decide +kernel
theorem dL_law_172 : decode bL_law 172 = .ok (.aload_n 1, 1) := by decide +kernel
theorem dL_law_173 : decode bL_law 173 = .ok (.aload_n 0, 1) := by decide +kernel
theorem dL_law_174 : decode bL_law 174 = .ok (.iload 4, 2) := by decide +kernel
theorem dL_law_176 : decode bL_law 176 = .ok (.iconst 1, 1) := by decide +kernel
theorem dL_law_177 : decode bL_law 177 = .ok (.iadd, 1) := by decide +kernel
theorem dL_law_178 : decode bL_law 178 = .ok (.iaload, 1) := by decide +kernel
theorem dL_law_179 : decode bL_law 179 = .ok (.aload_n 0, 1) := by decide +kernel
theorem dL_law_180 : decode bL_law 180 = .ok (.iload 4, 2) := by decide +kernel
theorem dL_law_182 : decode bL_law 182 = .ok (.iconst 2, 1) := by decide +kernel
theorem dL_law_183 : decode bL_law 183 = .ok (.iadd, 1) := by decide +kernel
theorem dL_law_184 : decode bL_law 184 = .ok (.iaload, 1) := by decide +kernel
theorem dL_law_185 : decode bL_law 185 = .ok (.i2l, 1) := by decide +kernel
theorem dL_law_186 : decode bL_law 186 = .ok (.bipush 32, 2) := by decide +kernel
theorem dL_law_188 : decode bL_law 188 = .ok (.lshl, 1) := by decide +kernel
theorem dL_law_189 : decode bL_law 189 = .ok (.aload_n 0, 1) := by decide +kernel
theorem dL_law_190 : decode bL_law 190 = .ok (.iload 4, 2) := by decide +kernel
theorem dL_law_192 : decode bL_law 192 = .ok (.iconst 3, 1) := by decide +kernel
theorem dL_law_193 : decode bL_law 193 = .ok (.iadd, 1) := by decide +kernel
theorem dL_law_194 : decode bL_law 194 = .ok (.iaload, 1) := by decide +kernel
theorem dL_law_195 : decode bL_law 195 = .ok (.i2l, 1) := by decide +kernel
theorem dL_law_196 : decode bL_law 196 = .ok (.ldc2_w 87, 3) := by decide +kernel
theorem dL_law_199 : decode bL_law 199 = .ok (.land, 1) := by decide +kernel
theorem dL_law_200 : decode bL_law 200 = .ok (.lor, 1) := by decide +kernel
theorem dL_law_201 : decode bL_law 201 = .ok (.aload_n 0, 1) := by decide +kernel
theorem dL_law_202 : decode bL_law 202 = .ok (.iload 4, 2) := by decide +kernel
theorem dL_law_204 : decode bL_law 204 = .ok (.iconst 4, 1) := by decide +kernel
theorem dL_law_205 : decode bL_law 205 = .ok (.iadd, 1) := by decide +kernel
theorem dL_law_206 : decode bL_law 206 = .ok (.iaload, 1) := by decide +kernel
theorem dL_law_207 : decode bL_law 207 = .ok (.i2l, 1) := by decide +kernel
theorem dL_law_208 : decode bL_law 208 = .ok (.bipush 32, 2) := by decide +kernel
theorem dL_law_210 : decode bL_law 210 = .ok (.lshl, 1) := by decide +kernel
theorem dL_law_211 : decode bL_law 211 = .ok (.aload_n 0, 1) := by decide +kernel
theorem dL_law_212 : decode bL_law 212 = .ok (.iload 4, 2) := by decide +kernel
theorem dL_law_214 : decode bL_law 214 = .ok (.iconst 5, 1) := by decide +kernel
theorem dL_law_215 : decode bL_law 215 = .ok (.iadd, 1) := by decide +kernel
theorem dL_law_216 : decode bL_law 216 = .ok (.iaload, 1) := by decide +kernel
theorem dL_law_217 : decode bL_law 217 = .ok (.i2l, 1) := by decide +kernel
theorem dL_law_218 : decode bL_law 218 = .ok (.ldc2_w 87, 3) := by decide +kernel
theorem dL_law_221 : decode bL_law 221 = .ok (.land, 1) := by decide +kernel
theorem dL_law_222 : decode bL_law 222 = .ok (.lor, 1) := by decide +kernel
theorem dL_law_223 : decode bL_law 223 = .ok (.aload_n 0, 1) := by decide +kernel
theorem dL_law_224 : decode bL_law 224 = .ok (.iload 4, 2) := by decide +kernel
theorem dL_law_226 : decode bL_law 226 = .ok (.bipush 6, 2) := by decide +kernel
theorem dL_law_228 : decode bL_law 228 = .ok (.iadd, 1) := by decide +kernel
theorem dL_law_229 : decode bL_law 229 = .ok (.iaload, 1) := by decide +kernel
theorem dL_law_230 : decode bL_law 230 = .ok (.aload_n 3, 1) := by decide +kernel
theorem dL_law_231 : decode bL_law 231 = .ok (.invokestatic 89, 3) := by decide +kernel
theorem dL_law_234 : decode bL_law 234 = .ok (.istore 5, 2) := by decide +kernel
theorem dL_law_236 : decode bL_law 236 = .ok (.aload_n 2, 1) := by decide +kernel
theorem dL_law_237 : decode bL_law 237 = .ok (.aload_n 0, 1) := by decide +kernel
theorem dL_law_238 : decode bL_law 238 = .ok (.iload 4, 2) := by decide +kernel
theorem dL_law_240 : decode bL_law 240 = .ok (.iconst 1, 1) := by decide +kernel
theorem dL_law_241 : decode bL_law 241 = .ok (.iadd, 1) := by decide +kernel
theorem dL_law_242 : decode bL_law 242 = .ok (.iaload, 1) := by decide +kernel
theorem dL_law_243 : decode bL_law 243 = .ok (.aload_n 0, 1) := by decide +kernel
theorem dL_law_244 : decode bL_law 244 = .ok (.iload 4, 2) := by decide +kernel
theorem dL_law_246 : decode bL_law 246 = .ok (.iconst 2, 1) := by decide +kernel
theorem dL_law_247 : decode bL_law 247 = .ok (.iadd, 1) := by decide +kernel
theorem dL_law_248 : decode bL_law 248 = .ok (.iaload, 1) := by decide +kernel
theorem dL_law_249 : decode bL_law 249 = .ok (.i2l, 1) := by decide +kernel
theorem dL_law_250 : decode bL_law 250 = .ok (.bipush 32, 2) := by decide +kernel
theorem dL_law_252 : decode bL_law 252 = .ok (.lshl, 1) := by decide +kernel
theorem dL_law_253 : decode bL_law 253 = .ok (.aload_n 0, 1) := by decide +kernel
theorem dL_law_254 : decode bL_law 254 = .ok (.iload 4, 2) := by decide +kernel
theorem dL_law_256 : decode bL_law 256 = .ok (.iconst 3, 1) := by decide +kernel
theorem dL_law_257 : decode bL_law 257 = .ok (.iadd, 1) := by decide +kernel
theorem dL_law_258 : decode bL_law 258 = .ok (.iaload, 1) := by decide +kernel
theorem dL_law_259 : decode bL_law 259 = .ok (.i2l, 1) := by decide +kernel
theorem dL_law_260 : decode bL_law 260 = .ok (.ldc2_w 87, 3) := by decide +kernel
theorem dL_law_263 : decode bL_law 263 = .ok (.land, 1) := by decide +kernel
theorem dL_law_264 : decode bL_law 264 = .ok (.lor, 1) := by decide +kernel
theorem dL_law_265 : decode bL_law 265 = .ok (.aload_n 0, 1) := by decide +kernel
theorem dL_law_266 : decode bL_law 266 = .ok (.iload 4, 2) := by decide +kernel
theorem dL_law_268 : decode bL_law 268 = .ok (.iconst 4, 1) := by decide +kernel
theorem dL_law_269 : decode bL_law 269 = .ok (.iadd, 1) := by decide +kernel
theorem dL_law_270 : decode bL_law 270 = .ok (.iaload, 1) := by decide +kernel
theorem dL_law_271 : decode bL_law 271 = .ok (.i2l, 1) := by decide +kernel
theorem dL_law_272 : decode bL_law 272 = .ok (.bipush 32, 2) := by decide +kernel
theorem dL_law_274 : decode bL_law 274 = .ok (.lshl, 1) := by decide +kernel
theorem dL_law_275 : decode bL_law 275 = .ok (.aload_n 0, 1) := by decide +kernel
theorem dL_law_276 : decode bL_law 276 = .ok (.iload 4, 2) := by decide +kernel
theorem dL_law_278 : decode bL_law 278 = .ok (.iconst 5, 1) := by decide +kernel
theorem dL_law_279 : decode bL_law 279 = .ok (.iadd, 1) := by decide +kernel
theorem dL_law_280 : decode bL_law 280 = .ok (.iaload, 1) := by decide +kernel
theorem dL_law_281 : decode bL_law 281 = .ok (.i2l, 1) := by decide +kernel
theorem dL_law_282 : decode bL_law 282 = .ok (.ldc2_w 87, 3) := by decide +kernel
theorem dL_law_285 : decode bL_law 285 = .ok (.land, 1) := by decide +kernel
theorem dL_law_286 : decode bL_law 286 = .ok (.lor, 1) := by decide +kernel
theorem dL_law_287 : decode bL_law 287 = .ok (.aload_n 0, 1) := by decide +kernel
theorem dL_law_288 : decode bL_law 288 = .ok (.iload 4, 2) := by decide +kernel
theorem dL_law_290 : decode bL_law 290 = .ok (.bipush 6, 2) := by decide +kernel
theorem dL_law_292 : decode bL_law 292 = .ok (.iadd, 1) := by decide +kernel
theorem dL_law_293 : decode bL_law 293 = .ok (.iaload, 1) := by decide +kernel
theorem dL_law_294 : decode bL_law 294 = .ok (.invokevirtual 92, 3) := by decide +kernel
theorem dL_law_297 : decode bL_law 297 = .ok (.istore 6, 2) := by decide +kernel
theorem dL_law_299 : decode bL_law 299 = .ok (.aload_n 2, 1) := by decide +kernel
theorem dL_law_300 : decode bL_law 300 = .ok (.invokevirtual 84, 3) := by decide +kernel
theorem dL_law_303 : decode bL_law 303 = .ok (.iload 5, 2) := by decide +kernel
theorem dL_law_305 : decode bL_law 305 = .ok (.if_icmp .eq 5, 3) := by decide +kernel
theorem dL_law_310 : decode bL_law 310 = .ok (.iload 5, 2) := by decide +kernel
theorem dL_law_312 : decode bL_law 312 = .ok (.ifCond .ne 22, 3) := by decide +kernel
theorem dL_law_334 : decode bL_law 334 = .ok (.goto 931, 3) := by decide +kernel
theorem dL_law_337 : decode bL_law 337 = .ok (.aload_n 1, 1) := by decide +kernel
theorem dL_law_338 : decode bL_law 338 = .ok (.aload_n 0, 1) := by decide +kernel
theorem dL_law_339 : decode bL_law 339 = .ok (.iload 4, 2) := by decide +kernel
theorem dL_law_341 : decode bL_law 341 = .ok (.iconst 1, 1) := by decide +kernel
theorem dL_law_342 : decode bL_law 342 = .ok (.iadd, 1) := by decide +kernel
theorem dL_law_343 : decode bL_law 343 = .ok (.iaload, 1) := by decide +kernel
theorem dL_law_344 : decode bL_law 344 = .ok (.aload_n 0, 1) := by decide +kernel
theorem dL_law_345 : decode bL_law 345 = .ok (.iload 4, 2) := by decide +kernel
theorem dL_law_347 : decode bL_law 347 = .ok (.iconst 2, 1) := by decide +kernel
theorem dL_law_348 : decode bL_law 348 = .ok (.iadd, 1) := by decide +kernel
theorem dL_law_349 : decode bL_law 349 = .ok (.iaload, 1) := by decide +kernel
theorem dL_law_350 : decode bL_law 350 = .ok (.aload_n 3, 1) := by decide +kernel
theorem dL_law_351 : decode bL_law 351 = .ok (.invokestatic 93, 3) := by decide +kernel
theorem dL_law_354 : decode bL_law 354 = .ok (.istore 5, 2) := by decide +kernel
theorem dL_law_356 : decode bL_law 356 = .ok (.aload_n 2, 1) := by decide +kernel
