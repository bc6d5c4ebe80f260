theorem dX10_init_0 : decode cX10_init 0 = .ok (.aload_n 0, 1) := by decide +kernel
theorem dX10_init_1 : decode cX10_init 1 = .ok (.invokespecial 1, 3) := by decide +kernel
theorem dX10_init_4 : decode cX10_init 4 = .ok (.aload_n 0, 1) := by decide +kernel
theorem dX10_init_5 : decode cX10_init 5 = .ok (.bipush 100, 2) := by decide +kernel
theorem dX10_init_7 : decode cX10_init 7 = .ok (.newarray .int, 2) := by decide +kernel
theorem dX10_init_9 : decode cX10_init 9 = .ok (.putfield 7, 3) := by decide +kernel
theorem dX10_init_12 : decode cX10_init 12 = .ok (.aload_n 0, 1) := by decide +kernel
theorem dX10_init_13 : decode cX10_init 13 = .ok (.bipush 100, 2) := by decide +kernel
theorem dX10_init_15 : decode cX10_init 15 = .ok (.newarray .int, 2) := by decide +kernel
theorem dX10_init_17 : decode cX10_init 17 = .ok (.putfield 13, 3) := by decide +kernel
theorem dX10_init_20 : decode cX10_init 20 = .ok (.aload_n 0, 1) := by decide +kernel
theorem dX10_init_21 : decode cX10_init 21 = .ok (.bipush 100, 2) := by decide +kernel
theorem dX10_init_23 : decode cX10_init 23 = .ok (.newarray .int, 2) := by decide +kernel
theorem dX10_init_25 : decode cX10_init 25 = .ok (.putfield 16, 3) := by decide +kernel
theorem dX10_init_28 : decode cX10_init 28 = .ok (.aload_n 0, 1) := by decide +kernel
theorem dX10_init_29 : decode cX10_init 29 = .ok (.bipush 100, 2) := by decide +kernel
theorem dX10_init_31 : decode cX10_init 31 = .ok (.newarray .int, 2) := by decide +kernel
theorem dX10_init_33 : decode cX10_init 33 = .ok (.putfield 19, 3) := by decide +kernel
theorem dX10_init_36 : decode cX10_init 36 = .ok (.aload_n 0, 1) := by decide +kernel
theorem dX10_init_37 : decode cX10_init 37 = .ok (.bipush 100, 2) := by decide +kernel
theorem dX10_init_39 : decode cX10_init 39 = .ok (.newarray .int, 2) := by decide +kernel
theorem dX10_init_41 : decode cX10_init 41 = .ok (.putfield 22, 3) := by decide +kernel
theorem dX10_init_44 : decode cX10_init 44 = .ok (.aload_n 0, 1) := by decide +kernel
theorem dX10_init_45 : decode cX10_init 45 = .ok (.bipush 100, 2) := by decide +kernel
theorem dX10_init_47 : decode cX10_init 47 = .ok (.newarray .int, 2) := by decide +kernel
theorem dX10_init_49 : decode cX10_init 49 = .ok (.putfield 25, 3) := by decide +kernel
theorem dX10_init_52 : decode cX10_init 52 = .ok (.aload_n 0, 1) := by decide +kernel
theorem dX10_init_53 : decode cX10_init 53 = .ok (.bipush 100, 2) := by decide +kernel
theorem dX10_init_55 : decode cX10_init 55 = .ok (.newarray .int, 2) := by decide +kernel
theorem dX10_init_57 : decode cX10_init 57 = .ok (.putfield 28, 3) := by decide +kernel
theorem dX10_init_60 : decode cX10_init 60 = .ok (.aload_n 0, 1) := by decide +kernel
theorem dX10_init_61 : decode cX10_init 61 = .ok (.bipush 100, 2) := by decide +kernel
theorem dX10_init_63 : decode cX10_init 63 = .ok (.newarray .int, 2) := by decide +kernel
theorem dX10_init_65 : decode cX10_init 65 = .ok (.putfield 31, 3) := by decide +kernel
theorem dX10_init_68 : decode cX10_init 68 = .ok (.aload_n 0, 1) := by decide +kernel
theorem dX10_init_69 : decode cX10_init 69 = .ok (.bipush 100, 2) := by decide +kernel
theorem dX10_init_71 : decode cX10_init 71 = .ok (.newarray .int, 2) := by decide +kernel
theorem dX10_init_73 : decode cX10_init 73 = .ok (.putfield 34, 3) := by decide +kernel
theorem dX10_init_76 : decode cX10_init 76 = .ok (.aload_n 0, 1) := by decide +kernel
theorem dX10_init_77 : decode cX10_init 77 = .ok (.bipush 10, 2) := by decide +kernel
theorem dX10_init_79 : decode cX10_init 79 = .ok (.newarray .boolean, 2) := by decide +kernel
theorem dX10_init_81 : decode cX10_init 81 = .ok (.putfield 37, 3) := by decide +kernel
theorem dX10_init_84 : decode cX10_init 84 = .ok (.aload_n 0, 1) := by decide +kernel
theorem dX10_init_85 : decode cX10_init 85 = .ok (.bipush 10, 2) := by decide +kernel
theorem dX10_init_87 : decode cX10_init 87 = .ok (.newarray .int, 2) := by decide +kernel
theorem dX10_init_89 : decode cX10_init 89 = .ok (.putfield 41, 3) := by decide +kernel
theorem dX10_init_92 : decode cX10_init 92 = .ok (.aload_n 0, 1) := by decide +kernel
theorem dX10_init_93 : decode cX10_init 93 = .ok (.bipush 10, 2) := by decide +kernel
theorem dX10_init_95 : decode cX10_init 95 = .ok (.newarray .int, 2) := by decide +kernel
theorem dX10_init_97 : decode cX10_init 97 = .ok (.putfield 44, 3) := by decide +kernel
theorem dX10_init_100 : decode cX10_init 100 = .ok (.aload_n 0, 1) := by decide +kernel
theorem dX10_init_101 : decode cX10_init 101 = .ok (.bipush 40, 2) := by decide +kernel
theorem dX10_init_103 : decode cX10_init 103 = .ok (.newarray .int, 2) := by decide +kernel
theorem dX10_init_105 : decode cX10_init 105 = .ok (.putfield 47, 3) := by decide +kernel
theorem dX10_init_108 : decode cX10_init 108 = .ok (.aload_n 0, 1) := by decide +kernel
theorem dX10_init_109 : decode cX10_init 109 = .ok (.bipush 10, 2) := by decide +kernel
theorem dX10_init_111 : decode cX10_init 111 = .ok (.newarray .int, 2) := by decide +kernel
theorem dX10_init_113 : decode cX10_init 113 = .ok (.putfield 50, 3) := by decide +kernel
theorem dX10_init_116 : decode cX10_init 116 = .ok (.aload_n 0, 1) := by decide +kernel
theorem dX10_init_117 : decode cX10_init 117 = .ok (.bipush 6, 2) := by decide +kernel
theorem dX10_init_119 : decode cX10_init 119 = .ok (.newarray .int, 2) := by decide +kernel
theorem dX10_init_121 : decode cX10_init 121 = .ok (.putfield 53, 3) := by decide +kernel
theorem dX10_init_124 : decode cX10_init 124 = .ok (.aload_n 0, 1) := by decide +kernel
theorem dX10_init_125 : decode cX10_init 125 = .ok (.bipush 6, 2) := by decide +kernel
theorem dX10_init_127 : decode cX10_init 127 = .ok (.newarray .int, 2) := by decide +kernel
theorem dX10_init_129 : decode cX10_init 129 = .ok (.putfield 56, 3) := by decide +kernel
theorem dX10_init_132 : decode cX10_init 132 = .ok (.aload_n 0, 1) := by decide +kernel
theorem dX10_init_133 : decode cX10_init 133 = .ok (.bipush 12, 2) := by decide +kernel
theorem dX10_init_135 : decode cX10_init 135 = .ok (.newarray .int, 2) := by decide +kernel
theorem dX10_init_137 : decode cX10_init 137 = .ok (.putfield 59, 3) := by decide +kernel
theorem dX10_init_140 : decode cX10_init 140 = .ok (.aload_n 0, 1) := by decide +kernel
theorem dX10_init_141 : decode cX10_init 141 = .ok (.bipush 6, 2) := by decide +kernel
theorem dX10_init_143 : decode cX10_init 143 = .ok (.newarray .int, 2) := by decide +kernel
theorem dX10_init_145 : decode cX10_init 145 = .ok (.putfield 62, 3) := by decide +kernel
theorem dX10_init_148 : decode cX10_init 148 = .ok (.aload_n 0, 1) := by decide +kernel
theorem dX10_init_149 : decode cX10_init 149 = .ok (.sipush 6560, 3) := by decide +kernel
theorem dX10_init_152 : decode cX10_init 152 = .ok (.newarray .int, 2) := by decide +kernel
theorem dX10_init_154 : decode cX10_init 154 = .ok (.putfield 65, 3) := by decide +kernel
theorem dX10_init_157 : decode cX10_init 157 = .ok (.aload_n 0, 1) := by decide +kernel
theorem dX10_init_158 : decode cX10_init 158 = .ok (.iconst 3, 1) := by decide +kernel
theorem dX10_init_159 : decode cX10_init 159 = .ok (.putfield 68, 3) := by decide +kernel
theorem dX10_init_162 : decode cX10_init 162 = .ok (.aload_n 0, 1) := by decide +kernel
theorem dX10_init_163 : decode cX10_init 163 = .ok (.iconst 1, 1) := by decide +kernel
theorem dX10_init_164 : decode cX10_init 164 = .ok (.putfield 72, 3) := by decide +kernel
theorem dX10_init_167 : decode cX10_init 167 = .ok (.aload_n 0, 1) := by decide +kernel
theorem dX10_init_168 : decode cX10_init 168 = .ok (.bipush 8, 2) := by decide +kernel
theorem dX10_init_170 : decode cX10_init 170 = .ok (.newarray .int, 2) := by decide +kernel
theorem dX10_init_172 : decode cX10_init 172 = .ok (.dup, 1) := by decide +kernel
theorem dX10_init_173 : decode cX10_init 173 = .ok (.iconst 0, 1) := by decide +kernel
theorem dX10_init_174 : decode cX10_init 174 = .ok (.iconst 2, 1) := by decide +kernel
theorem dX10_init_175 : decode cX10_init 175 = .ok (.iastore, 1) := by decide +kernel
theorem dX10_init_176 : decode cX10_init 176 = .ok (.dup, 1) := by decide +kernel
theorem dX10_init_177 : decode cX10_init 177 = .ok (.iconst 1, 1) := by decide +kernel
theorem dX10_init_178 : decode cX10_init 178 = .ok (.iconst 2, 1) := by decide +kernel
theorem dX10_init_179 : decode cX10_init 179 = .ok (.iastore, 1) := by decide +kernel
theorem dX10_init_180 : decode cX10_init 180 = .ok (.dup, 1) := by decide +kernel
theorem dX10_init_181 : decode cX10_init 181 = .ok (.iconst 2, 1) := by decide +kernel
theorem dX10_init_182 : decode cX10_init 182 = .ok (.iconst 2, 1) := by decide +kernel
theorem dX10_init_183 : decode cX10_init 183 = .ok (.iastore, 1) := by decide +kernel
theorem dX10_init_184 : decode cX10_init 184 = .ok (.dup, 1) := by decide +kernel
theorem dX10_init_185 : decode cX10_init 185 = .ok (.iconst 3, 1) := by decide +kernel
theorem dX10_init_186 : decode cX10_init 186 = .ok (.iconst 2, 1) := by decide +kernel
theorem dX10_init_187 : decode cX10_init 187 = .ok (.iastore, 1) := by decide +kernel
theorem dX10_init_188 : decode cX10_init 188 = .ok (.dup, 1) := by decide +kernel
theorem dX10_init_189 : decode cX10_init 189 = .ok (.iconst 4, 1) := by decide +kernel
theorem dX10_init_190 : decode cX10_init 190 = .ok (.iconst 2, 1) := by decide +kernel
theorem dX10_init_191 : decode cX10_init 191 = .ok (.iastore, 1) := by decide +kernel
theorem dX10_init_192 : decode cX10_init 192 = .ok (.dup, 1) := by decide +kernel
theorem dX10_init_193 : decode cX10_init 193 = .ok (.iconst 5, 1) := by decide +kernel
theorem dX10_init_194 : decode cX10_init 194 = .ok (.iconst 2, 1) := by decide +kernel
theorem dX10_init_195 : decode cX10_init 195 = .ok (.iastore, 1) := by decide +kernel
theorem dX10_init_196 : decode cX10_init 196 = .ok (.dup, 1) := by decide +kernel
theorem dX10_init_197 : decode cX10_init 197 = .ok (.bipush 6, 2) := by decide +kernel
theorem dX10_init_199 : decode cX10_init 199 = .ok (.iconst 2, 1) := by decide +kernel
theorem dX10_init_200 : decode cX10_init 200 = .ok (.iastore, 1) := by decide +kernel
theorem dX10_init_201 : decode cX10_init 201 = .ok (.dup, 1) := by decide +kernel
theorem dX10_init_202 : decode cX10_init 202 = .ok (.bipush 7, 2) := by decide +kernel
theorem dX10_init_204 : decode cX10_init 204 = .ok (.bipush 10, 2) := by decide +kernel
theorem dX10_init_206 : decode cX10_init 206 = .ok (.iastore, 1) := by decide +kernel
theorem dX10_init_207 : decode cX10_init 207 = .ok (.putfield 75, 3) := by decide +kernel
theorem dX10_init_210 : decode cX10_init 210 = .ok (.aload_n 0, 1) := by decide +kernel
theorem dX10_init_211 : decode cX10_init 211 = .ok (.sipush 200, 3) := by decide +kernel
theorem dX10_init_214 : decode cX10_init 214 = .ok (.newarray .int, 2) := by decide +kernel
theorem dX10_init_216 : decode cX10_init 216 = .ok (.putfield 78, 3) := by decide +kernel
theorem dX10_init_219 : decode cX10_init 219 = .ok (.aload_n 0, 1) := by decide +kernel
theorem dX10_init_220 : decode cX10_init 220 = .ok (.sipush 200, 3) := by decide +kernel
theorem dX10_init_223 : decode cX10_init 223 = .ok (.newarray .int, 2) := by decide +kernel
theorem dX10_init_225 : decode cX10_init 225 = .ok (.putfield 81, 3) := by decide +kernel
theorem dX10_init_228 : decode cX10_init 228 = .ok (.aload_n 0, 1) := by decide +kernel
theorem dX10_init_229 : decode cX10_init 229 = .ok (.sipush 200, 3) := by decide +kernel
theorem dX10_init_232 : decode cX10_init 232 = .ok (.newarray .int, 2) := by decide +kernel
theorem dX10_init_234 : decode cX10_init 234 = .ok (.putfield 84, 3) := by decide +kernel
theorem dX10_init_237 : decode cX10_init 237 = .ok (.aload_n 0, 1) := by decide +kernel
theorem dX10_init_238 : decode cX10_init 238 = .ok (.bipush 100, 2) := by decide +kernel
theorem dX10_init_240 : decode cX10_init 240 = .ok (.newarray .byte, 2) := by decide +kernel
theorem dX10_init_242 : decode cX10_init 242 = .ok (.putfield 87, 3) := by decide +kernel
theorem dX10_init_245 : decode cX10_init 245 = .ok (.aload_n 0, 1) := by decide +kernel
theorem dX10_init_246 : decode cX10_init 246 = .ok (.iconst 4, 1) := by decide +kernel
theorem dX10_init_247 : decode cX10_init 247 = .ok (.newarray .int, 2) := by decide +kernel
theorem dX10_init_249 : decode cX10_init 249 = .ok (.putfield 91, 3) := by decide +kernel
theorem dX10_init_252 : decode cX10_init 252 = .ok (.aload_n 0, 1) := by decide +kernel
theorem dX10_init_253 : decode cX10_init 253 = .ok (.bipush 45, 2) := by decide +kernel
theorem dX10_init_255 : decode cX10_init 255 = .ok (.newarray .byte, 2) := by decide +kernel
theorem dX10_init_257 : decode cX10_init 257 = .ok (.dup, 1) := by decide +kernel
theorem dX10_init_258 : decode cX10_init 258 = .ok (.iconst 0, 1) := by decide +kernel
theorem dX10_init_259 : decode cX10_init 259 = .ok (.bipush 97, 2) := by decide +kernel
theorem dX10_init_261 : decode cX10_init 261 = .ok (.bastore, 1) := by decide +kernel
theorem dX10_init_262 : decode cX10_init 262 = .ok (.dup, 1) := by decide +kernel
theorem dX10_init_263 : decode cX10_init 263 = .ok (.iconst 1, 1) := by decide +kernel
theorem dX10_init_264 : decode cX10_init 264 = .ok (.bipush 108, 2) := by decide +kernel
theorem dX10_init_266 : decode cX10_init 266 = .ok (.bastore, 1) := by decide +kernel
theorem dX10_init_267 : decode cX10_init 267 = .ok (.dup, 1) := by decide +kernel
theorem dX10_init_268 : decode cX10_init 268 = .ok (.iconst 2, 1) := by decide +kernel
theorem dX10_init_269 : decode cX10_init 269 = .ok (.bipush 108, 2) := by decide +kernel
theorem dX10_init_271 : decode cX10_init 271 = .ok (.bastore, 1) := by decide +kernel
theorem dX10_init_272 : decode cX10_init 272 = .ok (.dup, 1) := by decide +kernel
theorem dX10_init_273 : decode cX10_init 273 = .ok (.iconst 3, 1) := by decide +kernel
theorem dX10_init_274 : decode cX10_init 274 = .ok (.iconst 0, 1) := by decide +kernel
theorem dX10_init_275 : decode cX10_init 275 = .ok (.bastore, 1) := by decide +kernel
theorem dX10_init_276 : decode cX10_init 276 = .ok (.dup, 1) := by decide +kernel
theorem dX10_init_277 : decode cX10_init 277 = .ok (.iconst 4, 1) := by decide +kernel
theorem dX10_init_278 : decode cX10_init 278 = .ok (.iconst 0, 1) := by decide +kernel
theorem dX10_init_279 : decode cX10_init 279 = .ok (.bastore, 1) := by decide +kernel
theorem dX10_init_280 : decode cX10_init 280 = .ok (.dup, 1) := by decide +kernel
theorem dX10_init_281 : decode cX10_init 281 = .ok (.iconst 5, 1) := by decide +kernel
theorem dX10_init_282 : decode cX10_init 282 = .ok (.bipush 105, 2) := by decide +kernel
theorem dX10_init_284 : decode cX10_init 284 = .ok (.bastore, 1) := by decide +kernel
theorem dX10_init_285 : decode cX10_init 285 = .ok (.dup, 1) := by decide +kernel
theorem dX10_init_286 : decode cX10_init 286 = .ok (.bipush 6, 2) := by decide +kernel
theorem dX10_init_288 : decode cX10_init 288 = .ok (.bipush 102, 2) := by decide +kernel
theorem dX10_init_290 : decode cX10_init 290 = .ok (.bastore, 1) := by decide +kernel
theorem dX10_init_291 : decode cX10_init 291 = .ok (.dup, 1) := by decide +kernel
theorem dX10_init_292 : decode cX10_init 292 = .ok (.bipush 7, 2) := by decide +kernel
theorem dX10_init_294 : decode cX10_init 294 = .ok (.iconst 0, 1) := by decide +kernel
theorem dX10_init_295 : decode cX10_init 295 = .ok (.bastore, 1) := by decide +kernel
theorem dX10_init_296 : decode cX10_init 296 = .ok (.dup, 1) := by decide +kernel
theorem dX10_init_297 : decode cX10_init 297 = .ok (.bipush 8, 2) := by decide +kernel
theorem dX10_init_299 : decode cX10_init 299 = .ok (.iconst 0, 1) := by decide +kernel
theorem dX10_init_300 : decode cX10_init 300 = .ok (.bastore, 1) := by decide +kernel
theorem dX10_init_301 : decode cX10_init 301 = .ok (.dup, 1) := by decide +kernel
theorem dX10_init_302 : decode cX10_init 302 = .ok (.bipush 9, 2) := by decide +kernel
theorem dX10_init_304 : decode cX10_init 304 = .ok (.iconst 0, 1) := by decide +kernel
theorem dX10_init_305 : decode cX10_init 305 = .ok (.bastore, 1) := by decide +kernel
theorem dX10_init_306 : decode cX10_init 306 = .ok (.dup, 1) := by decide +kernel
theorem dX10_init_307 : decode cX10_init 307 = .ok (.bipush 10, 2) := by decide +kernel
theorem dX10_init_309 : decode cX10_init 309 = .ok (.bipush 97, 2) := by decide +kernel
theorem dX10_init_311 : decode cX10_init 311 = .ok (.bastore, 1) := by decide +kernel
theorem dX10_init_312 : decode cX10_init 312 = .ok (.dup, 1) := by decide +kernel
theorem dX10_init_313 : decode cX10_init 313 = .ok (.bipush 11, 2) := by decide +kernel
theorem dX10_init_315 : decode cX10_init 315 = .ok (.bipush 110, 2) := by decide +kernel
theorem dX10_init_317 : decode cX10_init 317 = .ok (.bastore, 1) := by decide +kernel
theorem dX10_init_318 : decode cX10_init 318 = .ok (.dup, 1) := by decide +kernel
theorem dX10_init_319 : decode cX10_init 319 = .ok (.bipush 12, 2) := by decide +kernel
theorem dX10_init_321 : decode cX10_init 321 = .ok (.bipush 100, 2) := by decide +kernel
theorem dX10_init_323 : decode cX10_init 323 = .ok (.bastore, 1) := by decide +kernel
theorem dX10_init_324 : decode cX10_init 324 = .ok (.dup, 1) := by decide +kernel
theorem dX10_init_325 : decode cX10_init 325 = .ok (.bipush 13, 2) := by decide +kernel
theorem dX10_init_327 : decode cX10_init 327 = .ok (.iconst 0, 1) := by decide +kernel
theorem dX10_init_328 : decode cX10_init 328 = .ok (.bastore, 1) := by decide +kernel
theorem dX10_init_329 : decode cX10_init 329 = .ok (.dup, 1) := by decide +kernel
theorem dX10_init_330 : decode cX10_init 330 = .ok (.bipush 14, 2) := by decide +kernel
theorem dX10_init_332 : decode cX10_init 332 = .ok (.iconst 0, 1) := by decide +kernel
theorem dX10_init_333 : decode cX10_init 333 = .ok (.bastore, 1) := by decide +kernel
theorem dX10_init_334 : decode cX10_init 334 = .ok (.dup, 1) := by decide +kernel
theorem dX10_init_335 : decode cX10_init 335 = .ok (.bipush 15, 2) := by decide +kernel
theorem dX10_init_337 : decode cX10_init 337 = .ok (.bipush 116, 2) := by decide +kernel
theorem dX10_init_339 : decode cX10_init 339 = .ok (.bastore, 1) := by decide +kernel
theorem dX10_init_340 : decode cX10_init 340 = .ok (.dup, 1) := by decide +kernel
theorem dX10_init_341 : decode cX10_init 341 = .ok (.bipush 16, 2) := by decide +kernel
theorem dX10_init_343 : decode cX10_init 343 = .ok (.bipush 111, 2) := by decide +kernel
theorem dX10_init_345 : decode cX10_init 345 = .ok (.bastore, 1) := by decide +kernel
theorem dX10_init_346 : decode cX10_init 346 = .ok (.dup, 1) := by decide +kernel
theorem dX10_init_347 : decode cX10_init 347 = .ok (.bipush 17, 2) := by decide +kernel
theorem dX10_init_349 : decode cX10_init 349 = .ok (.iconst 0, 1) := by decide +kernel
theorem dX10_init_350 : decode cX10_init 350 = .ok (.bastore, 1) := by decide +kernel
theorem dX10_init_351 : decode cX10_init 351 = .ok (.dup, 1) := by decide +kernel
theorem dX10_init_352 : decode cX10_init 352 = .ok (.bipush 18, 2) := by decide +kernel
theorem dX10_init_354 : decode cX10_init 354 = .ok (.iconst 0, 1) := by decide +kernel
theorem dX10_init_355 : decode cX10_init 355 = .ok (.bastore, 1) := by decide +kernel
theorem dX10_init_356 : decode cX10_init 356 = .ok (.dup, 1) := by decide +kernel
theorem dX10_init_357 : decode cX10_init 357 = .ok (.bipush 19, 2) := by decide +kernel
theorem dX10_init_359 : decode cX10_init 359 = .ok (.iconst 0, 1) := by decide +kernel
theorem dX10_init_360 : decode cX10_init 360 = .ok (.bastore, 1) := by decide +kernel
theorem dX10_init_361 : decode cX10_init 361 = .ok (.dup, 1) := by decide +kernel
theorem dX10_init_362 : decode cX10_init 362 = .ok (.bipush 20, 2) := by decide +kernel
theorem dX10_init_364 : decode cX10_init 364 = .ok (.bipush 102, 2) := by decide +kernel
theorem dX10_init_366 : decode cX10_init 366 = .ok (.bastore, 1) := by decide +kernel
theorem dX10_init_367 : decode cX10_init 367 = .ok (.dup, 1) := by decide +kernel
theorem dX10_init_368 : decode cX10_init 368 = .ok (.bipush 21, 2) := by decide +kernel
theorem dX10_init_370 : decode cX10_init 370 = .ok (.bipush 114, 2) := by decide +kernel
theorem dX10_init_372 : decode cX10_init 372 = .ok (.bastore, 1) := by decide +kernel
theorem dX10_init_373 : decode cX10_init 373 = .ok (.dup, 1) := by decide +kernel
theorem dX10_init_374 : decode cX10_init 374 = .ok (.bipush 22, 2) := by decide +kernel
theorem dX10_init_376 : decode cX10_init 376 = .ok (.bipush 111, 2) := by decide +kernel
theorem dX10_init_378 : decode cX10_init 378 = .ok (.bastore, 1) := by decide +kernel
theorem dX10_init_379 : decode cX10_init 379 = .ok (.dup, 1) := by decide +kernel
theorem dX10_init_380 : decode cX10_init 380 = .ok (.bipush 23, 2) := by decide +kernel
theorem dX10_init_382 : decode cX10_init 382 = .ok (.bipush 109, 2) := by decide +kernel
theorem dX10_init_384 : decode cX10_init 384 = .ok (.bastore, 1) := by decide +kernel
theorem dX10_init_385 : decode cX10_init 385 = .ok (.dup, 1) := by decide +kernel
theorem dX10_init_386 : decode cX10_init 386 = .ok (.bipush 24, 2) := by decide +kernel
theorem dX10_init_388 : decode cX10_init 388 = .ok (.iconst 0, 1) := by decide +kernel
theorem dX10_init_389 : decode cX10_init 389 = .ok (.bastore, 1) := by decide +kernel
theorem dX10_init_390 : decode cX10_init 390 = .ok (.dup, 1) := by decide +kernel
theorem dX10_init_391 : decode cX10_init 391 = .ok (.bipush 25, 2) := by decide +kernel
theorem dX10_init_393 : decode cX10_init 393 = .ok (.bipush 108, 2) := by decide +kernel
theorem dX10_init_395 : decode cX10_init 395 = .ok (.bastore, 1) := by decide +kernel
theorem dX10_init_396 : decode cX10_init 396 = .ok (.dup, 1) := by decide +kernel
theorem dX10_init_397 : decode cX10_init 397 = .ok (.bipush 26, 2) := by decide +kernel
theorem dX10_init_399 : decode cX10_init 399 = .ok (.bipush 105, 2) := by decide +kernel
theorem dX10_init_401 : decode cX10_init 401 = .ok (.bastore, 1) := by decide +kernel
theorem dX10_init_402 : decode cX10_init 402 = .ok (.dup, 1) := by decide +kernel
theorem dX10_init_403 : decode cX10_init 403 = .ok (.bipush 27, 2) := by decide +kernel
theorem dX10_init_405 : decode cX10_init 405 = .ok (.bipush 115, 2) := by decide +kernel
theorem dX10_init_407 : decode cX10_init 407 = .ok (.bastore, 1) := by decide +kernel
theorem dX10_init_408 : decode cX10_init 408 = .ok (.dup, 1) := by decide +kernel
theorem dX10_init_409 : decode cX10_init 409 = .ok (.bipush 28, 2) := by decide +kernel
theorem dX10_init_411 : decode cX10_init 411 = .ok (.bipush 116, 2) := by decide +kernel
theorem dX10_init_413 : decode cX10_init 413 = .ok (.bastore, 1) := by decide +kernel
theorem dX10_init_414 : decode cX10_init 414 = .ok (.dup, 1) := by decide +kernel
theorem dX10_init_415 : decode cX10_init 415 = .ok (.bipush 29, 2) := by decide +kernel
theorem dX10_init_417 : decode cX10_init 417 = .ok (.iconst 0, 1) := by decide +kernel
theorem dX10_init_418 : decode cX10_init 418 = .ok (.bastore, 1) := by decide +kernel
theorem dX10_init_419 : decode cX10_init 419 = .ok (.dup, 1) := by decide +kernel
theorem dX10_init_420 : decode cX10_init 420 = .ok (.bipush 30, 2) := by decide +kernel
theorem dX10_init_422 : decode cX10_init 422 = .ok (.bipush 119, 2) := by decide +kernel
theorem dX10_init_424 : decode cX10_init 424 = .ok (.bastore, 1) := by decide +kernel
theorem dX10_init_425 : decode cX10_init 425 = .ok (.dup, 1) := by decide +kernel
theorem dX10_init_426 : decode cX10_init 426 = .ok (.bipush 31, 2) := by decide +kernel
theorem dX10_init_428 : decode cX10_init 428 = .ok (.bipush 111, 2) := by decide +kernel
theorem dX10_init_430 : decode cX10_init 430 = .ok (.bastore, 1) := by decide +kernel
theorem dX10_init_431 : decode cX10_init 431 = .ok (.dup, 1) := by decide +kernel
theorem dX10_init_432 : decode cX10_init 432 = .ok (.bipush 32, 2) := by decide +kernel
theorem dX10_init_434 : decode cX10_init 434 = .ok (.bipush 114, 2) := by decide +kernel
theorem dX10_init_436 : decode cX10_init 436 = .ok (.bastore, 1) := by decide +kernel
theorem dX10_init_437 : decode cX10_init 437 = .ok (.dup, 1) := by decide +kernel
theorem dX10_init_438 : decode cX10_init 438 = .ok (.bipush 33, 2) := by decide +kernel
theorem dX10_init_440 : decode cX10_init 440 = .ok (.bipush 100, 2) := by decide +kernel
theorem dX10_init_442 : decode cX10_init 442 = .ok (.bastore, 1) := by decide +kernel
theorem dX10_init_443 : decode cX10_init 443 = .ok (.dup, 1) := by decide +kernel
theorem dX10_init_444 : decode cX10_init 444 = .ok (.bipush 34, 2) := by decide +kernel
theorem dX10_init_446 : decode cX10_init 446 = .ok (.iconst 0, 1) := by decide +kernel
theorem dX10_init_447 : decode cX10_init 447 = .ok (.bastore, 1) := by decide +kernel
theorem dX10_init_448 : decode cX10_init 448 = .ok (.dup, 1) := by decide +kernel
theorem dX10_init_449 : decode cX10_init 449 = .ok (.bipush 35, 2) := by decide +kernel
theorem dX10_init_451 : decode cX10_init 451 = .ok (.bipush 97, 2) := by decide +kernel
theorem dX10_init_453 : decode cX10_init 453 = .ok (.bastore, 1) := by decide +kernel
theorem dX10_init_454 : decode cX10_init 454 = .ok (.dup, 1) := by decide +kernel
theorem dX10_init_455 : decode cX10_init 455 = .ok (.bipush 36, 2) := by decide +kernel
theorem dX10_init_457 : decode cX10_init 457 = .ok (.bipush 98, 2) := by decide +kernel
theorem dX10_init_459 : decode cX10_init 459 = .ok (.bastore, 1) := by decide +kernel
theorem dX10_init_460 : decode cX10_init 460 = .ok (.dup, 1) := by decide +kernel
theorem dX10_init_461 : decode cX10_init 461 = .ok (.bipush 37, 2) := by decide +kernel
theorem dX10_init_463 : decode cX10_init 463 = .ok (.bipush 111, 2) := by decide +kernel
theorem dX10_init_465 : decode cX10_init 465 = .ok (.bastore, 1) := by decide +kernel
theorem dX10_init_466 : decode cX10_init 466 = .ok (.dup, 1) := by decide +kernel
theorem dX10_init_467 : decode cX10_init 467 = .ok (.bipush 38, 2) := by decide +kernel
theorem dX10_init_469 : decode cX10_init 469 = .ok (.bipush 118, 2) := by decide +kernel
theorem dX10_init_471 : decode cX10_init 471 = .ok (.bastore, 1) := by decide +kernel
theorem dX10_init_472 : decode cX10_init 472 = .ok (.dup, 1) := by decide +kernel
theorem dX10_init_473 : decode cX10_init 473 = .ok (.bipush 39, 2) := by decide +kernel
theorem dX10_init_475 : decode cX10_init 475 = .ok (.bipush 101, 2) := by decide +kernel
theorem dX10_init_477 : decode cX10_init 477 = .ok (.bastore, 1) := by decide +kernel
theorem dX10_init_478 : decode cX10_init 478 = .ok (.dup, 1) := by decide +kernel
theorem dX10_init_479 : decode cX10_init 479 = .ok (.bipush 40, 2) := by decide +kernel
theorem dX10_init_481 : decode cX10_init 481 = .ok (.bipush 98, 2) := by decide +kernel
theorem dX10_init_483 : decode cX10_init 483 = .ok (.bastore, 1) := by decide +kernel
theorem dX10_init_484 : decode cX10_init 484 = .ok (.dup, 1) := by decide +kernel
theorem dX10_init_485 : decode cX10_init 485 = .ok (.bipush 41, 2) := by decide +kernel
theorem dX10_init_487 : decode cX10_init 487 = .ok (.bipush 101, 2) := by decide +kernel
theorem dX10_init_489 : decode cX10_init 489 = .ok (.bastore, 1) := by decide +kernel
theorem dX10_init_490 : decode cX10_init 490 = .ok (.dup, 1) := by decide +kernel
theorem dX10_init_491 : decode cX10_init 491 = .ok (.bipush 42, 2) := by decide +kernel
theorem dX10_init_493 : decode cX10_init 493 = .ok (.bipush 108, 2) := by decide +kernel
theorem dX10_init_495 : decode cX10_init 495 = .ok (.bastore, 1) := by decide +kernel
theorem dX10_init_496 : decode cX10_init 496 = .ok (.dup, 1) := by decide +kernel
theorem dX10_init_497 : decode cX10_init 497 = .ok (.bipush 43, 2) := by decide +kernel
theorem dX10_init_499 : decode cX10_init 499 = .ok (.bipush 111, 2) := by decide +kernel
theorem dX10_init_501 : decode cX10_init 501 = .ok (.bastore, 1) := by decide +kernel
theorem dX10_init_502 : decode cX10_init 502 = .ok (.dup, 1) := by decide +kernel
theorem dX10_init_503 : decode cX10_init 503 = .ok (.bipush 44, 2) := by decide +kernel
theorem dX10_init_505 : decode cX10_init 505 = .ok (.bipush 119, 2) := by decide +kernel
theorem dX10_init_507 : decode cX10_init 507 = .ok (.bastore, 1) := by decide +kernel
theorem dX10_init_508 : decode cX10_init 508 = .ok (.putfield 94, 3) := by decide +kernel
theorem dX10_init_511 : decode cX10_init 511 = .ok (.aload_n 0, 1) := by decide +kernel
theorem dX10_init_512 : decode cX10_init 512 = .ok (.bipush 100, 2) := by decide +kernel
theorem dX10_init_514 : decode cX10_init 514 = .ok (.newarray .boolean, 2) := by decide +kernel
theorem dX10_init_516 : decode cX10_init 516 = .ok (.putfield 97, 3) := by decide +kernel
theorem dX10_init_519 : decode cX10_init 519 = .ok (.aload_n 0, 1) := by decide +kernel
theorem dX10_init_520 : decode cX10_init 520 = .ok (.bipush 8, 2) := by decide +kernel
theorem dX10_init_522 : decode cX10_init 522 = .ok (.newarray .int, 2) := by decide +kernel
theorem dX10_init_524 : decode cX10_init 524 = .ok (.putfield 100, 3) := by decide +kernel
theorem dX10_init_527 : decode cX10_init 527 = .ok (.aload_n 0, 1) := by decide +kernel
theorem dX10_init_528 : decode cX10_init 528 = .ok (.bipush 6, 2) := by decide +kernel
theorem dX10_init_530 : decode cX10_init 530 = .ok (.newarray .int, 2) := by decide +kernel
theorem dX10_init_532 : decode cX10_init 532 = .ok (.putfield 103, 3) := by decide +kernel
theorem dX10_init_535 : decode cX10_init 535 = .ok (.return_, 1) := by decide +kernel
theorem dX10_in_0 : decode cX10_in 0 = .ok (.iload_n 0, 1) := by decide +kernel
theorem dX10_in_1 : decode cX10_in 1 = .ok (.iload_n 1, 1) := by decide +kernel
theorem dX10_in_2 : decode cX10_in 2 = .ok (.if_icmp .lt 12, 3) := by decide +kernel
theorem dX10_in_5 : decode cX10_in 5 = .ok (.iload_n 0, 1) := by decide +kernel
theorem dX10_in_6 : decode cX10_in 6 = .ok (.iload_n 2, 1) := by decide +kernel
theorem dX10_in_7 : decode cX10_in 7 = .ok (.if_icmp .gt 7, 3) := by decide +kernel
theorem dX10_in_10 : decode cX10_in 10 = .ok (.iconst 1, 1) := by decide +kernel
theorem dX10_in_11 : decode cX10_in 11 = .ok (.goto 4, 3) := by decide +kernel
theorem dX10_in_14 : decode cX10_in 14 = .ok (.iconst 0, 1) := by decide +kernel
theorem dX10_in_15 : decode cX10_in 15 = .ok (.ireturn, 1) := by decide +kernel
theorem dX10_passes_0 : decode cX10_passes 0 = .ok (.iload_n 2, 1) := by decide +kernel
theorem dX10_passes_1 : decode cX10_passes 1 = .ok (.bipush 16, 2) := by decide +kernel
theorem dX10_passes_3 : decode cX10_passes 3 = .ok (.if_icmp .ge 19, 3) := by decide +kernel
theorem dX10_passes_6 : decode cX10_passes 6 = .ok (.aload_n 0, 1) := by decide +kernel
theorem dX10_passes_7 : decode cX10_passes 7 = .ok (.getfield 7, 3) := by decide +kernel
theorem dX10_passes_10 : decode cX10_passes 10 = .ok (.iload_n 1, 1) := by decide +kernel
theorem dX10_passes_11 : decode cX10_passes 11 = .ok (.iaload, 1) := by decide +kernel
theorem dX10_passes_12 : decode cX10_passes 12 = .ok (.iload_n 2, 1) := by decide +kernel
theorem dX10_passes_13 : decode cX10_passes 13 = .ok (.if_icmp .ne 7, 3) := by decide +kernel
theorem dX10_passes_16 : decode cX10_passes 16 = .ok (.iconst 1, 1) := by decide +kernel
theorem dX10_passes_17 : decode cX10_passes 17 = .ok (.goto 4, 3) := by decide +kernel
theorem dX10_passes_20 : decode cX10_passes 20 = .ok (.iconst 0, 1) := by decide +kernel
theorem dX10_passes_21 : decode cX10_passes 21 = .ok (.ireturn, 1) := by decide +kernel
theorem dX10_passes_22 : decode cX10_passes 22 = .ok (.iload_n 2, 1) := by decide +kernel
theorem dX10_passes_23 : decode cX10_passes 23 = .ok (.bipush 24, 2) := by decide +kernel
theorem dX10_passes_25 : decode cX10_passes 25 = .ok (.if_icmp .ge 22, 3) := by decide +kernel
theorem dX10_passes_28 : decode cX10_passes 28 = .ok (.aload_n 0, 1) := by decide +kernel
theorem dX10_passes_29 : decode cX10_passes 29 = .ok (.getfield 13, 3) := by decide +kernel
theorem dX10_passes_32 : decode cX10_passes 32 = .ok (.iload_n 1, 1) := by decide +kernel
theorem dX10_passes_33 : decode cX10_passes 33 = .ok (.iaload, 1) := by decide +kernel
theorem dX10_passes_34 : decode cX10_passes 34 = .ok (.iload_n 2, 1) := by decide +kernel
theorem dX10_passes_35 : decode cX10_passes 35 = .ok (.bipush 16, 2) := by decide +kernel
theorem dX10_passes_37 : decode cX10_passes 37 = .ok (.isub, 1) := by decide +kernel
theorem dX10_passes_38 : decode cX10_passes 38 = .ok (.if_icmp .ne 7, 3) := by decide +kernel
theorem dX10_passes_41 : decode cX10_passes 41 = .ok (.iconst 1, 1) := by decide +kernel
theorem dX10_passes_42 : decode cX10_passes 42 = .ok (.goto 4, 3) := by decide +kernel
theorem dX10_passes_45 : decode cX10_passes 45 = .ok (.iconst 0, 1) := by decide +kernel
theorem dX10_passes_46 : decode cX10_passes 46 = .ok (.ireturn, 1) := by decide +kernel
theorem dX10_passes_47 : decode cX10_passes 47 = .ok (.iload_n 2, 1) := by decide +kernel
theorem dX10_passes_48 : decode cX10_passes 48 = .ok (.bipush 40, 2) := by decide +kernel
theorem dX10_passes_50 : decode cX10_passes 50 = .ok (.if_icmp .ge 26, 3) := by decide +kernel
theorem dX10_passes_53 : decode cX10_passes 53 = .ok (.aload_n 0, 1) := by decide +kernel
theorem dX10_passes_54 : decode cX10_passes 54 = .ok (.getfield 19, 3) := by decide +kernel
theorem dX10_passes_57 : decode cX10_passes 57 = .ok (.iload_n 1, 1) := by decide +kernel
theorem dX10_passes_58 : decode cX10_passes 58 = .ok (.iaload, 1) := by decide +kernel
theorem dX10_passes_59 : decode cX10_passes 59 = .ok (.iload_n 2, 1) := by decide +kernel
theorem dX10_passes_60 : decode cX10_passes 60 = .ok (.bipush 24, 2) := by decide +kernel
theorem dX10_passes_62 : decode cX10_passes 62 = .ok (.isub, 1) := by decide +kernel
theorem dX10_passes_63 : decode cX10_passes 63 = .ok (.ishr, 1) := by decide +kernel
theorem dX10_passes_64 : decode cX10_passes 64 = .ok (.iconst 1, 1) := by decide +kernel
theorem dX10_passes_65 : decode cX10_passes 65 = .ok (.iand, 1) := by decide +kernel
theorem dX10_passes_66 : decode cX10_passes 66 = .ok (.iconst 1, 1) := by decide +kernel
theorem dX10_passes_67 : decode cX10_passes 67 = .ok (.if_icmp .ne 7, 3) := by decide +kernel
theorem dX10_passes_70 : decode cX10_passes 70 = .ok (.iconst 1, 1) := by decide +kernel
theorem dX10_passes_71 : decode cX10_passes 71 = .ok (.goto 4, 3) := by decide +kernel
theorem dX10_passes_74 : decode cX10_passes 74 = .ok (.iconst 0, 1) := by decide +kernel
theorem dX10_passes_75 : decode cX10_passes 75 = .ok (.ireturn, 1) := by decide +kernel
theorem dX10_passes_76 : decode cX10_passes 76 = .ok (.iload_n 2, 1) := by decide +kernel
theorem dX10_passes_77 : decode cX10_passes 77 = .ok (.sipush 1100, 3) := by decide +kernel
theorem dX10_passes_80 : decode cX10_passes 80 = .ok (.if_icmp .ge 24, 3) := by decide +kernel
theorem dX10_passes_83 : decode cX10_passes 83 = .ok (.aload_n 0, 1) := by decide +kernel
theorem dX10_passes_84 : decode cX10_passes 84 = .ok (.getfield 16, 3) := by decide +kernel
theorem dX10_passes_87 : decode cX10_passes 87 = .ok (.iload_n 1, 1) := by decide +kernel
theorem dX10_passes_88 : decode cX10_passes 88 = .ok (.iaload, 1) := by decide +kernel
theorem dX10_passes_89 : decode cX10_passes 89 = .ok (.iload_n 2, 1) := by decide +kernel
theorem dX10_passes_90 : decode cX10_passes 90 = .ok (.bipush 100, 2) := by decide +kernel
theorem dX10_passes_92 : decode cX10_passes 92 = .ok (.isub, 1) := by decide +kernel
theorem dX10_passes_93 : decode cX10_passes 93 = .ok (.if_icmp .le 7, 3) := by decide +kernel
theorem dX10_passes_96 : decode cX10_passes 96 = .ok (.iconst 1, 1) := by decide +kernel
theorem dX10_passes_97 : decode cX10_passes 97 = .ok (.goto 26, 3) := by decide +kernel
theorem dX10_passes_100 : decode cX10_passes 100 = .ok (.iconst 0, 1) := by decide +kernel
theorem dX10_passes_101 : decode cX10_passes 101 = .ok (.goto 22, 3) := by decide +kernel
theorem dX10_passes_104 : decode cX10_passes 104 = .ok (.aload_n 0, 1) := by decide +kernel
theorem dX10_passes_105 : decode cX10_passes 105 = .ok (.getfield 16, 3) := by decide +kernel
theorem dX10_passes_108 : decode cX10_passes 108 = .ok (.iload_n 1, 1) := by decide +kernel
theorem dX10_passes_109 : decode cX10_passes 109 = .ok (.iaload, 1) := by decide +kernel
theorem dX10_passes_110 : decode cX10_passes 110 = .ok (.iload_n 2, 1) := by decide +kernel
theorem dX10_passes_111 : decode cX10_passes 111 = .ok (.sipush 1100, 3) := by decide +kernel
theorem dX10_passes_114 : decode cX10_passes 114 = .ok (.isub, 1) := by decide +kernel
theorem dX10_passes_115 : decode cX10_passes 115 = .ok (.if_icmp .ge 7, 3) := by decide +kernel
theorem dX10_passes_118 : decode cX10_passes 118 = .ok (.iconst 1, 1) := by decide +kernel
theorem dX10_passes_119 : decode cX10_passes 119 = .ok (.goto 4, 3) := by decide +kernel
theorem dX10_passes_122 : decode cX10_passes 122 = .ok (.iconst 0, 1) := by decide +kernel
theorem dX10_passes_123 : decode cX10_passes 123 = .ok (.ireturn, 1) := by decide +kernel
theorem dX10_four_0 : decode cX10_four 0 = .ok (.bipush 24, 2) := by decide +kernel
theorem dX10_four_2 : decode cX10_four 2 = .ok (.istore_n 2, 1) := by decide +kernel
theorem dX10_four_3 : decode cX10_four 3 = .ok (.iload_n 2, 1) := by decide +kernel
theorem dX10_four_4 : decode cX10_four 4 = .ok (.ifCond .lt 32, 3) := by decide +kernel
theorem dX10_four_7 : decode cX10_four 7 = .ok (.aload_n 0, 1) := by decide +kernel
theorem dX10_four_8 : decode cX10_four 8 = .ok (.getfield 87, 3) := by decide +kernel
theorem dX10_four_11 : decode cX10_four 11 = .ok (.aload_n 0, 1) := by decide +kernel
theorem dX10_four_12 : decode cX10_four 12 = .ok (.getfield 106, 3) := by decide +kernel
theorem dX10_four_15 : decode cX10_four 15 = .ok (.iload_n 1, 1) := by decide +kernel
theorem dX10_four_16 : decode cX10_four 16 = .ok (.iload_n 2, 1) := by decide +kernel
theorem dX10_four_17 : decode cX10_four 17 = .ok (.ishr, 1) := by decide +kernel
theorem dX10_four_18 : decode cX10_four 18 = .ok (.i2b, 1) := by decide +kernel
theorem dX10_four_19 : decode cX10_four 19 = .ok (.bastore, 1) := by decide +kernel
theorem dX10_four_20 : decode cX10_four 20 = .ok (.aload_n 0, 1) := by decide +kernel
theorem dX10_four_21 : decode cX10_four 21 = .ok (.dup, 1) := by decide +kernel
theorem dX10_four_22 : decode cX10_four 22 = .ok (.getfield 106, 3) := by decide +kernel
theorem dX10_four_25 : decode cX10_four 25 = .ok (.iconst 1, 1) := by decide +kernel
theorem dX10_four_26 : decode cX10_four 26 = .ok (.iadd, 1) := by decide +kernel
theorem dX10_four_27 : decode cX10_four 27 = .ok (.putfield 106, 3) := by decide +kernel
theorem dX10_four_30 : decode cX10_four 30 = .ok (.iinc 2 (-8), 3) := by decide +kernel
theorem dX10_four_33 : decode cX10_four 33 = .ok (.goto (-30), 3) := by decide +kernel
theorem dX10_four_36 : decode cX10_four 36 = .ok (.return_, 1) := by decide +kernel
theorem dX10_feed_0 : decode cX10_feed 0 = .ok (.aload_n 0, 1) := by decide +kernel
theorem dX10_feed_1 : decode cX10_feed 1 = .ok (.getfield 106, 3) := by decide +kernel
theorem dX10_feed_4 : decode cX10_feed 4 = .ok (.bipush 20, 2) := by decide +kernel
theorem dX10_feed_6 : decode cX10_feed 6 = .ok (.iadd, 1) := by decide +kernel
theorem dX10_feed_7 : decode cX10_feed 7 = .ok (.bipush 100, 2) := by decide +kernel
theorem dX10_feed_9 : decode cX10_feed 9 = .ok (.if_icmp .le 5, 3) := by decide +kernel
theorem dX10_feed_12 : decode cX10_feed 12 = .ok (.iconst (-1), 1) := by decide +kernel
theorem dX10_feed_13 : decode cX10_feed 13 = .ok (.ireturn, 1) := by decide +kernel
theorem dX10_feed_14 : decode cX10_feed 14 = .ok (.aload_n 0, 1) := by decide +kernel
theorem dX10_feed_15 : decode cX10_feed 15 = .ok (.iload_n 1, 1) := by decide +kernel
theorem dX10_feed_16 : decode cX10_feed 16 = .ok (.invokevirtual 109, 3) := by decide +kernel
theorem dX10_feed_19 : decode cX10_feed 19 = .ok (.aload_n 0, 1) := by decide +kernel
theorem dX10_feed_20 : decode cX10_feed 20 = .ok (.iload_n 2, 1) := by decide +kernel
theorem dX10_feed_21 : decode cX10_feed 21 = .ok (.invokevirtual 109, 3) := by decide +kernel
theorem dX10_feed_24 : decode cX10_feed 24 = .ok (.aload_n 0, 1) := by decide +kernel
theorem dX10_feed_25 : decode cX10_feed 25 = .ok (.iload_n 3, 1) := by decide +kernel
theorem dX10_feed_26 : decode cX10_feed 26 = .ok (.invokevirtual 109, 3) := by decide +kernel
theorem dX10_feed_29 : decode cX10_feed 29 = .ok (.aload_n 0, 1) := by decide +kernel
theorem dX10_feed_30 : decode cX10_feed 30 = .ok (.iload 4, 2) := by decide +kernel
theorem dX10_feed_32 : decode cX10_feed 32 = .ok (.invokevirtual 109, 3) := by decide +kernel
theorem dX10_feed_35 : decode cX10_feed 35 = .ok (.aload_n 0, 1) := by decide +kernel
theorem dX10_feed_36 : decode cX10_feed 36 = .ok (.iload 5, 2) := by decide +kernel
theorem dX10_feed_38 : decode cX10_feed 38 = .ok (.invokevirtual 109, 3) := by decide +kernel
theorem dX10_feed_41 : decode cX10_feed 41 = .ok (.aload_n 0, 1) := by decide +kernel
theorem dX10_feed_42 : decode cX10_feed 42 = .ok (.getfield 106, 3) := by decide +kernel
theorem dX10_feed_45 : decode cX10_feed 45 = .ok (.ireturn, 1) := by decide +kernel
theorem dX10_end_0 : decode cX10_end 0 = .ok (.iload_n 1, 1) := by decide +kernel
theorem dX10_end_1 : decode cX10_end 1 = .ok (.ifCond .lt 11, 3) := by decide +kernel
theorem dX10_end_4 : decode cX10_end 4 = .ok (.iload_n 1, 1) := by decide +kernel
theorem dX10_end_5 : decode cX10_end 5 = .ok (.aload_n 0, 1) := by decide +kernel
theorem dX10_end_6 : decode cX10_end 6 = .ok (.getfield 106, 3) := by decide +kernel
theorem dX10_end_9 : decode cX10_end 9 = .ok (.if_icmp .le 5, 3) := by decide +kernel
theorem dX10_end_12 : decode cX10_end 12 = .ok (.iconst (-1), 1) := by decide +kernel
theorem dX10_end_13 : decode cX10_end 13 = .ok (.ireturn, 1) := by decide +kernel
theorem dX10_end_14 : decode cX10_end 14 = .ok (.aload_n 0, 1) := by decide +kernel
theorem dX10_end_15 : decode cX10_end 15 = .ok (.iload_n 1, 1) := by decide +kernel
theorem dX10_end_16 : decode cX10_end 16 = .ok (.putfield 106, 3) := by decide +kernel
theorem dX10_end_19 : decode cX10_end 19 = .ok (.iload_n 1, 1) := by decide +kernel
theorem dX10_end_20 : decode cX10_end 20 = .ok (.ireturn, 1) := by decide +kernel
theorem dX10_fails_0 : decode cX10_fails 0 = .ok (.aload_n 0, 1) := by decide +kernel
theorem dX10_fails_1 : decode cX10_fails 1 = .ok (.getfield 113, 3) := by decide +kernel
theorem dX10_fails_4 : decode cX10_fails 4 = .ok (.ifCond .ne 15, 3) := by decide +kernel
theorem dX10_fails_7 : decode cX10_fails 7 = .ok (.aload_n 0, 1) := by decide +kernel
theorem dX10_fails_8 : decode cX10_fails 8 = .ok (.iconst 1, 1) := by decide +kernel
theorem dX10_fails_9 : decode cX10_fails 9 = .ok (.bipush 8, 2) := by decide +kernel
theorem dX10_fails_11 : decode cX10_fails 11 = .ok (.iload_n 2, 1) := by decide +kernel
theorem dX10_fails_12 : decode cX10_fails 12 = .ok (.imul, 1) := by decide +kernel
theorem dX10_fails_13 : decode cX10_fails 13 = .ok (.iadd, 1) := by decide +kernel
theorem dX10_fails_14 : decode cX10_fails 14 = .ok (.iload_n 1, 1) := by decide +kernel
theorem dX10_fails_15 : decode cX10_fails 15 = .ok (.iadd, 1) := by decide +kernel
theorem dX10_fails_16 : decode cX10_fails 16 = .ok (.putfield 113, 3) := by decide +kernel
theorem dX10_fails_19 : decode cX10_fails 19 = .ok (.iconst 0, 1) := by decide +kernel
theorem dX10_fails_20 : decode cX10_fails 20 = .ok (.ireturn, 1) := by decide +kernel
theorem dX10_see_0 : decode cX10_see 0 = .ok (.aload_n 0, 1) := by decide +kernel
theorem dX10_see_1 : decode cX10_see 1 = .ok (.getfield 116, 3) := by decide +kernel
theorem dX10_see_4 : decode cX10_see 4 = .ok (.aload_n 0, 1) := by decide +kernel
theorem dX10_see_5 : decode cX10_see 5 = .ok (.getfield 106, 3) := by decide +kernel
theorem dX10_see_8 : decode cX10_see 8 = .ok (.if_icmp .ge 30, 3) := by decide +kernel
theorem dX10_see_11 : decode cX10_see 11 = .ok (.aload_n 0, 1) := by decide +kernel
theorem dX10_see_12 : decode cX10_see 12 = .ok (.getfield 87, 3) := by decide +kernel
theorem dX10_see_15 : decode cX10_see 15 = .ok (.aload_n 0, 1) := by decide +kernel
theorem dX10_see_16 : decode cX10_see 16 = .ok (.getfield 116, 3) := by decide +kernel
theorem dX10_see_19 : decode cX10_see 19 = .ok (.baload, 1) := by decide +kernel
theorem dX10_see_20 : decode cX10_see 20 = .ok (.bipush 32, 2) := by decide +kernel
theorem dX10_see_22 : decode cX10_see 22 = .ok (.if_icmp .ne 16, 3) := by decide +kernel
theorem dX10_see_25 : decode cX10_see 25 = .ok (.aload_n 0, 1) := by decide +kernel
theorem dX10_see_26 : decode cX10_see 26 = .ok (.dup, 1) := by decide +kernel
theorem dX10_see_27 : decode cX10_see 27 = .ok (.getfield 116, 3) := by decide +kernel
theorem dX10_see_30 : decode cX10_see 30 = .ok (.iconst 1, 1) := by decide +kernel
theorem dX10_see_31 : decode cX10_see 31 = .ok (.iadd, 1) := by decide +kernel
theorem dX10_see_32 : decode cX10_see 32 = .ok (.putfield 116, 3) := by decide +kernel
theorem dX10_see_35 : decode cX10_see 35 = .ok (.goto (-35), 3) := by decide +kernel
theorem dX10_see_38 : decode cX10_see 38 = .ok (.aload_n 0, 1) := by decide +kernel
theorem dX10_see_39 : decode cX10_see 39 = .ok (.getfield 116, 3) := by decide +kernel
theorem dX10_see_42 : decode cX10_see 42 = .ok (.aload_n 0, 1) := by decide +kernel
theorem dX10_see_43 : decode cX10_see 43 = .ok (.getfield 106, 3) := by decide +kernel
theorem dX10_see_46 : decode cX10_see 46 = .ok (.if_icmp .ge 19, 3) := by decide +kernel
theorem dX10_see_49 : decode cX10_see 49 = .ok (.aload_n 0, 1) := by decide +kernel
theorem dX10_see_50 : decode cX10_see 50 = .ok (.getfield 87, 3) := by decide +kernel
theorem dX10_see_53 : decode cX10_see 53 = .ok (.aload_n 0, 1) := by decide +kernel
theorem dX10_see_54 : decode cX10_see 54 = .ok (.getfield 116, 3) := by decide +kernel
theorem dX10_see_57 : decode cX10_see 57 = .ok (.baload, 1) := by decide +kernel
theorem dX10_see_58 : decode cX10_see 58 = .ok (.sipush 255, 3) := by decide +kernel
theorem dX10_see_61 : decode cX10_see 61 = .ok (.iand, 1) := by decide +kernel
theorem dX10_see_62 : decode cX10_see 62 = .ok (.goto 4, 3) := by decide +kernel
theorem dX10_see_65 : decode cX10_see 65 = .ok (.iconst (-1), 1) := by decide +kernel
theorem dX10_see_66 : decode cX10_see 66 = .ok (.ireturn, 1) := by decide +kernel
theorem dX10_wordHere_0 : decode cX10_wordHere 0 = .ok (.aload_n 0, 1) := by decide +kernel
theorem dX10_wordHere_1 : decode cX10_wordHere 1 = .ok (.invokevirtual 119, 3) := by decide +kernel
theorem dX10_wordHere_4 : decode cX10_wordHere 4 = .ok (.pop, 1) := by decide +kernel
theorem dX10_wordHere_5 : decode cX10_wordHere 5 = .ok (.aload_n 0, 1) := by decide +kernel
theorem dX10_wordHere_6 : decode cX10_wordHere 6 = .ok (.iconst 0, 1) := by decide +kernel
theorem dX10_wordHere_7 : decode cX10_wordHere 7 = .ok (.putfield 123, 3) := by decide +kernel
theorem dX10_wordHere_10 : decode cX10_wordHere 10 = .ok (.aload_n 0, 1) := by decide +kernel
theorem dX10_wordHere_11 : decode cX10_wordHere 11 = .ok (.getfield 116, 3) := by decide +kernel
theorem dX10_wordHere_14 : decode cX10_wordHere 14 = .ok (.aload_n 0, 1) := by decide +kernel
theorem dX10_wordHere_15 : decode cX10_wordHere 15 = .ok (.getfield 123, 3) := by decide +kernel
theorem dX10_wordHere_18 : decode cX10_wordHere 18 = .ok (.iadd, 1) := by decide +kernel
theorem dX10_wordHere_19 : decode cX10_wordHere 19 = .ok (.aload_n 0, 1) := by decide +kernel
theorem dX10_wordHere_20 : decode cX10_wordHere 20 = .ok (.getfield 106, 3) := by decide +kernel
theorem dX10_wordHere_23 : decode cX10_wordHere 23 = .ok (.if_icmp .ge 54, 3) := by decide +kernel
theorem dX10_wordHere_26 : decode cX10_wordHere 26 = .ok (.aload_n 0, 1) := by decide +kernel
theorem dX10_wordHere_27 : decode cX10_wordHere 27 = .ok (.getfield 87, 3) := by decide +kernel
theorem dX10_wordHere_30 : decode cX10_wordHere 30 = .ok (.aload_n 0, 1) := by decide +kernel
theorem dX10_wordHere_31 : decode cX10_wordHere 31 = .ok (.getfield 116, 3) := by decide +kernel
theorem dX10_wordHere_34 : decode cX10_wordHere 34 = .ok (.aload_n 0, 1) := by decide +kernel
theorem dX10_wordHere_35 : decode cX10_wordHere 35 = .ok (.getfield 123, 3) := by decide +kernel
theorem dX10_wordHere_38 : decode cX10_wordHere 38 = .ok (.iadd, 1) := by decide +kernel
theorem dX10_wordHere_39 : decode cX10_wordHere 39 = .ok (.baload, 1) := by decide +kernel
theorem dX10_wordHere_40 : decode cX10_wordHere 40 = .ok (.bipush 97, 2) := by decide +kernel
theorem dX10_wordHere_42 : decode cX10_wordHere 42 = .ok (.if_icmp .lt 35, 3) := by decide +kernel
theorem dX10_wordHere_45 : decode cX10_wordHere 45 = .ok (.aload_n 0, 1) := by decide +kernel
theorem dX10_wordHere_46 : decode cX10_wordHere 46 = .ok (.getfield 87, 3) := by decide +kernel
theorem dX10_wordHere_49 : decode cX10_wordHere 49 = .ok (.aload_n 0, 1) := by decide +kernel
theorem dX10_wordHere_50 : decode cX10_wordHere 50 = .ok (.getfield 116, 3) := by decide +kernel
theorem dX10_wordHere_53 : decode cX10_wordHere 53 = .ok (.aload_n 0, 1) := by decide +kernel
theorem dX10_wordHere_54 : decode cX10_wordHere 54 = .ok (.getfield 123, 3) := by decide +kernel
theorem dX10_wordHere_57 : decode cX10_wordHere 57 = .ok (.iadd, 1) := by decide +kernel
theorem dX10_wordHere_58 : decode cX10_wordHere 58 = .ok (.baload, 1) := by decide +kernel
theorem dX10_wordHere_59 : decode cX10_wordHere 59 = .ok (.bipush 122, 2) := by decide +kernel
theorem dX10_wordHere_61 : decode cX10_wordHere 61 = .ok (.if_icmp .gt 16, 3) := by decide +kernel
theorem dX10_wordHere_64 : decode cX10_wordHere 64 = .ok (.aload_n 0, 1) := by decide +kernel
theorem dX10_wordHere_65 : decode cX10_wordHere 65 = .ok (.dup, 1) := by decide +kernel
theorem dX10_wordHere_66 : decode cX10_wordHere 66 = .ok (.getfield 123, 3) := by decide +kernel
theorem dX10_wordHere_69 : decode cX10_wordHere 69 = .ok (.iconst 1, 1) := by decide +kernel
theorem dX10_wordHere_70 : decode cX10_wordHere 70 = .ok (.iadd, 1) := by decide +kernel
theorem dX10_wordHere_71 : decode cX10_wordHere 71 = .ok (.putfield 123, 3) := by decide +kernel
theorem dX10_wordHere_74 : decode cX10_wordHere 74 = .ok (.goto (-64), 3) := by decide +kernel
theorem dX10_wordHere_77 : decode cX10_wordHere 77 = .ok (.iconst 0, 1) := by decide +kernel
theorem dX10_wordHere_78 : decode cX10_wordHere 78 = .ok (.istore_n 1, 1) := by decide +kernel
theorem dX10_wordHere_79 : decode cX10_wordHere 79 = .ok (.iload_n 1, 1) := by decide +kernel
theorem dX10_wordHere_80 : decode cX10_wordHere 80 = .ok (.bipush 9, 2) := by decide +kernel
theorem dX10_wordHere_82 : decode cX10_wordHere 82 = .ok (.if_icmp .ge 114, 3) := by decide +kernel
theorem dX10_wordHere_85 : decode cX10_wordHere 85 = .ok (.aload_n 0, 1) := by decide +kernel
theorem dX10_wordHere_86 : decode cX10_wordHere 86 = .ok (.getfield 123, 3) := by decide +kernel
theorem dX10_wordHere_89 : decode cX10_wordHere 89 = .ok (.iconst 5, 1) := by decide +kernel
theorem dX10_wordHere_90 : decode cX10_wordHere 90 = .ok (.if_icmp .gt 106, 3) := by decide +kernel
theorem dX10_wordHere_93 : decode cX10_wordHere 93 = .ok (.iconst 0, 1) := by decide +kernel
theorem dX10_wordHere_94 : decode cX10_wordHere 94 = .ok (.istore_n 2, 1) := by decide +kernel
theorem dX10_wordHere_95 : decode cX10_wordHere 95 = .ok (.iload_n 2, 1) := by decide +kernel
theorem dX10_wordHere_96 : decode cX10_wordHere 96 = .ok (.iconst 5, 1) := by decide +kernel
theorem dX10_wordHere_97 : decode cX10_wordHere 97 = .ok (.if_icmp .ge 22, 3) := by decide +kernel
theorem dX10_wordHere_100 : decode cX10_wordHere 100 = .ok (.aload_n 0, 1) := by decide +kernel
theorem dX10_wordHere_101 : decode cX10_wordHere 101 = .ok (.getfield 94, 3) := by decide +kernel
theorem dX10_wordHere_104 : decode cX10_wordHere 104 = .ok (.iconst 5, 1) := by decide +kernel
theorem dX10_wordHere_105 : decode cX10_wordHere 105 = .ok (.iload_n 1, 1) := by decide +kernel
theorem dX10_wordHere_106 : decode cX10_wordHere 106 = .ok (.imul, 1) := by decide +kernel
theorem dX10_wordHere_107 : decode cX10_wordHere 107 = .ok (.iload_n 2, 1) := by decide +kernel
theorem dX10_wordHere_108 : decode cX10_wordHere 108 = .ok (.iadd, 1) := by decide +kernel
theorem dX10_wordHere_109 : decode cX10_wordHere 109 = .ok (.baload, 1) := by decide +kernel
theorem dX10_wordHere_110 : decode cX10_wordHere 110 = .ok (.ifCond .eq 9, 3) := by decide +kernel
theorem dX10_wordHere_113 : decode cX10_wordHere 113 = .ok (.iinc 2 1, 3) := by decide +kernel
theorem dX10_wordHere_116 : decode cX10_wordHere 116 = .ok (.goto (-21), 3) := by decide +kernel
theorem dX10_wordHere_119 : decode cX10_wordHere 119 = .ok (.iload_n 2, 1) := by decide +kernel
theorem dX10_wordHere_120 : decode cX10_wordHere 120 = .ok (.aload_n 0, 1) := by decide +kernel
theorem dX10_wordHere_121 : decode cX10_wordHere 121 = .ok (.getfield 123, 3) := by decide +kernel
theorem dX10_wordHere_124 : decode cX10_wordHere 124 = .ok (.if_icmp .ne 7, 3) := by decide +kernel
theorem dX10_wordHere_127 : decode cX10_wordHere 127 = .ok (.iconst 1, 1) := by decide +kernel
theorem dX10_wordHere_128 : decode cX10_wordHere 128 = .ok (.goto 4, 3) := by decide +kernel
theorem dX10_wordHere_131 : decode cX10_wordHere 131 = .ok (.iconst 0, 1) := by decide +kernel
theorem dX10_wordHere_132 : decode cX10_wordHere 132 = .ok (.istore_n 3, 1) := by decide +kernel
theorem dX10_wordHere_133 : decode cX10_wordHere 133 = .ok (.iconst 0, 1) := by decide +kernel
theorem dX10_wordHere_134 : decode cX10_wordHere 134 = .ok (.istore 4, 2) := by decide +kernel
theorem dX10_wordHere_136 : decode cX10_wordHere 136 = .ok (.iload_n 3, 1) := by decide +kernel
theorem dX10_wordHere_137 : decode cX10_wordHere 137 = .ok (.ifCond .eq 47, 3) := by decide +kernel
theorem dX10_wordHere_140 : decode cX10_wordHere 140 = .ok (.iload 4, 2) := by decide +kernel
theorem dX10_wordHere_142 : decode cX10_wordHere 142 = .ok (.iload_n 2, 1) := by decide +kernel
theorem dX10_wordHere_143 : decode cX10_wordHere 143 = .ok (.if_icmp .ge 41, 3) := by decide +kernel
theorem dX10_wordHere_146 : decode cX10_wordHere 146 = .ok (.aload_n 0, 1) := by decide +kernel
theorem dX10_wordHere_147 : decode cX10_wordHere 147 = .ok (.getfield 94, 3) := by decide +kernel
theorem dX10_wordHere_150 : decode cX10_wordHere 150 = .ok (.iconst 5, 1) := by decide +kernel
theorem dX10_wordHere_151 : decode cX10_wordHere 151 = .ok (.iload_n 1, 1) := by decide +kernel
theorem dX10_wordHere_152 : decode cX10_wordHere 152 = .ok (.imul, 1) := by decide +kernel
theorem dX10_wordHere_153 : decode cX10_wordHere 153 = .ok (.iload 4, 2) := by decide +kernel
theorem dX10_wordHere_155 : decode cX10_wordHere 155 = .ok (.iadd, 1) := by decide +kernel
theorem dX10_wordHere_156 : decode cX10_wordHere 156 = .ok (.baload, 1) := by decide +kernel
theorem dX10_wordHere_157 : decode cX10_wordHere 157 = .ok (.aload_n 0, 1) := by decide +kernel
theorem dX10_wordHere_158 : decode cX10_wordHere 158 = .ok (.getfield 87, 3) := by decide +kernel
theorem dX10_wordHere_161 : decode cX10_wordHere 161 = .ok (.aload_n 0, 1) := by decide +kernel
theorem dX10_wordHere_162 : decode cX10_wordHere 162 = .ok (.getfield 116, 3) := by decide +kernel
theorem dX10_wordHere_165 : decode cX10_wordHere 165 = .ok (.iload 4, 2) := by decide +kernel
theorem dX10_wordHere_167 : decode cX10_wordHere 167 = .ok (.iadd, 1) := by decide +kernel
theorem dX10_wordHere_168 : decode cX10_wordHere 168 = .ok (.baload, 1) := by decide +kernel
theorem dX10_wordHere_169 : decode cX10_wordHere 169 = .ok (.if_icmp .ne 7, 3) := by decide +kernel
theorem dX10_wordHere_172 : decode cX10_wordHere 172 = .ok (.iconst 1, 1) := by decide +kernel
theorem dX10_wordHere_173 : decode cX10_wordHere 173 = .ok (.goto 4, 3) := by decide +kernel
theorem dX10_wordHere_176 : decode cX10_wordHere 176 = .ok (.iconst 0, 1) := by decide +kernel
theorem dX10_wordHere_177 : decode cX10_wordHere 177 = .ok (.istore_n 3, 1) := by decide +kernel
theorem dX10_wordHere_178 : decode cX10_wordHere 178 = .ok (.iinc 4 1, 3) := by decide +kernel
theorem dX10_wordHere_181 : decode cX10_wordHere 181 = .ok (.goto (-45), 3) := by decide +kernel
theorem dX10_wordHere_184 : decode cX10_wordHere 184 = .ok (.iload_n 3, 1) := by decide +kernel
theorem dX10_wordHere_185 : decode cX10_wordHere 185 = .ok (.ifCond .eq 5, 3) := by decide +kernel
theorem dX10_wordHere_188 : decode cX10_wordHere 188 = .ok (.iload_n 1, 1) := by decide +kernel
theorem dX10_wordHere_189 : decode cX10_wordHere 189 = .ok (.ireturn, 1) := by decide +kernel
theorem dX10_wordHere_190 : decode cX10_wordHere 190 = .ok (.iinc 1 1, 3) := by decide +kernel
theorem dX10_wordHere_193 : decode cX10_wordHere 193 = .ok (.goto (-114), 3) := by decide +kernel
theorem dX10_wordHere_196 : decode cX10_wordHere 196 = .ok (.iconst (-1), 1) := by decide +kernel
theorem dX10_wordHere_197 : decode cX10_wordHere 197 = .ok (.ireturn, 1) := by decide +kernel
theorem dX10_number_0 : decode cX10_number 0 = .ok (.aload_n 0, 1) := by decide +kernel
theorem dX10_number_1 : decode cX10_number 1 = .ok (.invokevirtual 119, 3) := by decide +kernel
theorem dX10_number_4 : decode cX10_number 4 = .ok (.istore_n 2, 1) := by decide +kernel
theorem dX10_number_5 : decode cX10_number 5 = .ok (.iload_n 2, 1) := by decide +kernel
theorem dX10_number_6 : decode cX10_number 6 = .ok (.bipush 48, 2) := by decide +kernel
theorem dX10_number_8 : decode cX10_number 8 = .ok (.if_icmp .lt 9, 3) := by decide +kernel
theorem dX10_number_11 : decode cX10_number 11 = .ok (.iload_n 2, 1) := by decide +kernel
theorem dX10_number_12 : decode cX10_number 12 = .ok (.bipush 57, 2) := by decide +kernel
theorem dX10_number_14 : decode cX10_number 14 = .ok (.if_icmp .le 13, 3) := by decide +kernel
theorem dX10_number_17 : decode cX10_number 17 = .ok (.aload_n 0, 1) := by decide +kernel
theorem dX10_number_18 : decode cX10_number 18 = .ok (.iconst 0, 1) := by decide +kernel
theorem dX10_number_19 : decode cX10_number 19 = .ok (.aload_n 0, 1) := by decide +kernel
theorem dX10_number_20 : decode cX10_number 20 = .ok (.getfield 116, 3) := by decide +kernel
theorem dX10_number_23 : decode cX10_number 23 = .ok (.invokevirtual 126, 3) := by decide +kernel
theorem dX10_number_26 : decode cX10_number 26 = .ok (.ireturn, 1) := by decide +kernel
theorem dX10_number_27 : decode cX10_number 27 = .ok (.aload_n 0, 1) := by decide +kernel
theorem dX10_number_28 : decode cX10_number 28 = .ok (.getfield 116, 3) := by decide +kernel
theorem dX10_number_31 : decode cX10_number 31 = .ok (.istore_n 3, 1) := by decide +kernel
theorem dX10_number_32 : decode cX10_number 32 = .ok (.iconst 0, 1) := by decide +kernel
theorem dX10_number_33 : decode cX10_number 33 = .ok (.istore 4, 2) := by decide +kernel
theorem dX10_number_35 : decode cX10_number 35 = .ok (.iconst 0, 1) := by decide +kernel
theorem dX10_number_36 : decode cX10_number 36 = .ok (.istore 5, 2) := by decide +kernel
theorem dX10_number_38 : decode cX10_number 38 = .ok (.aload_n 0, 1) := by decide +kernel
theorem dX10_number_39 : decode cX10_number 39 = .ok (.getfield 116, 3) := by decide +kernel
theorem dX10_number_42 : decode cX10_number 42 = .ok (.aload_n 0, 1) := by decide +kernel
theorem dX10_number_43 : decode cX10_number 43 = .ok (.getfield 106, 3) := by decide +kernel
theorem dX10_number_46 : decode cX10_number 46 = .ok (.if_icmp .ge 73, 3) := by decide +kernel
theorem dX10_number_49 : decode cX10_number 49 = .ok (.aload_n 0, 1) := by decide +kernel
theorem dX10_number_50 : decode cX10_number 50 = .ok (.getfield 87, 3) := by decide +kernel
theorem dX10_number_53 : decode cX10_number 53 = .ok (.aload_n 0, 1) := by decide +kernel
theorem dX10_number_54 : decode cX10_number 54 = .ok (.getfield 116, 3) := by decide +kernel
theorem dX10_number_57 : decode cX10_number 57 = .ok (.baload, 1) := by decide +kernel
theorem dX10_number_58 : decode cX10_number 58 = .ok (.bipush 48, 2) := by decide +kernel
theorem dX10_number_60 : decode cX10_number 60 = .ok (.if_icmp .lt 59, 3) := by decide +kernel
theorem dX10_number_63 : decode cX10_number 63 = .ok (.aload_n 0, 1) := by decide +kernel
theorem dX10_number_64 : decode cX10_number 64 = .ok (.getfield 87, 3) := by decide +kernel
theorem dX10_number_67 : decode cX10_number 67 = .ok (.aload_n 0, 1) := by decide +kernel
theorem dX10_number_68 : decode cX10_number 68 = .ok (.getfield 116, 3) := by decide +kernel
theorem dX10_number_71 : decode cX10_number 71 = .ok (.baload, 1) := by decide +kernel
theorem dX10_number_72 : decode cX10_number 72 = .ok (.bipush 57, 2) := by decide +kernel
theorem dX10_number_74 : decode cX10_number 74 = .ok (.if_icmp .gt 45, 3) := by decide +kernel
theorem dX10_number_77 : decode cX10_number 77 = .ok (.iload 4, 2) := by decide +kernel
theorem dX10_number_79 : decode cX10_number 79 = .ok (.iconst 3, 1) := by decide +kernel
theorem dX10_number_80 : decode cX10_number 80 = .ok (.if_icmp .ge 23, 3) := by decide +kernel
theorem dX10_number_83 : decode cX10_number 83 = .ok (.bipush 10, 2) := by decide +kernel
theorem dX10_number_85 : decode cX10_number 85 = .ok (.iload 5, 2) := by decide +kernel
theorem dX10_number_87 : decode cX10_number 87 = .ok (.imul, 1) := by decide +kernel
theorem dX10_number_88 : decode cX10_number 88 = .ok (.aload_n 0, 1) := by decide +kernel
theorem dX10_number_89 : decode cX10_number 89 = .ok (.getfield 87, 3) := by decide +kernel
theorem dX10_number_92 : decode cX10_number 92 = .ok (.aload_n 0, 1) := by decide +kernel
theorem dX10_number_93 : decode cX10_number 93 = .ok (.getfield 116, 3) := by decide +kernel
theorem dX10_number_96 : decode cX10_number 96 = .ok (.baload, 1) := by decide +kernel
theorem dX10_number_97 : decode cX10_number 97 = .ok (.iadd, 1) := by decide +kernel
theorem dX10_number_98 : decode cX10_number 98 = .ok (.bipush 48, 2) := by decide +kernel
theorem dX10_number_100 : decode cX10_number 100 = .ok (.isub, 1) := by decide +kernel
theorem dX10_number_101 : decode cX10_number 101 = .ok (.istore 5, 2) := by decide +kernel
theorem dX10_number_103 : decode cX10_number 103 = .ok (.iinc 4 1, 3) := by decide +kernel
theorem dX10_number_106 : decode cX10_number 106 = .ok (.aload_n 0, 1) := by decide +kernel
theorem dX10_number_107 : decode cX10_number 107 = .ok (.dup, 1) := by decide +kernel
theorem dX10_number_108 : decode cX10_number 108 = .ok (.getfield 116, 3) := by decide +kernel
theorem dX10_number_111 : decode cX10_number 111 = .ok (.iconst 1, 1) := by decide +kernel
theorem dX10_number_112 : decode cX10_number 112 = .ok (.iadd, 1) := by decide +kernel
theorem dX10_number_113 : decode cX10_number 113 = .ok (.putfield 116, 3) := by decide +kernel
theorem dX10_number_116 : decode cX10_number 116 = .ok (.goto (-78), 3) := by decide +kernel
theorem dX10_number_119 : decode cX10_number 119 = .ok (.aload_n 0, 1) := by decide +kernel
theorem dX10_number_120 : decode cX10_number 120 = .ok (.iload 5, 2) := by decide +kernel
theorem dX10_number_122 : decode cX10_number 122 = .ok (.putfield 130, 3) := by decide +kernel
theorem dX10_number_125 : decode cX10_number 125 = .ok (.iload 4, 2) := by decide +kernel
theorem dX10_number_127 : decode cX10_number 127 = .ok (.iconst 3, 1) := by decide +kernel
theorem dX10_number_128 : decode cX10_number 128 = .ok (.if_icmp .gt 9, 3) := by decide +kernel
theorem dX10_number_131 : decode cX10_number 131 = .ok (.iload 5, 2) := by decide +kernel
theorem dX10_number_133 : decode cX10_number 133 = .ok (.iload_n 1, 1) := by decide +kernel
theorem dX10_number_134 : decode cX10_number 134 = .ok (.if_icmp .le 12, 3) := by decide +kernel
theorem dX10_number_137 : decode cX10_number 137 = .ok (.aload_n 0, 1) := by decide +kernel
theorem dX10_number_138 : decode cX10_number 138 = .ok (.iconst 1, 1) := by decide +kernel
theorem dX10_number_139 : decode cX10_number 139 = .ok (.iload_n 3, 1) := by decide +kernel
theorem dX10_number_140 : decode cX10_number 140 = .ok (.invokevirtual 126, 3) := by decide +kernel
theorem dX10_number_143 : decode cX10_number 143 = .ok (.ifCond .eq 7, 3) := by decide +kernel
theorem dX10_number_146 : decode cX10_number 146 = .ok (.iconst 1, 1) := by decide +kernel
theorem dX10_number_147 : decode cX10_number 147 = .ok (.goto 4, 3) := by decide +kernel
theorem dX10_number_150 : decode cX10_number 150 = .ok (.iconst 0, 1) := by decide +kernel
theorem dX10_number_151 : decode cX10_number 151 = .ok (.ireturn, 1) := by decide +kernel
theorem dX10_test_0 : decode cX10_test 0 = .ok (.aload_n 0, 1) := by decide +kernel
theorem dX10_test_1 : decode cX10_test 1 = .ok (.invokevirtual 133, 3) := by decide +kernel
theorem dX10_test_4 : decode cX10_test 4 = .ok (.istore_n 1, 1) := by decide +kernel
theorem dX10_test_5 : decode cX10_test 5 = .ok (.iload_n 1, 1) := by decide +kernel
theorem dX10_test_6 : decode cX10_test 6 = .ok (.iconst 4, 1) := by decide +kernel
theorem dX10_test_7 : decode cX10_test 7 = .ok (.if_icmp .ge 13, 3) := by decide +kernel
theorem dX10_test_10 : decode cX10_test 10 = .ok (.aload_n 0, 1) := by decide +kernel
theorem dX10_test_11 : decode cX10_test 11 = .ok (.iconst 0, 1) := by decide +kernel
theorem dX10_test_12 : decode cX10_test 12 = .ok (.aload_n 0, 1) := by decide +kernel
theorem dX10_test_13 : decode cX10_test 13 = .ok (.getfield 116, 3) := by decide +kernel
theorem dX10_test_16 : decode cX10_test 16 = .ok (.invokevirtual 126, 3) := by decide +kernel
theorem dX10_test_19 : decode cX10_test 19 = .ok (.ireturn, 1) := by decide +kernel
theorem dX10_test_20 : decode cX10_test 20 = .ok (.aload_n 0, 1) := by decide +kernel
theorem dX10_test_21 : decode cX10_test 21 = .ok (.getfield 136, 3) := by decide +kernel
theorem dX10_test_24 : decode cX10_test 24 = .ok (.iconst 4, 1) := by decide +kernel
theorem dX10_test_25 : decode cX10_test 25 = .ok (.if_icmp .ne 13, 3) := by decide +kernel
theorem dX10_test_28 : decode cX10_test 28 = .ok (.aload_n 0, 1) := by decide +kernel
theorem dX10_test_29 : decode cX10_test 29 = .ok (.iconst 2, 1) := by decide +kernel
theorem dX10_test_30 : decode cX10_test 30 = .ok (.aload_n 0, 1) := by decide +kernel
theorem dX10_test_31 : decode cX10_test 31 = .ok (.getfield 116, 3) := by decide +kernel
theorem dX10_test_34 : decode cX10_test 34 = .ok (.invokevirtual 126, 3) := by decide +kernel
theorem dX10_test_37 : decode cX10_test 37 = .ok (.ireturn, 1) := by decide +kernel
theorem dX10_test_38 : decode cX10_test 38 = .ok (.aload_n 0, 1) := by decide +kernel
theorem dX10_test_39 : decode cX10_test 39 = .ok (.dup, 1) := by decide +kernel
theorem dX10_test_40 : decode cX10_test 40 = .ok (.getfield 116, 3) := by decide +kernel
theorem dX10_test_43 : decode cX10_test 43 = .ok (.aload_n 0, 1) := by decide +kernel
theorem dX10_test_44 : decode cX10_test 44 = .ok (.getfield 123, 3) := by decide +kernel
theorem dX10_test_47 : decode cX10_test 47 = .ok (.iadd, 1) := by decide +kernel
theorem dX10_test_48 : decode cX10_test 48 = .ok (.putfield 116, 3) := by decide +kernel
theorem dX10_test_51 : decode cX10_test 51 = .ok (.iload_n 1, 1) := by decide +kernel
theorem dX10_test_52 : decode cX10_test 52 = .ok (.iconst 4, 1) := by decide +kernel
theorem dX10_test_53 : decode cX10_test 53 = .ok (.isub, 1) := by decide +kernel
theorem dX10_test_54 : decode cX10_test 54 = .ok (.istore_n 2, 1) := by decide +kernel
theorem dX10_test_55 : decode cX10_test 55 = .ok (.aload_n 0, 1) := by decide +kernel
theorem dX10_test_56 : decode cX10_test 56 = .ok (.iload_n 2, 1) := by decide +kernel
theorem dX10_test_57 : decode cX10_test 57 = .ok (.ifCond .eq 8, 3) := by decide +kernel
theorem dX10_test_60 : decode cX10_test 60 = .ok (.iload_n 2, 1) := by decide +kernel
theorem dX10_test_61 : decode cX10_test 61 = .ok (.iconst 2, 1) := by decide +kernel
theorem dX10_test_62 : decode cX10_test 62 = .ok (.if_icmp .ne 8, 3) := by decide +kernel
theorem dX10_test_65 : decode cX10_test 65 = .ok (.bipush 15, 2) := by decide +kernel
theorem dX10_test_67 : decode cX10_test 67 = .ok (.goto 16, 3) := by decide +kernel
theorem dX10_test_70 : decode cX10_test 70 = .ok (.iload_n 2, 1) := by decide +kernel
theorem dX10_test_71 : decode cX10_test 71 = .ok (.iconst 1, 1) := by decide +kernel
theorem dX10_test_72 : decode cX10_test 72 = .ok (.if_icmp .ne 8, 3) := by decide +kernel
theorem dX10_test_75 : decode cX10_test 75 = .ok (.bipush 7, 2) := by decide +kernel
theorem dX10_test_77 : decode cX10_test 77 = .ok (.goto 6, 3) := by decide +kernel
theorem dX10_test_80 : decode cX10_test 80 = .ok (.sipush 999, 3) := by decide +kernel
theorem dX10_test_83 : decode cX10_test 83 = .ok (.invokevirtual 139, 3) := by decide +kernel
theorem dX10_test_86 : decode cX10_test 86 = .ok (.ifCond .ne 5, 3) := by decide +kernel
theorem dX10_test_89 : decode cX10_test 89 = .ok (.iconst 0, 1) := by decide +kernel
theorem dX10_test_90 : decode cX10_test 90 = .ok (.ireturn, 1) := by decide +kernel
theorem dX10_test_91 : decode cX10_test 91 = .ok (.aload_n 0, 1) := by decide +kernel
theorem dX10_test_92 : decode cX10_test 92 = .ok (.getfield 91, 3) := by decide +kernel
theorem dX10_test_95 : decode cX10_test 95 = .ok (.aload_n 0, 1) := by decide +kernel
theorem dX10_test_96 : decode cX10_test 96 = .ok (.getfield 136, 3) := by decide +kernel
theorem dX10_test_99 : decode cX10_test 99 = .ok (.aload_n 0, 1) := by decide +kernel
theorem dX10_test_100 : decode cX10_test 100 = .ok (.getfield 130, 3) := by decide +kernel
theorem dX10_test_103 : decode cX10_test 103 = .ok (.iload_n 2, 1) := by decide +kernel
theorem dX10_test_104 : decode cX10_test 104 = .ok (.ifCond .ne 7, 3) := by decide +kernel
theorem dX10_test_107 : decode cX10_test 107 = .ok (.iconst 0, 1) := by decide +kernel
theorem dX10_test_108 : decode cX10_test 108 = .ok (.goto 36, 3) := by decide +kernel
theorem dX10_test_111 : decode cX10_test 111 = .ok (.iload_n 2, 1) := by decide +kernel
theorem dX10_test_112 : decode cX10_test 112 = .ok (.iconst 1, 1) := by decide +kernel
theorem dX10_test_113 : decode cX10_test 113 = .ok (.if_icmp .ne 8, 3) := by decide +kernel
theorem dX10_test_116 : decode cX10_test 116 = .ok (.bipush 16, 2) := by decide +kernel
theorem dX10_test_118 : decode cX10_test 118 = .ok (.goto 26, 3) := by decide +kernel
theorem dX10_test_121 : decode cX10_test 121 = .ok (.iload_n 2, 1) := by decide +kernel
theorem dX10_test_122 : decode cX10_test 122 = .ok (.iconst 2, 1) := by decide +kernel
theorem dX10_test_123 : decode cX10_test 123 = .ok (.if_icmp .ne 8, 3) := by decide +kernel
theorem dX10_test_126 : decode cX10_test 126 = .ok (.bipush 24, 2) := by decide +kernel
theorem dX10_test_128 : decode cX10_test 128 = .ok (.goto 16, 3) := by decide +kernel
theorem dX10_test_131 : decode cX10_test 131 = .ok (.iload_n 2, 1) := by decide +kernel
theorem dX10_test_132 : decode cX10_test 132 = .ok (.iconst 3, 1) := by decide +kernel
theorem dX10_test_133 : decode cX10_test 133 = .ok (.if_icmp .ne 8, 3) := by decide +kernel
theorem dX10_test_136 : decode cX10_test 136 = .ok (.bipush 100, 2) := by decide +kernel
theorem dX10_test_138 : decode cX10_test 138 = .ok (.goto 6, 3) := by decide +kernel
theorem dX10_test_141 : decode cX10_test 141 = .ok (.sipush 1100, 3) := by decide +kernel
theorem dX10_test_144 : decode cX10_test 144 = .ok (.iadd, 1) := by decide +kernel
theorem dX10_test_145 : decode cX10_test 145 = .ok (.iastore, 1) := by decide +kernel
theorem dX10_test_146 : decode cX10_test 146 = .ok (.aload_n 0, 1) := by decide +kernel
theorem dX10_test_147 : decode cX10_test 147 = .ok (.dup, 1) := by decide +kernel
theorem dX10_test_148 : decode cX10_test 148 = .ok (.getfield 136, 3) := by decide +kernel
theorem dX10_test_151 : decode cX10_test 151 = .ok (.iconst 1, 1) := by decide +kernel
theorem dX10_test_152 : decode cX10_test 152 = .ok (.iadd, 1) := by decide +kernel
theorem dX10_test_153 : decode cX10_test 153 = .ok (.putfield 136, 3) := by decide +kernel
theorem dX10_test_156 : decode cX10_test 156 = .ok (.iconst 1, 1) := by decide +kernel
theorem dX10_test_157 : decode cX10_test 157 = .ok (.ireturn, 1) := by decide +kernel
theorem dX10_text_0 : decode cX10_text 0 = .ok (.aload_n 0, 1) := by decide +kernel
theorem dX10_text_1 : decode cX10_text 1 = .ok (.invokevirtual 133, 3) := by decide +kernel
theorem dX10_text_4 : decode cX10_text 4 = .ok (.istore_n 1, 1) := by decide +kernel
theorem dX10_text_5 : decode cX10_text 5 = .ok (.iload_n 1, 1) := by decide +kernel
theorem dX10_text_6 : decode cX10_text 6 = .ok (.ifCond .eq 18, 3) := by decide +kernel
theorem dX10_text_9 : decode cX10_text 9 = .ok (.iload_n 1, 1) := by decide +kernel
theorem dX10_text_10 : decode cX10_text 10 = .ok (.iconst 1, 1) := by decide +kernel
theorem dX10_text_11 : decode cX10_text 11 = .ok (.if_icmp .eq 13, 3) := by decide +kernel
theorem dX10_text_14 : decode cX10_text 14 = .ok (.aload_n 0, 1) := by decide +kernel
theorem dX10_text_15 : decode cX10_text 15 = .ok (.iconst 0, 1) := by decide +kernel
theorem dX10_text_16 : decode cX10_text 16 = .ok (.aload_n 0, 1) := by decide +kernel
theorem dX10_text_17 : decode cX10_text 17 = .ok (.getfield 116, 3) := by decide +kernel
theorem dX10_text_20 : decode cX10_text 20 = .ok (.invokevirtual 126, 3) := by decide +kernel
theorem dX10_text_23 : decode cX10_text 23 = .ok (.ireturn, 1) := by decide +kernel
theorem dX10_text_24 : decode cX10_text 24 = .ok (.aload_n 0, 1) := by decide +kernel
theorem dX10_text_25 : decode cX10_text 25 = .ok (.dup, 1) := by decide +kernel
theorem dX10_text_26 : decode cX10_text 26 = .ok (.getfield 116, 3) := by decide +kernel
theorem dX10_text_29 : decode cX10_text 29 = .ok (.aload_n 0, 1) := by decide +kernel
theorem dX10_text_30 : decode cX10_text 30 = .ok (.getfield 123, 3) := by decide +kernel
theorem dX10_text_33 : decode cX10_text 33 = .ok (.iadd, 1) := by decide +kernel
theorem dX10_text_34 : decode cX10_text 34 = .ok (.putfield 116, 3) := by decide +kernel
theorem dX10_text_37 : decode cX10_text 37 = .ok (.iload_n 1, 1) := by decide +kernel
theorem dX10_text_38 : decode cX10_text 38 = .ok (.iconst 1, 1) := by decide +kernel
theorem dX10_text_39 : decode cX10_text 39 = .ok (.if_icmp .ne 7, 3) := by decide +kernel
theorem dX10_text_42 : decode cX10_text 42 = .ok (.iconst 1, 1) := by decide +kernel
theorem dX10_text_43 : decode cX10_text 43 = .ok (.goto 4, 3) := by decide +kernel
theorem dX10_text_46 : decode cX10_text 46 = .ok (.iconst 0, 1) := by decide +kernel
theorem dX10_text_47 : decode cX10_text 47 = .ok (.istore_n 2, 1) := by decide +kernel
theorem dX10_text_48 : decode cX10_text 48 = .ok (.iload_n 2, 1) := by decide +kernel
theorem dX10_text_49 : decode cX10_text 49 = .ok (.ifCond .eq 46, 3) := by decide +kernel
theorem dX10_text_52 : decode cX10_text 52 = .ok (.aload_n 0, 1) := by decide +kernel
theorem dX10_text_53 : decode cX10_text 53 = .ok (.invokevirtual 143, 3) := by decide +kernel
theorem dX10_text_56 : decode cX10_text 56 = .ok (.ifCond .ne 5, 3) := by decide +kernel
theorem dX10_text_59 : decode cX10_text 59 = .ok (.iconst 0, 1) := by decide +kernel
theorem dX10_text_60 : decode cX10_text 60 = .ok (.ireturn, 1) := by decide +kernel
theorem dX10_text_61 : decode cX10_text 61 = .ok (.aload_n 0, 1) := by decide +kernel
theorem dX10_text_62 : decode cX10_text 62 = .ok (.invokevirtual 133, 3) := by decide +kernel
theorem dX10_text_65 : decode cX10_text 65 = .ok (.iconst 2, 1) := by decide +kernel
theorem dX10_text_66 : decode cX10_text 66 = .ok (.if_icmp .ne 7, 3) := by decide +kernel
theorem dX10_text_69 : decode cX10_text 69 = .ok (.iconst 1, 1) := by decide +kernel
theorem dX10_text_70 : decode cX10_text 70 = .ok (.goto 4, 3) := by decide +kernel
theorem dX10_text_73 : decode cX10_text 73 = .ok (.iconst 0, 1) := by decide +kernel
theorem dX10_text_74 : decode cX10_text 74 = .ok (.istore_n 2, 1) := by decide +kernel
theorem dX10_text_75 : decode cX10_text 75 = .ok (.iload_n 2, 1) := by decide +kernel
theorem dX10_text_76 : decode cX10_text 76 = .ok (.ifCond .eq (-28), 3) := by decide +kernel
theorem dX10_text_79 : decode cX10_text 79 = .ok (.aload_n 0, 1) := by decide +kernel
theorem dX10_text_80 : decode cX10_text 80 = .ok (.dup, 1) := by decide +kernel
theorem dX10_text_81 : decode cX10_text 81 = .ok (.getfield 116, 3) := by decide +kernel
theorem dX10_text_84 : decode cX10_text 84 = .ok (.aload_n 0, 1) := by decide +kernel
theorem dX10_text_85 : decode cX10_text 85 = .ok (.getfield 123, 3) := by decide +kernel
theorem dX10_text_88 : decode cX10_text 88 = .ok (.iadd, 1) := by decide +kernel
theorem dX10_text_89 : decode cX10_text 89 = .ok (.putfield 116, 3) := by decide +kernel
theorem dX10_text_92 : decode cX10_text 92 = .ok (.goto (-44), 3) := by decide +kernel
theorem dX10_text_95 : decode cX10_text 95 = .ok (.aload_n 0, 1) := by decide +kernel
theorem dX10_text_96 : decode cX10_text 96 = .ok (.invokevirtual 133, 3) := by decide +kernel
theorem dX10_text_99 : decode cX10_text 99 = .ok (.iconst 3, 1) := by decide +kernel
theorem dX10_text_100 : decode cX10_text 100 = .ok (.if_icmp .eq 13, 3) := by decide +kernel
theorem dX10_text_103 : decode cX10_text 103 = .ok (.aload_n 0, 1) := by decide +kernel
theorem dX10_text_104 : decode cX10_text 104 = .ok (.iconst 0, 1) := by decide +kernel
theorem dX10_text_105 : decode cX10_text 105 = .ok (.aload_n 0, 1) := by decide +kernel
theorem dX10_text_106 : decode cX10_text 106 = .ok (.getfield 116, 3) := by decide +kernel
theorem dX10_text_109 : decode cX10_text 109 = .ok (.invokevirtual 126, 3) := by decide +kernel
theorem dX10_text_112 : decode cX10_text 112 = .ok (.ireturn, 1) := by decide +kernel
theorem dX10_text_113 : decode cX10_text 113 = .ok (.aload_n 0, 1) := by decide +kernel
theorem dX10_text_114 : decode cX10_text 114 = .ok (.dup, 1) := by decide +kernel
theorem dX10_text_115 : decode cX10_text 115 = .ok (.getfield 116, 3) := by decide +kernel
theorem dX10_text_118 : decode cX10_text 118 = .ok (.aload_n 0, 1) := by decide +kernel
theorem dX10_text_119 : decode cX10_text 119 = .ok (.getfield 123, 3) := by decide +kernel
theorem dX10_text_122 : decode cX10_text 122 = .ok (.iadd, 1) := by decide +kernel
theorem dX10_text_123 : decode cX10_text 123 = .ok (.putfield 116, 3) := by decide +kernel
theorem dX10_text_126 : decode cX10_text 126 = .ok (.aload_n 0, 1) := by decide +kernel
theorem dX10_text_127 : decode cX10_text 127 = .ok (.bipush 7, 2) := by decide +kernel
theorem dX10_text_129 : decode cX10_text 129 = .ok (.invokevirtual 139, 3) := by decide +kernel
theorem dX10_text_132 : decode cX10_text 132 = .ok (.ifCond .ne 5, 3) := by decide +kernel
theorem dX10_text_135 : decode cX10_text 135 = .ok (.iconst 0, 1) := by decide +kernel
theorem dX10_text_136 : decode cX10_text 136 = .ok (.ireturn, 1) := by decide +kernel
theorem dX10_text_137 : decode cX10_text 137 = .ok (.aload_n 0, 1) := by decide +kernel
theorem dX10_text_138 : decode cX10_text 138 = .ok (.aload_n 0, 1) := by decide +kernel
theorem dX10_text_139 : decode cX10_text 139 = .ok (.getfield 130, 3) := by decide +kernel
theorem dX10_text_142 : decode cX10_text 142 = .ok (.putfield 147, 3) := by decide +kernel
theorem dX10_text_145 : decode cX10_text 145 = .ok (.aload_n 0, 1) := by decide +kernel
theorem dX10_text_146 : decode cX10_text 146 = .ok (.invokevirtual 119, 3) := by decide +kernel
theorem dX10_text_149 : decode cX10_text 149 = .ok (.iconst (-1), 1) := by decide +kernel
theorem dX10_text_150 : decode cX10_text 150 = .ok (.if_icmp .eq 15, 3) := by decide +kernel
theorem dX10_text_153 : decode cX10_text 153 = .ok (.aload_n 0, 1) := by decide +kernel
theorem dX10_text_154 : decode cX10_text 154 = .ok (.iconst 3, 1) := by decide +kernel
theorem dX10_text_155 : decode cX10_text 155 = .ok (.aload_n 0, 1) := by decide +kernel
theorem dX10_text_156 : decode cX10_text 156 = .ok (.getfield 116, 3) := by decide +kernel
theorem dX10_text_159 : decode cX10_text 159 = .ok (.invokevirtual 126, 3) := by decide +kernel
theorem dX10_text_162 : decode cX10_text 162 = .ok (.ifCond .eq 7, 3) := by decide +kernel
theorem dX10_text_165 : decode cX10_text 165 = .ok (.iconst 1, 1) := by decide +kernel
theorem dX10_text_166 : decode cX10_text 166 = .ok (.goto 4, 3) := by decide +kernel
theorem dX10_text_169 : decode cX10_text 169 = .ok (.iconst 0, 1) := by decide +kernel
theorem dX10_text_170 : decode cX10_text 170 = .ok (.ireturn, 1) := by decide +kernel
theorem dX10_hand_0 : decode cX10_hand 0 = .ok (.iconst 0, 1) := by decide +kernel
theorem dX10_hand_1 : decode cX10_hand 1 = .ok (.istore_n 1, 1) := by decide +kernel
theorem dX10_hand_2 : decode cX10_hand 2 = .ok (.iload_n 1, 1) := by decide +kernel
theorem dX10_hand_3 : decode cX10_hand 3 = .ok (.bipush 10, 2) := by decide +kernel
theorem dX10_hand_5 : decode cX10_hand 5 = .ok (.if_icmp .ge 18, 3) := by decide +kernel
theorem dX10_hand_8 : decode cX10_hand 8 = .ok (.aload_n 0, 1) := by decide +kernel
theorem dX10_hand_9 : decode cX10_hand 9 = .ok (.getfield 37, 3) := by decide +kernel
theorem dX10_hand_12 : decode cX10_hand 12 = .ok (.iload_n 1, 1) := by decide +kernel
theorem dX10_hand_13 : decode cX10_hand 13 = .ok (.baload, 1) := by decide +kernel
theorem dX10_hand_14 : decode cX10_hand 14 = .ok (.ifCond .eq 9, 3) := by decide +kernel
theorem dX10_hand_17 : decode cX10_hand 17 = .ok (.iinc 1 1, 3) := by decide +kernel
theorem dX10_hand_20 : decode cX10_hand 20 = .ok (.goto (-18), 3) := by decide +kernel
theorem dX10_hand_23 : decode cX10_hand 23 = .ok (.iload_n 1, 1) := by decide +kernel
theorem dX10_hand_24 : decode cX10_hand 24 = .ok (.bipush 10, 2) := by decide +kernel
theorem dX10_hand_26 : decode cX10_hand 26 = .ok (.if_icmp .ne 5, 3) := by decide +kernel
theorem dX10_hand_29 : decode cX10_hand 29 = .ok (.iconst (-1), 1) := by decide +kernel
theorem dX10_hand_30 : decode cX10_hand 30 = .ok (.ireturn, 1) := by decide +kernel
theorem dX10_hand_31 : decode cX10_hand 31 = .ok (.aload_n 0, 1) := by decide +kernel
theorem dX10_hand_32 : decode cX10_hand 32 = .ok (.iconst 0, 1) := by decide +kernel
theorem dX10_hand_33 : decode cX10_hand 33 = .ok (.putfield 116, 3) := by decide +kernel
theorem dX10_hand_36 : decode cX10_hand 36 = .ok (.aload_n 0, 1) := by decide +kernel
theorem dX10_hand_37 : decode cX10_hand 37 = .ok (.iconst 0, 1) := by decide +kernel
theorem dX10_hand_38 : decode cX10_hand 38 = .ok (.putfield 113, 3) := by decide +kernel
theorem dX10_hand_41 : decode cX10_hand 41 = .ok (.aload_n 0, 1) := by decide +kernel
theorem dX10_hand_42 : decode cX10_hand 42 = .ok (.iconst 0, 1) := by decide +kernel
theorem dX10_hand_43 : decode cX10_hand 43 = .ok (.putfield 136, 3) := by decide +kernel
theorem dX10_hand_46 : decode cX10_hand 46 = .ok (.aload_n 0, 1) := by decide +kernel
theorem dX10_hand_47 : decode cX10_hand 47 = .ok (.invokevirtual 150, 3) := by decide +kernel
theorem dX10_hand_50 : decode cX10_hand 50 = .ok (.istore_n 2, 1) := by decide +kernel
theorem dX10_hand_51 : decode cX10_hand 51 = .ok (.aload_n 0, 1) := by decide +kernel
theorem dX10_hand_52 : decode cX10_hand 52 = .ok (.iconst 0, 1) := by decide +kernel
theorem dX10_hand_53 : decode cX10_hand 53 = .ok (.putfield 106, 3) := by decide +kernel
theorem dX10_hand_56 : decode cX10_hand 56 = .ok (.iload_n 2, 1) := by decide +kernel
theorem dX10_hand_57 : decode cX10_hand 57 = .ok (.ifCond .ne 11, 3) := by decide +kernel
theorem dX10_hand_60 : decode cX10_hand 60 = .ok (.bipush (-2), 2) := by decide +kernel
theorem dX10_hand_62 : decode cX10_hand 62 = .ok (.aload_n 0, 1) := by decide +kernel
theorem dX10_hand_63 : decode cX10_hand 63 = .ok (.getfield 113, 3) := by decide +kernel
theorem dX10_hand_66 : decode cX10_hand 66 = .ok (.isub, 1) := by decide +kernel
theorem dX10_hand_67 : decode cX10_hand 67 = .ok (.ireturn, 1) := by decide +kernel
theorem dX10_hand_68 : decode cX10_hand 68 = .ok (.aload_n 0, 1) := by decide +kernel
theorem dX10_hand_69 : decode cX10_hand 69 = .ok (.getfield 37, 3) := by decide +kernel
theorem dX10_hand_72 : decode cX10_hand 72 = .ok (.iload_n 1, 1) := by decide +kernel
theorem dX10_hand_73 : decode cX10_hand 73 = .ok (.iconst 1, 1) := by decide +kernel
theorem dX10_hand_74 : decode cX10_hand 74 = .ok (.bastore, 1) := by decide +kernel
theorem dX10_hand_75 : decode cX10_hand 75 = .ok (.aload_n 0, 1) := by decide +kernel
theorem dX10_hand_76 : decode cX10_hand 76 = .ok (.getfield 41, 3) := by decide +kernel
theorem dX10_hand_79 : decode cX10_hand 79 = .ok (.iload_n 1, 1) := by decide +kernel
theorem dX10_hand_80 : decode cX10_hand 80 = .ok (.sipush 10000, 3) := by decide +kernel
theorem dX10_hand_83 : decode cX10_hand 83 = .ok (.aload_n 0, 1) := by decide +kernel
theorem dX10_hand_84 : decode cX10_hand 84 = .ok (.getfield 153, 3) := by decide +kernel
theorem dX10_hand_87 : decode cX10_hand 87 = .ok (.iadd, 1) := by decide +kernel
theorem dX10_hand_88 : decode cX10_hand 88 = .ok (.iastore, 1) := by decide +kernel
theorem dX10_hand_89 : decode cX10_hand 89 = .ok (.aload_n 0, 1) := by decide +kernel
theorem dX10_hand_90 : decode cX10_hand 90 = .ok (.dup, 1) := by decide +kernel
theorem dX10_hand_91 : decode cX10_hand 91 = .ok (.getfield 153, 3) := by decide +kernel
theorem dX10_hand_94 : decode cX10_hand 94 = .ok (.iconst 1, 1) := by decide +kernel
theorem dX10_hand_95 : decode cX10_hand 95 = .ok (.iadd, 1) := by decide +kernel
theorem dX10_hand_96 : decode cX10_hand 96 = .ok (.putfield 153, 3) := by decide +kernel
theorem dX10_hand_99 : decode cX10_hand 99 = .ok (.aload_n 0, 1) := by decide +kernel
theorem dX10_hand_100 : decode cX10_hand 100 = .ok (.getfield 44, 3) := by decide +kernel
theorem dX10_hand_103 : decode cX10_hand 103 = .ok (.iload_n 1, 1) := by decide +kernel
theorem dX10_hand_104 : decode cX10_hand 104 = .ok (.aload_n 0, 1) := by decide +kernel
theorem dX10_hand_105 : decode cX10_hand 105 = .ok (.getfield 136, 3) := by decide +kernel
theorem dX10_hand_108 : decode cX10_hand 108 = .ok (.iastore, 1) := by decide +kernel
theorem dX10_hand_109 : decode cX10_hand 109 = .ok (.iconst 0, 1) := by decide +kernel
theorem dX10_hand_110 : decode cX10_hand 110 = .ok (.istore_n 3, 1) := by decide +kernel
theorem dX10_hand_111 : decode cX10_hand 111 = .ok (.iload_n 3, 1) := by decide +kernel
theorem dX10_hand_112 : decode cX10_hand 112 = .ok (.aload_n 0, 1) := by decide +kernel
theorem dX10_hand_113 : decode cX10_hand 113 = .ok (.getfield 136, 3) := by decide +kernel
theorem dX10_hand_116 : decode cX10_hand 116 = .ok (.if_icmp .ge 25, 3) := by decide +kernel
theorem dX10_hand_119 : decode cX10_hand 119 = .ok (.aload_n 0, 1) := by decide +kernel
theorem dX10_hand_120 : decode cX10_hand 120 = .ok (.getfield 47, 3) := by decide +kernel
theorem dX10_hand_123 : decode cX10_hand 123 = .ok (.iconst 4, 1) := by decide +kernel
theorem dX10_hand_124 : decode cX10_hand 124 = .ok (.iload_n 1, 1) := by decide +kernel
theorem dX10_hand_125 : decode cX10_hand 125 = .ok (.imul, 1) := by decide +kernel
theorem dX10_hand_126 : decode cX10_hand 126 = .ok (.iload_n 3, 1) := by decide +kernel
theorem dX10_hand_127 : decode cX10_hand 127 = .ok (.iadd, 1) := by decide +kernel
theorem dX10_hand_128 : decode cX10_hand 128 = .ok (.aload_n 0, 1) := by decide +kernel
theorem dX10_hand_129 : decode cX10_hand 129 = .ok (.getfield 91, 3) := by decide +kernel
theorem dX10_hand_132 : decode cX10_hand 132 = .ok (.iload_n 3, 1) := by decide +kernel
theorem dX10_hand_133 : decode cX10_hand 133 = .ok (.iaload, 1) := by decide +kernel
theorem dX10_hand_134 : decode cX10_hand 134 = .ok (.iastore, 1) := by decide +kernel
theorem dX10_hand_135 : decode cX10_hand 135 = .ok (.iinc 3 1, 3) := by decide +kernel
theorem dX10_hand_138 : decode cX10_hand 138 = .ok (.goto (-27), 3) := by decide +kernel
theorem dX10_hand_141 : decode cX10_hand 141 = .ok (.aload_n 0, 1) := by decide +kernel
theorem dX10_hand_142 : decode cX10_hand 142 = .ok (.getfield 50, 3) := by decide +kernel
theorem dX10_hand_145 : decode cX10_hand 145 = .ok (.iload_n 1, 1) := by decide +kernel
theorem dX10_hand_146 : decode cX10_hand 146 = .ok (.aload_n 0, 1) := by decide +kernel
theorem dX10_hand_147 : decode cX10_hand 147 = .ok (.getfield 147, 3) := by decide +kernel
theorem dX10_hand_150 : decode cX10_hand 150 = .ok (.iastore, 1) := by decide +kernel
theorem dX10_hand_151 : decode cX10_hand 151 = .ok (.iload_n 1, 1) := by decide +kernel
theorem dX10_hand_152 : decode cX10_hand 152 = .ok (.ireturn, 1) := by decide +kernel
theorem dX10_drop_0 : decode cX10_drop 0 = .ok (.iload_n 1, 1) := by decide +kernel
theorem dX10_drop_1 : decode cX10_drop 1 = .ok (.iconst 0, 1) := by decide +kernel
theorem dX10_drop_2 : decode cX10_drop 2 = .ok (.bipush 9, 2) := by decide +kernel
theorem dX10_drop_4 : decode cX10_drop 4 = .ok (.invokestatic 156, 3) := by decide +kernel
theorem dX10_drop_7 : decode cX10_drop 7 = .ok (.ifCond .eq 12, 3) := by decide +kernel
theorem dX10_drop_10 : decode cX10_drop 10 = .ok (.aload_n 0, 1) := by decide +kernel
theorem dX10_drop_11 : decode cX10_drop 11 = .ok (.getfield 37, 3) := by decide +kernel
theorem dX10_drop_14 : decode cX10_drop 14 = .ok (.iload_n 1, 1) := by decide +kernel
theorem dX10_drop_15 : decode cX10_drop 15 = .ok (.baload, 1) := by decide +kernel
theorem dX10_drop_16 : decode cX10_drop 16 = .ok (.ifCond .ne 5, 3) := by decide +kernel
theorem dX10_drop_19 : decode cX10_drop 19 = .ok (.iconst 0, 1) := by decide +kernel
theorem dX10_drop_20 : decode cX10_drop 20 = .ok (.ireturn, 1) := by decide +kernel
theorem dX10_drop_21 : decode cX10_drop 21 = .ok (.aload_n 0, 1) := by decide +kernel
theorem dX10_drop_22 : decode cX10_drop 22 = .ok (.getfield 37, 3) := by decide +kernel
theorem dX10_drop_25 : decode cX10_drop 25 = .ok (.iload_n 1, 1) := by decide +kernel
theorem dX10_drop_26 : decode cX10_drop 26 = .ok (.iconst 0, 1) := by decide +kernel
theorem dX10_drop_27 : decode cX10_drop 27 = .ok (.bastore, 1) := by decide +kernel
theorem dX10_drop_28 : decode cX10_drop 28 = .ok (.iconst 1, 1) := by decide +kernel
theorem dX10_drop_29 : decode cX10_drop 29 = .ok (.ireturn, 1) := by decide +kernel
theorem dX10_handsThere_0 : decode cX10_handsThere 0 = .ok (.iconst 0, 1) := by decide +kernel
theorem dX10_handsThere_1 : decode cX10_handsThere 1 = .ok (.istore_n 1, 1) := by decide +kernel
theorem dX10_handsThere_2 : decode cX10_handsThere 2 = .ok (.iconst 0, 1) := by decide +kernel
theorem dX10_handsThere_3 : decode cX10_handsThere 3 = .ok (.istore_n 2, 1) := by decide +kernel
theorem dX10_handsThere_4 : decode cX10_handsThere 4 = .ok (.iload_n 2, 1) := by decide +kernel
theorem dX10_handsThere_5 : decode cX10_handsThere 5 = .ok (.bipush 10, 2) := by decide +kernel
theorem dX10_handsThere_7 : decode cX10_handsThere 7 = .ok (.if_icmp .ge 26, 3) := by decide +kernel
theorem dX10_handsThere_10 : decode cX10_handsThere 10 = .ok (.iload_n 1, 1) := by decide +kernel
theorem dX10_handsThere_11 : decode cX10_handsThere 11 = .ok (.aload_n 0, 1) := by decide +kernel
theorem dX10_handsThere_12 : decode cX10_handsThere 12 = .ok (.getfield 37, 3) := by decide +kernel
theorem dX10_handsThere_15 : decode cX10_handsThere 15 = .ok (.iload_n 2, 1) := by decide +kernel
theorem dX10_handsThere_16 : decode cX10_handsThere 16 = .ok (.baload, 1) := by decide +kernel
theorem dX10_handsThere_17 : decode cX10_handsThere 17 = .ok (.ifCond .eq 7, 3) := by decide +kernel
theorem dX10_handsThere_20 : decode cX10_handsThere 20 = .ok (.iconst 1, 1) := by decide +kernel
theorem dX10_handsThere_21 : decode cX10_handsThere 21 = .ok (.goto 4, 3) := by decide +kernel
theorem dX10_handsThere_24 : decode cX10_handsThere 24 = .ok (.iconst 0, 1) := by decide +kernel
theorem dX10_handsThere_25 : decode cX10_handsThere 25 = .ok (.iadd, 1) := by decide +kernel
theorem dX10_handsThere_26 : decode cX10_handsThere 26 = .ok (.istore_n 1, 1) := by decide +kernel
theorem dX10_handsThere_27 : decode cX10_handsThere 27 = .ok (.iinc 2 1, 3) := by decide +kernel
theorem dX10_handsThere_30 : decode cX10_handsThere 30 = .ok (.goto (-26), 3) := by decide +kernel
theorem dX10_handsThere_33 : decode cX10_handsThere 33 = .ok (.iload_n 1, 1) := by decide +kernel
theorem dX10_handsThere_34 : decode cX10_handsThere 34 = .ok (.ireturn, 1) := by decide +kernel
theorem dX10_handAt_0 : decode cX10_handAt 0 = .ok (.iconst 0, 1) := by decide +kernel
theorem dX10_handAt_1 : decode cX10_handAt 1 = .ok (.istore_n 2, 1) := by decide +kernel
theorem dX10_handAt_2 : decode cX10_handAt 2 = .ok (.iconst 0, 1) := by decide +kernel
theorem dX10_handAt_3 : decode cX10_handAt 3 = .ok (.istore_n 3, 1) := by decide +kernel
theorem dX10_handAt_4 : decode cX10_handAt 4 = .ok (.iload_n 3, 1) := by decide +kernel
theorem dX10_handAt_5 : decode cX10_handAt 5 = .ok (.bipush 10, 2) := by decide +kernel
theorem dX10_handAt_7 : decode cX10_handAt 7 = .ok (.if_icmp .ge 31, 3) := by decide +kernel
theorem dX10_handAt_10 : decode cX10_handAt 10 = .ok (.aload_n 0, 1) := by decide +kernel
theorem dX10_handAt_11 : decode cX10_handAt 11 = .ok (.getfield 37, 3) := by decide +kernel
theorem dX10_handAt_14 : decode cX10_handAt 14 = .ok (.iload_n 3, 1) := by decide +kernel
theorem dX10_handAt_15 : decode cX10_handAt 15 = .ok (.baload, 1) := by decide +kernel
theorem dX10_handAt_16 : decode cX10_handAt 16 = .ok (.ifCond .ne 6, 3) := by decide +kernel
theorem dX10_handAt_19 : decode cX10_handAt 19 = .ok (.goto 13, 3) := by decide +kernel
theorem dX10_handAt_22 : decode cX10_handAt 22 = .ok (.iload_n 2, 1) := by decide +kernel
theorem dX10_handAt_23 : decode cX10_handAt 23 = .ok (.iload_n 1, 1) := by decide +kernel
theorem dX10_handAt_24 : decode cX10_handAt 24 = .ok (.if_icmp .ne 5, 3) := by decide +kernel
theorem dX10_handAt_27 : decode cX10_handAt 27 = .ok (.iload_n 3, 1) := by decide +kernel
theorem dX10_handAt_28 : decode cX10_handAt 28 = .ok (.ireturn, 1) := by decide +kernel
theorem dX10_handAt_29 : decode cX10_handAt 29 = .ok (.iinc 2 1, 3) := by decide +kernel
theorem dX10_handAt_32 : decode cX10_handAt 32 = .ok (.iinc 3 1, 3) := by decide +kernel
theorem dX10_handAt_35 : decode cX10_handAt 35 = .ok (.goto (-31), 3) := by decide +kernel
theorem dX10_handAt_38 : decode cX10_handAt 38 = .ok (.iconst (-1), 1) := by decide +kernel
theorem dX10_handAt_39 : decode cX10_handAt 39 = .ok (.ireturn, 1) := by decide +kernel
theorem dX10_isPlace_0 : decode cX10_isPlace 0 = .ok (.iload_n 1, 1) := by decide +kernel
theorem dX10_isPlace_1 : decode cX10_isPlace 1 = .ok (.iconst 0, 1) := by decide +kernel
theorem dX10_isPlace_2 : decode cX10_isPlace 2 = .ok (.aload_n 0, 1) := by decide +kernel
theorem dX10_isPlace_3 : decode cX10_isPlace 3 = .ok (.invokevirtual 160, 3) := by decide +kernel
theorem dX10_isPlace_6 : decode cX10_isPlace 6 = .ok (.aload_n 0, 1) := by decide +kernel
theorem dX10_isPlace_7 : decode cX10_isPlace 7 = .ok (.getfield 163, 3) := by decide +kernel
theorem dX10_isPlace_10 : decode cX10_isPlace 10 = .ok (.iadd, 1) := by decide +kernel
theorem dX10_isPlace_11 : decode cX10_isPlace 11 = .ok (.iconst 1, 1) := by decide +kernel
theorem dX10_isPlace_12 : decode cX10_isPlace 12 = .ok (.isub, 1) := by decide +kernel
theorem dX10_isPlace_13 : decode cX10_isPlace 13 = .ok (.invokestatic 156, 3) := by decide +kernel
theorem dX10_isPlace_16 : decode cX10_isPlace 16 = .ok (.ireturn, 1) := by decide +kernel
theorem dX10_handFits_0 : decode cX10_handFits 0 = .ok (.iconst 0, 1) := by decide +kernel
theorem dX10_handFits_1 : decode cX10_handFits 1 = .ok (.istore_n 3, 1) := by decide +kernel
theorem dX10_handFits_2 : decode cX10_handFits 2 = .ok (.iload_n 3, 1) := by decide +kernel
theorem dX10_handFits_3 : decode cX10_handFits 3 = .ok (.aload_n 0, 1) := by decide +kernel
theorem dX10_handFits_4 : decode cX10_handFits 4 = .ok (.getfield 44, 3) := by decide +kernel
theorem dX10_handFits_7 : decode cX10_handFits 7 = .ok (.iload_n 1, 1) := by decide +kernel
theorem dX10_handFits_8 : decode cX10_handFits 8 = .ok (.iaload, 1) := by decide +kernel
theorem dX10_handFits_9 : decode cX10_handFits 9 = .ok (.if_icmp .ge 29, 3) := by decide +kernel
theorem dX10_handFits_12 : decode cX10_handFits 12 = .ok (.aload_n 0, 1) := by decide +kernel
theorem dX10_handFits_13 : decode cX10_handFits 13 = .ok (.iload_n 2, 1) := by decide +kernel
theorem dX10_handFits_14 : decode cX10_handFits 14 = .ok (.aload_n 0, 1) := by decide +kernel
theorem dX10_handFits_15 : decode cX10_handFits 15 = .ok (.getfield 47, 3) := by decide +kernel
theorem dX10_handFits_18 : decode cX10_handFits 18 = .ok (.iconst 4, 1) := by decide +kernel
theorem dX10_handFits_19 : decode cX10_handFits 19 = .ok (.iload_n 1, 1) := by decide +kernel
theorem dX10_handFits_20 : decode cX10_handFits 20 = .ok (.imul, 1) := by decide +kernel
theorem dX10_handFits_21 : decode cX10_handFits 21 = .ok (.iload_n 3, 1) := by decide +kernel
theorem dX10_handFits_22 : decode cX10_handFits 22 = .ok (.iadd, 1) := by decide +kernel
theorem dX10_handFits_23 : decode cX10_handFits 23 = .ok (.iaload, 1) := by decide +kernel
theorem dX10_handFits_24 : decode cX10_handFits 24 = .ok (.invokevirtual 166, 3) := by decide +kernel
theorem dX10_handFits_27 : decode cX10_handFits 27 = .ok (.ifCond .ne 5, 3) := by decide +kernel
theorem dX10_handFits_30 : decode cX10_handFits 30 = .ok (.iconst 0, 1) := by decide +kernel
theorem dX10_handFits_31 : decode cX10_handFits 31 = .ok (.ireturn, 1) := by decide +kernel
theorem dX10_handFits_32 : decode cX10_handFits 32 = .ok (.iinc 3 1, 3) := by decide +kernel
theorem dX10_handFits_35 : decode cX10_handFits 35 = .ok (.goto (-33), 3) := by decide +kernel
theorem dX10_handFits_38 : decode cX10_handFits 38 = .ok (.iconst 1, 1) := by decide +kernel
theorem dX10_handFits_39 : decode cX10_handFits 39 = .ok (.ireturn, 1) := by decide +kernel
theorem dX10_learntFits_0 : decode cX10_learntFits 0 = .ok (.iconst 0, 1) := by decide +kernel
theorem dX10_learntFits_1 : decode cX10_learntFits 1 = .ok (.istore_n 3, 1) := by decide +kernel
theorem dX10_learntFits_2 : decode cX10_learntFits 2 = .ok (.iload_n 3, 1) := by decide +kernel
theorem dX10_learntFits_3 : decode cX10_learntFits 3 = .ok (.aload_n 0, 1) := by decide +kernel
theorem dX10_learntFits_4 : decode cX10_learntFits 4 = .ok (.getfield 56, 3) := by decide +kernel
theorem dX10_learntFits_7 : decode cX10_learntFits 7 = .ok (.iload_n 1, 1) := by decide +kernel
theorem dX10_learntFits_8 : decode cX10_learntFits 8 = .ok (.iaload, 1) := by decide +kernel
theorem dX10_learntFits_9 : decode cX10_learntFits 9 = .ok (.if_icmp .ge 29, 3) := by decide +kernel
theorem dX10_learntFits_12 : decode cX10_learntFits 12 = .ok (.aload_n 0, 1) := by decide +kernel
theorem dX10_learntFits_13 : decode cX10_learntFits 13 = .ok (.iload_n 2, 1) := by decide +kernel
theorem dX10_learntFits_14 : decode cX10_learntFits 14 = .ok (.aload_n 0, 1) := by decide +kernel
theorem dX10_learntFits_15 : decode cX10_learntFits 15 = .ok (.getfield 59, 3) := by decide +kernel
theorem dX10_learntFits_18 : decode cX10_learntFits 18 = .ok (.iconst 2, 1) := by decide +kernel
theorem dX10_learntFits_19 : decode cX10_learntFits 19 = .ok (.iload_n 1, 1) := by decide +kernel
theorem dX10_learntFits_20 : decode cX10_learntFits 20 = .ok (.imul, 1) := by decide +kernel
theorem dX10_learntFits_21 : decode cX10_learntFits 21 = .ok (.iload_n 3, 1) := by decide +kernel
theorem dX10_learntFits_22 : decode cX10_learntFits 22 = .ok (.iadd, 1) := by decide +kernel
theorem dX10_learntFits_23 : decode cX10_learntFits 23 = .ok (.iaload, 1) := by decide +kernel
theorem dX10_learntFits_24 : decode cX10_learntFits 24 = .ok (.invokevirtual 166, 3) := by decide +kernel
theorem dX10_learntFits_27 : decode cX10_learntFits 27 = .ok (.ifCond .ne 5, 3) := by decide +kernel
theorem dX10_learntFits_30 : decode cX10_learntFits 30 = .ok (.iconst 0, 1) := by decide +kernel
theorem dX10_learntFits_31 : decode cX10_learntFits 31 = .ok (.ireturn, 1) := by decide +kernel
theorem dX10_learntFits_32 : decode cX10_learntFits 32 = .ok (.iinc 3 1, 3) := by decide +kernel
theorem dX10_learntFits_35 : decode cX10_learntFits 35 = .ok (.goto (-33), 3) := by decide +kernel
theorem dX10_learntFits_38 : decode cX10_learntFits 38 = .ok (.iconst 1, 1) := by decide +kernel
theorem dX10_learntFits_39 : decode cX10_learntFits 39 = .ok (.ireturn, 1) := by decide +kernel
theorem dX10_fits_0 : decode cX10_fits 0 = .ok (.aload_n 0, 1) := by decide +kernel
theorem dX10_fits_1 : decode cX10_fits 1 = .ok (.iload_n 1, 1) := by decide +kernel
theorem dX10_fits_2 : decode cX10_fits 2 = .ok (.invokevirtual 169, 3) := by decide +kernel
theorem dX10_fits_5 : decode cX10_fits 5 = .ok (.istore_n 3, 1) := by decide +kernel
theorem dX10_fits_6 : decode cX10_fits 6 = .ok (.iload_n 3, 1) := by decide +kernel
theorem dX10_fits_7 : decode cX10_fits 7 = .ok (.ifCond .lt 12, 3) := by decide +kernel
theorem dX10_fits_10 : decode cX10_fits 10 = .ok (.aload_n 0, 1) := by decide +kernel
theorem dX10_fits_11 : decode cX10_fits 11 = .ok (.iload_n 3, 1) := by decide +kernel
theorem dX10_fits_12 : decode cX10_fits 12 = .ok (.iload_n 2, 1) := by decide +kernel
theorem dX10_fits_13 : decode cX10_fits 13 = .ok (.invokevirtual 173, 3) := by decide +kernel
theorem dX10_fits_16 : decode cX10_fits 16 = .ok (.goto 14, 3) := by decide +kernel
theorem dX10_fits_19 : decode cX10_fits 19 = .ok (.aload_n 0, 1) := by decide +kernel
theorem dX10_fits_20 : decode cX10_fits 20 = .ok (.iload_n 1, 1) := by decide +kernel
theorem dX10_fits_21 : decode cX10_fits 21 = .ok (.aload_n 0, 1) := by decide +kernel
theorem dX10_fits_22 : decode cX10_fits 22 = .ok (.invokevirtual 160, 3) := by decide +kernel
theorem dX10_fits_25 : decode cX10_fits 25 = .ok (.isub, 1) := by decide +kernel
theorem dX10_fits_26 : decode cX10_fits 26 = .ok (.iload_n 2, 1) := by decide +kernel
theorem dX10_fits_27 : decode cX10_fits 27 = .ok (.invokevirtual 176, 3) := by decide +kernel
theorem dX10_fits_30 : decode cX10_fits 30 = .ok (.ireturn, 1) := by decide +kernel
theorem dX10_firstThatFits_0 : decode cX10_firstThatFits 0 = .ok (.aload_n 0, 1) := by decide +kernel
theorem dX10_firstThatFits_1 : decode cX10_firstThatFits 1 = .ok (.invokevirtual 160, 3) := by decide +kernel
theorem dX10_firstThatFits_4 : decode cX10_firstThatFits 4 = .ok (.aload_n 0, 1) := by decide +kernel
theorem dX10_firstThatFits_5 : decode cX10_firstThatFits 5 = .ok (.getfield 163, 3) := by decide +kernel
theorem dX10_firstThatFits_8 : decode cX10_firstThatFits 8 = .ok (.iadd, 1) := by decide +kernel
theorem dX10_firstThatFits_9 : decode cX10_firstThatFits 9 = .ok (.istore_n 2, 1) := by decide +kernel
theorem dX10_firstThatFits_10 : decode cX10_firstThatFits 10 = .ok (.iconst 0, 1) := by decide +kernel
theorem dX10_firstThatFits_11 : decode cX10_firstThatFits 11 = .ok (.istore_n 3, 1) := by decide +kernel
theorem dX10_firstThatFits_12 : decode cX10_firstThatFits 12 = .ok (.iload_n 3, 1) := by decide +kernel
theorem dX10_firstThatFits_13 : decode cX10_firstThatFits 13 = .ok (.iload_n 2, 1) := by decide +kernel
theorem dX10_firstThatFits_14 : decode cX10_firstThatFits 14 = .ok (.if_icmp .ge 20, 3) := by decide +kernel
theorem dX10_firstThatFits_17 : decode cX10_firstThatFits 17 = .ok (.aload_n 0, 1) := by decide +kernel
theorem dX10_firstThatFits_18 : decode cX10_firstThatFits 18 = .ok (.iload_n 3, 1) := by decide +kernel
theorem dX10_firstThatFits_19 : decode cX10_firstThatFits 19 = .ok (.iload_n 1, 1) := by decide +kernel
theorem dX10_firstThatFits_20 : decode cX10_firstThatFits 20 = .ok (.invokevirtual 179, 3) := by decide +kernel
theorem dX10_firstThatFits_23 : decode cX10_firstThatFits 23 = .ok (.ifCond .eq 5, 3) := by decide +kernel
theorem dX10_firstThatFits_26 : decode cX10_firstThatFits 26 = .ok (.iload_n 3, 1) := by decide +kernel
theorem dX10_firstThatFits_27 : decode cX10_firstThatFits 27 = .ok (.ireturn, 1) := by decide +kernel
theorem dX10_firstThatFits_28 : decode cX10_firstThatFits 28 = .ok (.iinc 3 1, 3) := by decide +kernel
theorem dX10_firstThatFits_31 : decode cX10_firstThatFits 31 = .ok (.goto (-19), 3) := by decide +kernel
theorem dX10_firstThatFits_34 : decode cX10_firstThatFits 34 = .ok (.iconst (-1), 1) := by decide +kernel
theorem dX10_firstThatFits_35 : decode cX10_firstThatFits 35 = .ok (.ireturn, 1) := by decide +kernel
theorem dX10_folderAt_0 : decode cX10_folderAt 0 = .ok (.aload_n 0, 1) := by decide +kernel
theorem dX10_folderAt_1 : decode cX10_folderAt 1 = .ok (.iload_n 1, 1) := by decide +kernel
theorem dX10_folderAt_2 : decode cX10_folderAt 2 = .ok (.invokevirtual 169, 3) := by decide +kernel
theorem dX10_folderAt_5 : decode cX10_folderAt 5 = .ok (.istore_n 2, 1) := by decide +kernel
theorem dX10_folderAt_6 : decode cX10_folderAt 6 = .ok (.iload_n 2, 1) := by decide +kernel
theorem dX10_folderAt_7 : decode cX10_folderAt 7 = .ok (.ifCond .lt 12, 3) := by decide +kernel
theorem dX10_folderAt_10 : decode cX10_folderAt 10 = .ok (.aload_n 0, 1) := by decide +kernel
theorem dX10_folderAt_11 : decode cX10_folderAt 11 = .ok (.getfield 50, 3) := by decide +kernel
theorem dX10_folderAt_14 : decode cX10_folderAt 14 = .ok (.iload_n 2, 1) := by decide +kernel
theorem dX10_folderAt_15 : decode cX10_folderAt 15 = .ok (.iaload, 1) := by decide +kernel
theorem dX10_folderAt_16 : decode cX10_folderAt 16 = .ok (.goto 14, 3) := by decide +kernel
theorem dX10_folderAt_19 : decode cX10_folderAt 19 = .ok (.aload_n 0, 1) := by decide +kernel
theorem dX10_folderAt_20 : decode cX10_folderAt 20 = .ok (.getfield 62, 3) := by decide +kernel
theorem dX10_folderAt_23 : decode cX10_folderAt 23 = .ok (.iload_n 1, 1) := by decide +kernel
theorem dX10_folderAt_24 : decode cX10_folderAt 24 = .ok (.aload_n 0, 1) := by decide +kernel
theorem dX10_folderAt_25 : decode cX10_folderAt 25 = .ok (.invokevirtual 160, 3) := by decide +kernel
theorem dX10_folderAt_28 : decode cX10_folderAt 28 = .ok (.isub, 1) := by decide +kernel
theorem dX10_folderAt_29 : decode cX10_folderAt 29 = .ok (.iaload, 1) := by decide +kernel
theorem dX10_folderAt_30 : decode cX10_folderAt 30 = .ok (.ireturn, 1) := by decide +kernel
theorem dX10_nameAt_0 : decode cX10_nameAt 0 = .ok (.aload_n 0, 1) := by decide +kernel
theorem dX10_nameAt_1 : decode cX10_nameAt 1 = .ok (.iload_n 1, 1) := by decide +kernel
theorem dX10_nameAt_2 : decode cX10_nameAt 2 = .ok (.invokevirtual 169, 3) := by decide +kernel
theorem dX10_nameAt_5 : decode cX10_nameAt 5 = .ok (.istore_n 2, 1) := by decide +kernel
theorem dX10_nameAt_6 : decode cX10_nameAt 6 = .ok (.iload_n 2, 1) := by decide +kernel
theorem dX10_nameAt_7 : decode cX10_nameAt 7 = .ok (.ifCond .lt 7, 3) := by decide +kernel
theorem dX10_nameAt_10 : decode cX10_nameAt 10 = .ok (.iload_n 2, 1) := by decide +kernel
theorem dX10_nameAt_11 : decode cX10_nameAt 11 = .ok (.goto 14, 3) := by decide +kernel
theorem dX10_nameAt_14 : decode cX10_nameAt 14 = .ok (.aload_n 0, 1) := by decide +kernel
theorem dX10_nameAt_15 : decode cX10_nameAt 15 = .ok (.getfield 53, 3) := by decide +kernel
theorem dX10_nameAt_18 : decode cX10_nameAt 18 = .ok (.iload_n 1, 1) := by decide +kernel
theorem dX10_nameAt_19 : decode cX10_nameAt 19 = .ok (.aload_n 0, 1) := by decide +kernel
theorem dX10_nameAt_20 : decode cX10_nameAt 20 = .ok (.invokevirtual 160, 3) := by decide +kernel
theorem dX10_nameAt_23 : decode cX10_nameAt 23 = .ok (.isub, 1) := by decide +kernel
theorem dX10_nameAt_24 : decode cX10_nameAt 24 = .ok (.iaload, 1) := by decide +kernel
theorem dX10_nameAt_25 : decode cX10_nameAt 25 = .ok (.ireturn, 1) := by decide +kernel
theorem dX10_byAt_0 : decode cX10_byAt 0 = .ok (.aload_n 0, 1) := by decide +kernel
theorem dX10_byAt_1 : decode cX10_byAt 1 = .ok (.iload_n 1, 1) := by decide +kernel
theorem dX10_byAt_2 : decode cX10_byAt 2 = .ok (.invokevirtual 169, 3) := by decide +kernel
theorem dX10_byAt_5 : decode cX10_byAt 5 = .ok (.istore_n 2, 1) := by decide +kernel
theorem dX10_byAt_6 : decode cX10_byAt 6 = .ok (.iload_n 2, 1) := by decide +kernel
theorem dX10_byAt_7 : decode cX10_byAt 7 = .ok (.ifCond .lt 12, 3) := by decide +kernel
theorem dX10_byAt_10 : decode cX10_byAt 10 = .ok (.aload_n 0, 1) := by decide +kernel
theorem dX10_byAt_11 : decode cX10_byAt 11 = .ok (.getfield 41, 3) := by decide +kernel
theorem dX10_byAt_14 : decode cX10_byAt 14 = .ok (.iload_n 2, 1) := by decide +kernel
theorem dX10_byAt_15 : decode cX10_byAt 15 = .ok (.iaload, 1) := by decide +kernel
theorem dX10_byAt_16 : decode cX10_byAt 16 = .ok (.goto 14, 3) := by decide +kernel
theorem dX10_byAt_19 : decode cX10_byAt 19 = .ok (.aload_n 0, 1) := by decide +kernel
theorem dX10_byAt_20 : decode cX10_byAt 20 = .ok (.getfield 53, 3) := by decide +kernel
theorem dX10_byAt_23 : decode cX10_byAt 23 = .ok (.iload_n 1, 1) := by decide +kernel
theorem dX10_byAt_24 : decode cX10_byAt 24 = .ok (.aload_n 0, 1) := by decide +kernel
theorem dX10_byAt_25 : decode cX10_byAt 25 = .ok (.invokevirtual 160, 3) := by decide +kernel
theorem dX10_byAt_28 : decode cX10_byAt 28 = .ok (.isub, 1) := by decide +kernel
theorem dX10_byAt_29 : decode cX10_byAt 29 = .ok (.iaload, 1) := by decide +kernel
theorem dX10_byAt_30 : decode cX10_byAt 30 = .ok (.ireturn, 1) := by decide +kernel
theorem dX10_letter_0 : decode cX10_letter 0 = .ok (.aload_n 0, 1) := by decide +kernel
theorem dX10_letter_1 : decode cX10_letter 1 = .ok (.getfield 182, 3) := by decide +kernel
theorem dX10_letter_4 : decode cX10_letter 4 = .ok (.bipush 100, 2) := by decide +kernel
theorem dX10_letter_6 : decode cX10_letter 6 = .ok (.if_icmp .eq 45, 3) := by decide +kernel
theorem dX10_letter_9 : decode cX10_letter 9 = .ok (.iload_n 1, 1) := by decide +kernel
theorem dX10_letter_10 : decode cX10_letter 10 = .ok (.iconst 0, 1) := by decide +kernel
theorem dX10_letter_11 : decode cX10_letter 11 = .ok (.bipush 15, 2) := by decide +kernel
theorem dX10_letter_13 : decode cX10_letter 13 = .ok (.invokestatic 156, 3) := by decide +kernel
theorem dX10_letter_16 : decode cX10_letter 16 = .ok (.ifCond .eq 35, 3) := by decide +kernel
theorem dX10_letter_19 : decode cX10_letter 19 = .ok (.iload_n 2, 1) := by decide +kernel
theorem dX10_letter_20 : decode cX10_letter 20 = .ok (.iconst (-1), 1) := by decide +kernel
theorem dX10_letter_21 : decode cX10_letter 21 = .ok (.bipush 7, 2) := by decide +kernel
theorem dX10_letter_23 : decode cX10_letter 23 = .ok (.invokestatic 156, 3) := by decide +kernel
theorem dX10_letter_26 : decode cX10_letter 26 = .ok (.ifCond .eq 25, 3) := by decide +kernel
theorem dX10_letter_29 : decode cX10_letter 29 = .ok (.iload_n 3, 1) := by decide +kernel
theorem dX10_letter_30 : decode cX10_letter 30 = .ok (.iconst 0, 1) := by decide +kernel
theorem dX10_letter_31 : decode cX10_letter 31 = .ok (.sipush 999, 3) := by decide +kernel
theorem dX10_letter_34 : decode cX10_letter 34 = .ok (.invokestatic 156, 3) := by decide +kernel
theorem dX10_letter_37 : decode cX10_letter 37 = .ok (.ifCond .eq 14, 3) := by decide +kernel
theorem dX10_letter_40 : decode cX10_letter 40 = .ok (.iload 4, 2) := by decide +kernel
theorem dX10_letter_42 : decode cX10_letter 42 = .ok (.iconst 0, 1) := by decide +kernel
theorem dX10_letter_43 : decode cX10_letter 43 = .ok (.ldc 185, 2) := by decide +kernel
theorem dX10_letter_45 : decode cX10_letter 45 = .ok (.invokestatic 156, 3) := by decide +kernel
theorem dX10_letter_48 : decode cX10_letter 48 = .ok (.ifCond .ne 5, 3) := by decide +kernel
theorem dX10_letter_51 : decode cX10_letter 51 = .ok (.iconst (-1), 1) := by decide +kernel
theorem dX10_letter_52 : decode cX10_letter 52 = .ok (.ireturn, 1) := by decide +kernel
theorem dX10_letter_53 : decode cX10_letter 53 = .ok (.aload_n 0, 1) := by decide +kernel
theorem dX10_letter_54 : decode cX10_letter 54 = .ok (.getfield 182, 3) := by decide +kernel
theorem dX10_letter_57 : decode cX10_letter 57 = .ok (.istore 5, 2) := by decide +kernel
theorem dX10_letter_59 : decode cX10_letter 59 = .ok (.aload_n 0, 1) := by decide +kernel
theorem dX10_letter_60 : decode cX10_letter 60 = .ok (.getfield 7, 3) := by decide +kernel
theorem dX10_letter_63 : decode cX10_letter 63 = .ok (.iload 5, 2) := by decide +kernel
theorem dX10_letter_65 : decode cX10_letter 65 = .ok (.iload_n 1, 1) := by decide +kernel
theorem dX10_letter_66 : decode cX10_letter 66 = .ok (.iastore, 1) := by decide +kernel
theorem dX10_letter_67 : decode cX10_letter 67 = .ok (.aload_n 0, 1) := by decide +kernel
theorem dX10_letter_68 : decode cX10_letter 68 = .ok (.getfield 13, 3) := by decide +kernel
theorem dX10_letter_71 : decode cX10_letter 71 = .ok (.iload 5, 2) := by decide +kernel
theorem dX10_letter_73 : decode cX10_letter 73 = .ok (.iload_n 2, 1) := by decide +kernel
theorem dX10_letter_74 : decode cX10_letter 74 = .ok (.iastore, 1) := by decide +kernel
theorem dX10_letter_75 : decode cX10_letter 75 = .ok (.aload_n 0, 1) := by decide +kernel
theorem dX10_letter_76 : decode cX10_letter 76 = .ok (.getfield 16, 3) := by decide +kernel
theorem dX10_letter_79 : decode cX10_letter 79 = .ok (.iload 5, 2) := by decide +kernel
theorem dX10_letter_81 : decode cX10_letter 81 = .ok (.iload_n 3, 1) := by decide +kernel
theorem dX10_letter_82 : decode cX10_letter 82 = .ok (.iastore, 1) := by decide +kernel
theorem dX10_letter_83 : decode cX10_letter 83 = .ok (.aload_n 0, 1) := by decide +kernel
theorem dX10_letter_84 : decode cX10_letter 84 = .ok (.getfield 19, 3) := by decide +kernel
theorem dX10_letter_87 : decode cX10_letter 87 = .ok (.iload 5, 2) := by decide +kernel
theorem dX10_letter_89 : decode cX10_letter 89 = .ok (.iload 4, 2) := by decide +kernel
theorem dX10_letter_91 : decode cX10_letter 91 = .ok (.iastore, 1) := by decide +kernel
theorem dX10_letter_92 : decode cX10_letter 92 = .ok (.aload_n 0, 1) := by decide +kernel
theorem dX10_letter_93 : decode cX10_letter 93 = .ok (.dup, 1) := by decide +kernel
theorem dX10_letter_94 : decode cX10_letter 94 = .ok (.getfield 182, 3) := by decide +kernel
theorem dX10_letter_97 : decode cX10_letter 97 = .ok (.iconst 1, 1) := by decide +kernel
theorem dX10_letter_98 : decode cX10_letter 98 = .ok (.iadd, 1) := by decide +kernel
theorem dX10_letter_99 : decode cX10_letter 99 = .ok (.putfield 182, 3) := by decide +kernel
theorem dX10_letter_102 : decode cX10_letter 102 = .ok (.aload_n 0, 1) := by decide +kernel
theorem dX10_letter_103 : decode cX10_letter 103 = .ok (.iload 5, 2) := by decide +kernel
theorem dX10_letter_105 : decode cX10_letter 105 = .ok (.invokevirtual 186, 3) := by decide +kernel
theorem dX10_letter_108 : decode cX10_letter 108 = .ok (.istore 6, 2) := by decide +kernel
theorem dX10_letter_110 : decode cX10_letter 110 = .ok (.aload_n 0, 1) := by decide +kernel
theorem dX10_letter_111 : decode cX10_letter 111 = .ok (.getfield 25, 3) := by decide +kernel
theorem dX10_letter_114 : decode cX10_letter 114 = .ok (.iload 5, 2) := by decide +kernel
theorem dX10_letter_116 : decode cX10_letter 116 = .ok (.iload 6, 2) := by decide +kernel
theorem dX10_letter_118 : decode cX10_letter 118 = .ok (.ifCond .ge 7, 3) := by decide +kernel
theorem dX10_letter_121 : decode cX10_letter 121 = .ok (.iconst (-1), 1) := by decide +kernel
theorem dX10_letter_122 : decode cX10_letter 122 = .ok (.goto 9, 3) := by decide +kernel
theorem dX10_letter_125 : decode cX10_letter 125 = .ok (.aload_n 0, 1) := by decide +kernel
theorem dX10_letter_126 : decode cX10_letter 126 = .ok (.iload 6, 2) := by decide +kernel
theorem dX10_letter_128 : decode cX10_letter 128 = .ok (.invokevirtual 189, 3) := by decide +kernel
theorem dX10_letter_131 : decode cX10_letter 131 = .ok (.iastore, 1) := by decide +kernel
theorem dX10_letter_132 : decode cX10_letter 132 = .ok (.aload_n 0, 1) := by decide +kernel
theorem dX10_letter_133 : decode cX10_letter 133 = .ok (.getfield 28, 3) := by decide +kernel
theorem dX10_letter_136 : decode cX10_letter 136 = .ok (.iload 5, 2) := by decide +kernel
theorem dX10_letter_138 : decode cX10_letter 138 = .ok (.iload 6, 2) := by decide +kernel
theorem dX10_letter_140 : decode cX10_letter 140 = .ok (.ifCond .ge 7, 3) := by decide +kernel
theorem dX10_letter_143 : decode cX10_letter 143 = .ok (.iconst (-1), 1) := by decide +kernel
theorem dX10_letter_144 : decode cX10_letter 144 = .ok (.goto 9, 3) := by decide +kernel
theorem dX10_letter_147 : decode cX10_letter 147 = .ok (.aload_n 0, 1) := by decide +kernel
theorem dX10_letter_148 : decode cX10_letter 148 = .ok (.iload 6, 2) := by decide +kernel
theorem dX10_letter_150 : decode cX10_letter 150 = .ok (.invokevirtual 192, 3) := by decide +kernel
theorem dX10_letter_153 : decode cX10_letter 153 = .ok (.iastore, 1) := by decide +kernel
theorem dX10_letter_154 : decode cX10_letter 154 = .ok (.aload_n 0, 1) := by decide +kernel
theorem dX10_letter_155 : decode cX10_letter 155 = .ok (.getfield 31, 3) := by decide +kernel
theorem dX10_letter_158 : decode cX10_letter 158 = .ok (.iload 5, 2) := by decide +kernel
theorem dX10_letter_160 : decode cX10_letter 160 = .ok (.iload 6, 2) := by decide +kernel
theorem dX10_letter_162 : decode cX10_letter 162 = .ok (.ifCond .ge 7, 3) := by decide +kernel
theorem dX10_letter_165 : decode cX10_letter 165 = .ok (.iconst 0, 1) := by decide +kernel
theorem dX10_letter_166 : decode cX10_letter 166 = .ok (.goto 9, 3) := by decide +kernel
theorem dX10_letter_169 : decode cX10_letter 169 = .ok (.aload_n 0, 1) := by decide +kernel
theorem dX10_letter_170 : decode cX10_letter 170 = .ok (.iload 6, 2) := by decide +kernel
theorem dX10_letter_172 : decode cX10_letter 172 = .ok (.invokevirtual 195, 3) := by decide +kernel
theorem dX10_letter_175 : decode cX10_letter 175 = .ok (.iastore, 1) := by decide +kernel
theorem dX10_letter_176 : decode cX10_letter 176 = .ok (.aload_n 0, 1) := by decide +kernel
theorem dX10_letter_177 : decode cX10_letter 177 = .ok (.getfield 22, 3) := by decide +kernel
theorem dX10_letter_180 : decode cX10_letter 180 = .ok (.iload 5, 2) := by decide +kernel
theorem dX10_letter_182 : decode cX10_letter 182 = .ok (.aload_n 0, 1) := by decide +kernel
theorem dX10_letter_183 : decode cX10_letter 183 = .ok (.getfield 31, 3) := by decide +kernel
theorem dX10_letter_186 : decode cX10_letter 186 = .ok (.iload 5, 2) := by decide +kernel
theorem dX10_letter_188 : decode cX10_letter 188 = .ok (.iaload, 1) := by decide +kernel
theorem dX10_letter_189 : decode cX10_letter 189 = .ok (.iastore, 1) := by decide +kernel
theorem dX10_letter_190 : decode cX10_letter 190 = .ok (.aload_n 0, 1) := by decide +kernel
theorem dX10_letter_191 : decode cX10_letter 191 = .ok (.getfield 34, 3) := by decide +kernel
theorem dX10_letter_194 : decode cX10_letter 194 = .ok (.iload 5, 2) := by decide +kernel
theorem dX10_letter_196 : decode cX10_letter 196 = .ok (.iconst (-1), 1) := by decide +kernel
theorem dX10_letter_197 : decode cX10_letter 197 = .ok (.iastore, 1) := by decide +kernel
theorem dX10_letter_198 : decode cX10_letter 198 = .ok (.iload 5, 2) := by decide +kernel
theorem dX10_letter_200 : decode cX10_letter 200 = .ok (.ireturn, 1) := by decide +kernel
theorem dX10_isLetter_0 : decode cX10_isLetter 0 = .ok (.iload_n 1, 1) := by decide +kernel
theorem dX10_isLetter_1 : decode cX10_isLetter 1 = .ok (.iconst 0, 1) := by decide +kernel
theorem dX10_isLetter_2 : decode cX10_isLetter 2 = .ok (.aload_n 0, 1) := by decide +kernel
theorem dX10_isLetter_3 : decode cX10_isLetter 3 = .ok (.getfield 182, 3) := by decide +kernel
theorem dX10_isLetter_6 : decode cX10_isLetter 6 = .ok (.iconst 1, 1) := by decide +kernel
theorem dX10_isLetter_7 : decode cX10_isLetter 7 = .ok (.isub, 1) := by decide +kernel
theorem dX10_isLetter_8 : decode cX10_isLetter 8 = .ok (.invokestatic 156, 3) := by decide +kernel
theorem dX10_isLetter_11 : decode cX10_isLetter 11 = .ok (.ireturn, 1) := by decide +kernel
theorem dX10_move_0 : decode cX10_move 0 = .ok (.aload_n 0, 1) := by decide +kernel
theorem dX10_move_1 : decode cX10_move 1 = .ok (.iload_n 1, 1) := by decide +kernel
theorem dX10_move_2 : decode cX10_move 2 = .ok (.invokevirtual 198, 3) := by decide +kernel
theorem dX10_move_5 : decode cX10_move 5 = .ok (.ifCond .eq 23, 3) := by decide +kernel
theorem dX10_move_8 : decode cX10_move 8 = .ok (.iload_n 2, 1) := by decide +kernel
theorem dX10_move_9 : decode cX10_move 9 = .ok (.iconst 0, 1) := by decide +kernel
theorem dX10_move_10 : decode cX10_move 10 = .ok (.bipush 7, 2) := by decide +kernel
theorem dX10_move_12 : decode cX10_move 12 = .ok (.invokestatic 156, 3) := by decide +kernel
theorem dX10_move_15 : decode cX10_move 15 = .ok (.ifCond .eq 13, 3) := by decide +kernel
theorem dX10_move_18 : decode cX10_move 18 = .ok (.aload_n 0, 1) := by decide +kernel
theorem dX10_move_19 : decode cX10_move 19 = .ok (.getfield 201, 3) := by decide +kernel
theorem dX10_move_22 : decode cX10_move 22 = .ok (.sipush 200, 3) := by decide +kernel
theorem dX10_move_25 : decode cX10_move 25 = .ok (.if_icmp .ne 5, 3) := by decide +kernel
theorem dX10_move_28 : decode cX10_move 28 = .ok (.iconst 0, 1) := by decide +kernel
theorem dX10_move_29 : decode cX10_move 29 = .ok (.ireturn, 1) := by decide +kernel
theorem dX10_move_30 : decode cX10_move 30 = .ok (.aload_n 0, 1) := by decide +kernel
theorem dX10_move_31 : decode cX10_move 31 = .ok (.getfield 78, 3) := by decide +kernel
theorem dX10_move_34 : decode cX10_move 34 = .ok (.aload_n 0, 1) := by decide +kernel
theorem dX10_move_35 : decode cX10_move 35 = .ok (.getfield 201, 3) := by decide +kernel
theorem dX10_move_38 : decode cX10_move 38 = .ok (.iload_n 1, 1) := by decide +kernel
theorem dX10_move_39 : decode cX10_move 39 = .ok (.iastore, 1) := by decide +kernel
theorem dX10_move_40 : decode cX10_move 40 = .ok (.aload_n 0, 1) := by decide +kernel
theorem dX10_move_41 : decode cX10_move 41 = .ok (.getfield 81, 3) := by decide +kernel
theorem dX10_move_44 : decode cX10_move 44 = .ok (.aload_n 0, 1) := by decide +kernel
theorem dX10_move_45 : decode cX10_move 45 = .ok (.getfield 201, 3) := by decide +kernel
theorem dX10_move_48 : decode cX10_move 48 = .ok (.aload_n 0, 1) := by decide +kernel
theorem dX10_move_49 : decode cX10_move 49 = .ok (.getfield 22, 3) := by decide +kernel
theorem dX10_move_52 : decode cX10_move 52 = .ok (.iload_n 1, 1) := by decide +kernel
theorem dX10_move_53 : decode cX10_move 53 = .ok (.iaload, 1) := by decide +kernel
theorem dX10_move_54 : decode cX10_move 54 = .ok (.iastore, 1) := by decide +kernel
theorem dX10_move_55 : decode cX10_move 55 = .ok (.aload_n 0, 1) := by decide +kernel
theorem dX10_move_56 : decode cX10_move 56 = .ok (.getfield 84, 3) := by decide +kernel
theorem dX10_move_59 : decode cX10_move 59 = .ok (.aload_n 0, 1) := by decide +kernel
theorem dX10_move_60 : decode cX10_move 60 = .ok (.getfield 201, 3) := by decide +kernel
theorem dX10_move_63 : decode cX10_move 63 = .ok (.aload_n 0, 1) := by decide +kernel
theorem dX10_move_64 : decode cX10_move 64 = .ok (.getfield 34, 3) := by decide +kernel
theorem dX10_move_67 : decode cX10_move 67 = .ok (.iload_n 1, 1) := by decide +kernel
theorem dX10_move_68 : decode cX10_move 68 = .ok (.iaload, 1) := by decide +kernel
theorem dX10_move_69 : decode cX10_move 69 = .ok (.iastore, 1) := by decide +kernel
theorem dX10_move_70 : decode cX10_move 70 = .ok (.aload_n 0, 1) := by decide +kernel
theorem dX10_move_71 : decode cX10_move 71 = .ok (.dup, 1) := by decide +kernel
theorem dX10_move_72 : decode cX10_move 72 = .ok (.getfield 201, 3) := by decide +kernel
theorem dX10_move_75 : decode cX10_move 75 = .ok (.iconst 1, 1) := by decide +kernel
theorem dX10_move_76 : decode cX10_move 76 = .ok (.iadd, 1) := by decide +kernel
theorem dX10_move_77 : decode cX10_move 77 = .ok (.putfield 201, 3) := by decide +kernel
theorem dX10_move_80 : decode cX10_move 80 = .ok (.aload_n 0, 1) := by decide +kernel
theorem dX10_move_81 : decode cX10_move 81 = .ok (.getfield 22, 3) := by decide +kernel
theorem dX10_move_84 : decode cX10_move 84 = .ok (.iload_n 1, 1) := by decide +kernel
theorem dX10_move_85 : decode cX10_move 85 = .ok (.iload_n 2, 1) := by decide +kernel
theorem dX10_move_86 : decode cX10_move 86 = .ok (.iastore, 1) := by decide +kernel
theorem dX10_move_87 : decode cX10_move 87 = .ok (.aload_n 0, 1) := by decide +kernel
theorem dX10_move_88 : decode cX10_move 88 = .ok (.getfield 34, 3) := by decide +kernel
theorem dX10_move_91 : decode cX10_move 91 = .ok (.iload_n 1, 1) := by decide +kernel
theorem dX10_move_92 : decode cX10_move 92 = .ok (.iload_n 2, 1) := by decide +kernel
theorem dX10_move_93 : decode cX10_move 93 = .ok (.iastore, 1) := by decide +kernel
theorem dX10_move_94 : decode cX10_move 94 = .ok (.iconst 1, 1) := by decide +kernel
theorem dX10_move_95 : decode cX10_move 95 = .ok (.ireturn, 1) := by decide +kernel
theorem dX10_undo_0 : decode cX10_undo 0 = .ok (.aload_n 0, 1) := by decide +kernel
theorem dX10_undo_1 : decode cX10_undo 1 = .ok (.getfield 201, 3) := by decide +kernel
theorem dX10_undo_4 : decode cX10_undo 4 = .ok (.ifCond .ne 5, 3) := by decide +kernel
theorem dX10_undo_7 : decode cX10_undo 7 = .ok (.iconst (-1), 1) := by decide +kernel
theorem dX10_undo_8 : decode cX10_undo 8 = .ok (.ireturn, 1) := by decide +kernel
theorem dX10_undo_9 : decode cX10_undo 9 = .ok (.aload_n 0, 1) := by decide +kernel
theorem dX10_undo_10 : decode cX10_undo 10 = .ok (.dup, 1) := by decide +kernel
theorem dX10_undo_11 : decode cX10_undo 11 = .ok (.getfield 201, 3) := by decide +kernel
theorem dX10_undo_14 : decode cX10_undo 14 = .ok (.iconst 1, 1) := by decide +kernel
theorem dX10_undo_15 : decode cX10_undo 15 = .ok (.isub, 1) := by decide +kernel
theorem dX10_undo_16 : decode cX10_undo 16 = .ok (.putfield 201, 3) := by decide +kernel
theorem dX10_undo_19 : decode cX10_undo 19 = .ok (.aload_n 0, 1) := by decide +kernel
theorem dX10_undo_20 : decode cX10_undo 20 = .ok (.getfield 78, 3) := by decide +kernel
theorem dX10_undo_23 : decode cX10_undo 23 = .ok (.aload_n 0, 1) := by decide +kernel
theorem dX10_undo_24 : decode cX10_undo 24 = .ok (.getfield 201, 3) := by decide +kernel
theorem dX10_undo_27 : decode cX10_undo 27 = .ok (.iaload, 1) := by decide +kernel
theorem dX10_undo_28 : decode cX10_undo 28 = .ok (.istore_n 1, 1) := by decide +kernel
theorem dX10_undo_29 : decode cX10_undo 29 = .ok (.aload_n 0, 1) := by decide +kernel
theorem dX10_undo_30 : decode cX10_undo 30 = .ok (.getfield 22, 3) := by decide +kernel
theorem dX10_undo_33 : decode cX10_undo 33 = .ok (.iload_n 1, 1) := by decide +kernel
theorem dX10_undo_34 : decode cX10_undo 34 = .ok (.aload_n 0, 1) := by decide +kernel
theorem dX10_undo_35 : decode cX10_undo 35 = .ok (.getfield 81, 3) := by decide +kernel
theorem dX10_undo_38 : decode cX10_undo 38 = .ok (.aload_n 0, 1) := by decide +kernel
theorem dX10_undo_39 : decode cX10_undo 39 = .ok (.getfield 201, 3) := by decide +kernel
theorem dX10_undo_42 : decode cX10_undo 42 = .ok (.iaload, 1) := by decide +kernel
theorem dX10_undo_43 : decode cX10_undo 43 = .ok (.iastore, 1) := by decide +kernel
theorem dX10_undo_44 : decode cX10_undo 44 = .ok (.aload_n 0, 1) := by decide +kernel
theorem dX10_undo_45 : decode cX10_undo 45 = .ok (.getfield 34, 3) := by decide +kernel
theorem dX10_undo_48 : decode cX10_undo 48 = .ok (.iload_n 1, 1) := by decide +kernel
theorem dX10_undo_49 : decode cX10_undo 49 = .ok (.aload_n 0, 1) := by decide +kernel
theorem dX10_undo_50 : decode cX10_undo 50 = .ok (.getfield 84, 3) := by decide +kernel
theorem dX10_undo_53 : decode cX10_undo 53 = .ok (.aload_n 0, 1) := by decide +kernel
theorem dX10_undo_54 : decode cX10_undo 54 = .ok (.getfield 201, 3) := by decide +kernel
theorem dX10_undo_57 : decode cX10_undo 57 = .ok (.iaload, 1) := by decide +kernel
theorem dX10_undo_58 : decode cX10_undo 58 = .ok (.iastore, 1) := by decide +kernel
theorem dX10_undo_59 : decode cX10_undo 59 = .ok (.iload_n 1, 1) := by decide +kernel
theorem dX10_undo_60 : decode cX10_undo 60 = .ok (.ireturn, 1) := by decide +kernel
theorem dX10_cost_0 : decode cX10_cost 0 = .ok (.iload_n 1, 1) := by decide +kernel
theorem dX10_cost_1 : decode cX10_cost 1 = .ok (.bipush 10, 2) := by decide +kernel
theorem dX10_cost_3 : decode cX10_cost 3 = .ok (.bipush 17, 2) := by decide +kernel
theorem dX10_cost_5 : decode cX10_cost 5 = .ok (.invokestatic 156, 3) := by decide +kernel
theorem dX10_cost_8 : decode cX10_cost 8 = .ok (.istore_n 3, 1) := by decide +kernel
theorem dX10_cost_9 : decode cX10_cost 9 = .ok (.iload_n 1, 1) := by decide +kernel
theorem dX10_cost_10 : decode cX10_cost 10 = .ok (.ifCond .eq 12, 3) := by decide +kernel
theorem dX10_cost_13 : decode cX10_cost 13 = .ok (.iload_n 1, 1) := by decide +kernel
theorem dX10_cost_14 : decode cX10_cost 14 = .ok (.iconst 1, 1) := by decide +kernel
theorem dX10_cost_15 : decode cX10_cost 15 = .ok (.if_icmp .eq 7, 3) := by decide +kernel
theorem dX10_cost_18 : decode cX10_cost 18 = .ok (.iload_n 3, 1) := by decide +kernel
theorem dX10_cost_19 : decode cX10_cost 19 = .ok (.ifCond .eq 23, 3) := by decide +kernel
theorem dX10_cost_22 : decode cX10_cost 22 = .ok (.iload_n 2, 1) := by decide +kernel
theorem dX10_cost_23 : decode cX10_cost 23 = .ok (.iconst 0, 1) := by decide +kernel
theorem dX10_cost_24 : decode cX10_cost 24 = .ok (.iload_n 3, 1) := by decide +kernel
theorem dX10_cost_25 : decode cX10_cost 25 = .ok (.ifCond .eq 9, 3) := by decide +kernel
theorem dX10_cost_28 : decode cX10_cost 28 = .ok (.sipush 1000, 3) := by decide +kernel
theorem dX10_cost_31 : decode cX10_cost 31 = .ok (.goto 5, 3) := by decide +kernel
theorem dX10_cost_34 : decode cX10_cost 34 = .ok (.bipush 100, 2) := by decide +kernel
theorem dX10_cost_36 : decode cX10_cost 36 = .ok (.invokestatic 156, 3) := by decide +kernel
theorem dX10_cost_39 : decode cX10_cost 39 = .ok (.ifCond .ne 5, 3) := by decide +kernel
theorem dX10_cost_42 : decode cX10_cost 42 = .ok (.iconst (-1), 1) := by decide +kernel
theorem dX10_cost_43 : decode cX10_cost 43 = .ok (.ireturn, 1) := by decide +kernel
theorem dX10_cost_44 : decode cX10_cost 44 = .ok (.iload_n 1, 1) := by decide +kernel
theorem dX10_cost_45 : decode cX10_cost 45 = .ok (.ifCond .ne 10, 3) := by decide +kernel
theorem dX10_cost_48 : decode cX10_cost 48 = .ok (.aload_n 0, 1) := by decide +kernel
theorem dX10_cost_49 : decode cX10_cost 49 = .ok (.getfield 68, 3) := by decide +kernel
theorem dX10_cost_52 : decode cX10_cost 52 = .ok (.goto 24, 3) := by decide +kernel
theorem dX10_cost_55 : decode cX10_cost 55 = .ok (.iload_n 1, 1) := by decide +kernel
theorem dX10_cost_56 : decode cX10_cost 56 = .ok (.iconst 1, 1) := by decide +kernel
theorem dX10_cost_57 : decode cX10_cost 57 = .ok (.if_icmp .ne 10, 3) := by decide +kernel
theorem dX10_cost_60 : decode cX10_cost 60 = .ok (.aload_n 0, 1) := by decide +kernel
theorem dX10_cost_61 : decode cX10_cost 61 = .ok (.getfield 72, 3) := by decide +kernel
theorem dX10_cost_64 : decode cX10_cost 64 = .ok (.goto 12, 3) := by decide +kernel
theorem dX10_cost_67 : decode cX10_cost 67 = .ok (.aload_n 0, 1) := by decide +kernel
theorem dX10_cost_68 : decode cX10_cost 68 = .ok (.getfield 75, 3) := by decide +kernel
theorem dX10_cost_71 : decode cX10_cost 71 = .ok (.iload_n 1, 1) := by decide +kernel
theorem dX10_cost_72 : decode cX10_cost 72 = .ok (.bipush 10, 2) := by decide +kernel
theorem dX10_cost_74 : decode cX10_cost 74 = .ok (.isub, 1) := by decide +kernel
theorem dX10_cost_75 : decode cX10_cost 75 = .ok (.iaload, 1) := by decide +kernel
theorem dX10_cost_76 : decode cX10_cost 76 = .ok (.istore 4, 2) := by decide +kernel
theorem dX10_cost_78 : decode cX10_cost 78 = .ok (.iload_n 1, 1) := by decide +kernel
theorem dX10_cost_79 : decode cX10_cost 79 = .ok (.ifCond .ne 11, 3) := by decide +kernel
theorem dX10_cost_82 : decode cX10_cost 82 = .ok (.aload_n 0, 1) := by decide +kernel
theorem dX10_cost_83 : decode cX10_cost 83 = .ok (.iload_n 2, 1) := by decide +kernel
theorem dX10_cost_84 : decode cX10_cost 84 = .ok (.putfield 68, 3) := by decide +kernel
theorem dX10_cost_87 : decode cX10_cost 87 = .ok (.goto 26, 3) := by decide +kernel
theorem dX10_cost_90 : decode cX10_cost 90 = .ok (.iload_n 1, 1) := by decide +kernel
theorem dX10_cost_91 : decode cX10_cost 91 = .ok (.iconst 1, 1) := by decide +kernel
theorem dX10_cost_92 : decode cX10_cost 92 = .ok (.if_icmp .ne 11, 3) := by decide +kernel
theorem dX10_cost_95 : decode cX10_cost 95 = .ok (.aload_n 0, 1) := by decide +kernel
theorem dX10_cost_96 : decode cX10_cost 96 = .ok (.iload_n 2, 1) := by decide +kernel
theorem dX10_cost_97 : decode cX10_cost 97 = .ok (.putfield 72, 3) := by decide +kernel
theorem dX10_cost_100 : decode cX10_cost 100 = .ok (.goto 13, 3) := by decide +kernel
theorem dX10_cost_103 : decode cX10_cost 103 = .ok (.aload_n 0, 1) := by decide +kernel
theorem dX10_cost_104 : decode cX10_cost 104 = .ok (.getfield 75, 3) := by decide +kernel
theorem dX10_cost_107 : decode cX10_cost 107 = .ok (.iload_n 1, 1) := by decide +kernel
theorem dX10_cost_108 : decode cX10_cost 108 = .ok (.bipush 10, 2) := by decide +kernel
theorem dX10_cost_110 : decode cX10_cost 110 = .ok (.isub, 1) := by decide +kernel
theorem dX10_cost_111 : decode cX10_cost 111 = .ok (.iload_n 2, 1) := by decide +kernel
theorem dX10_cost_112 : decode cX10_cost 112 = .ok (.iastore, 1) := by decide +kernel
theorem dX10_cost_113 : decode cX10_cost 113 = .ok (.iload 4, 2) := by decide +kernel
theorem dX10_cost_115 : decode cX10_cost 115 = .ok (.ireturn, 1) := by decide +kernel
theorem dX10_wrong_0 : decode cX10_wrong 0 = .ok (.iload_n 1, 1) := by decide +kernel
theorem dX10_wrong_1 : decode cX10_wrong 1 = .ok (.iload_n 2, 1) := by decide +kernel
theorem dX10_wrong_2 : decode cX10_wrong 2 = .ok (.if_icmp .ne 7, 3) := by decide +kernel
theorem dX10_wrong_5 : decode cX10_wrong 5 = .ok (.iconst 0, 1) := by decide +kernel
theorem dX10_wrong_6 : decode cX10_wrong 6 = .ok (.goto 9, 3) := by decide +kernel
theorem dX10_wrong_9 : decode cX10_wrong 9 = .ok (.aload_n 0, 1) := by decide +kernel
theorem dX10_wrong_10 : decode cX10_wrong 10 = .ok (.getfield 75, 3) := by decide +kernel
theorem dX10_wrong_13 : decode cX10_wrong 13 = .ok (.iload_n 1, 1) := by decide +kernel
theorem dX10_wrong_14 : decode cX10_wrong 14 = .ok (.iaload, 1) := by decide +kernel
theorem dX10_wrong_15 : decode cX10_wrong 15 = .ok (.ireturn, 1) := by decide +kernel
theorem dX10_weighs_0 : decode cX10_weighs 0 = .ok (.iconst 0, 1) := by decide +kernel
theorem dX10_weighs_1 : decode cX10_weighs 1 = .ok (.istore_n 3, 1) := by decide +kernel
theorem dX10_weighs_2 : decode cX10_weighs 2 = .ok (.iload_n 3, 1) := by decide +kernel
theorem dX10_weighs_3 : decode cX10_weighs 3 = .ok (.bipush 8, 2) := by decide +kernel
theorem dX10_weighs_5 : decode cX10_weighs 5 = .ok (.if_icmp .ge 16, 3) := by decide +kernel
theorem dX10_weighs_8 : decode cX10_weighs 8 = .ok (.aload_n 0, 1) := by decide +kernel
theorem dX10_weighs_9 : decode cX10_weighs 9 = .ok (.getfield 100, 3) := by decide +kernel
theorem dX10_weighs_12 : decode cX10_weighs 12 = .ok (.iload_n 3, 1) := by decide +kernel
theorem dX10_weighs_13 : decode cX10_weighs 13 = .ok (.iconst 0, 1) := by decide +kernel
theorem dX10_weighs_14 : decode cX10_weighs 14 = .ok (.iastore, 1) := by decide +kernel
theorem dX10_weighs_15 : decode cX10_weighs 15 = .ok (.iinc 3 1, 3) := by decide +kernel
theorem dX10_weighs_18 : decode cX10_weighs 18 = .ok (.goto (-16), 3) := by decide +kernel
theorem dX10_weighs_21 : decode cX10_weighs 21 = .ok (.iconst 0, 1) := by decide +kernel
theorem dX10_weighs_22 : decode cX10_weighs 22 = .ok (.istore_n 3, 1) := by decide +kernel
theorem dX10_weighs_23 : decode cX10_weighs 23 = .ok (.iload_n 3, 1) := by decide +kernel
theorem dX10_weighs_24 : decode cX10_weighs 24 = .ok (.aload_n 0, 1) := by decide +kernel
theorem dX10_weighs_25 : decode cX10_weighs 25 = .ok (.getfield 182, 3) := by decide +kernel
theorem dX10_weighs_28 : decode cX10_weighs 28 = .ok (.if_icmp .ge 55, 3) := by decide +kernel
theorem dX10_weighs_31 : decode cX10_weighs 31 = .ok (.aload_n 0, 1) := by decide +kernel
theorem dX10_weighs_32 : decode cX10_weighs 32 = .ok (.getfield 97, 3) := by decide +kernel
theorem dX10_weighs_35 : decode cX10_weighs 35 = .ok (.iload_n 3, 1) := by decide +kernel
theorem dX10_weighs_36 : decode cX10_weighs 36 = .ok (.baload, 1) := by decide +kernel
theorem dX10_weighs_37 : decode cX10_weighs 37 = .ok (.ifCond .eq 40, 3) := by decide +kernel
theorem dX10_weighs_40 : decode cX10_weighs 40 = .ok (.aload_n 0, 1) := by decide +kernel
theorem dX10_weighs_41 : decode cX10_weighs 41 = .ok (.iload_n 3, 1) := by decide +kernel
theorem dX10_weighs_42 : decode cX10_weighs 42 = .ok (.iload_n 1, 1) := by decide +kernel
theorem dX10_weighs_43 : decode cX10_weighs 43 = .ok (.invokevirtual 166, 3) := by decide +kernel
theorem dX10_weighs_46 : decode cX10_weighs 46 = .ok (.ifCond .eq 31, 3) := by decide +kernel
theorem dX10_weighs_49 : decode cX10_weighs 49 = .ok (.iload_n 2, 1) := by decide +kernel
theorem dX10_weighs_50 : decode cX10_weighs 50 = .ok (.ifCond .lt 12, 3) := by decide +kernel
theorem dX10_weighs_53 : decode cX10_weighs 53 = .ok (.aload_n 0, 1) := by decide +kernel
theorem dX10_weighs_54 : decode cX10_weighs 54 = .ok (.iload_n 3, 1) := by decide +kernel
theorem dX10_weighs_55 : decode cX10_weighs 55 = .ok (.iload_n 2, 1) := by decide +kernel
theorem dX10_weighs_56 : decode cX10_weighs 56 = .ok (.invokevirtual 166, 3) := by decide +kernel
theorem dX10_weighs_59 : decode cX10_weighs 59 = .ok (.ifCond .eq 18, 3) := by decide +kernel
theorem dX10_weighs_62 : decode cX10_weighs 62 = .ok (.aload_n 0, 1) := by decide +kernel
theorem dX10_weighs_63 : decode cX10_weighs 63 = .ok (.getfield 100, 3) := by decide +kernel
theorem dX10_weighs_66 : decode cX10_weighs 66 = .ok (.aload_n 0, 1) := by decide +kernel
theorem dX10_weighs_67 : decode cX10_weighs 67 = .ok (.getfield 34, 3) := by decide +kernel
theorem dX10_weighs_70 : decode cX10_weighs 70 = .ok (.iload_n 3, 1) := by decide +kernel
theorem dX10_weighs_71 : decode cX10_weighs 71 = .ok (.iaload, 1) := by decide +kernel
theorem dX10_weighs_72 : decode cX10_weighs 72 = .ok (.dup2, 1) := by decide +kernel
theorem dX10_weighs_73 : decode cX10_weighs 73 = .ok (.iaload, 1) := by decide +kernel
theorem dX10_weighs_74 : decode cX10_weighs 74 = .ok (.iconst 1, 1) := by decide +kernel
theorem dX10_weighs_75 : decode cX10_weighs 75 = .ok (.iadd, 1) := by decide +kernel
theorem dX10_weighs_76 : decode cX10_weighs 76 = .ok (.iastore, 1) := by decide +kernel
theorem dX10_weighs_77 : decode cX10_weighs 77 = .ok (.iinc 3 1, 3) := by decide +kernel
theorem dX10_weighs_80 : decode cX10_weighs 80 = .ok (.goto (-57), 3) := by decide +kernel
theorem dX10_weighs_83 : decode cX10_weighs 83 = .ok (.iconst 0, 1) := by decide +kernel
theorem dX10_weighs_84 : decode cX10_weighs 84 = .ok (.istore_n 3, 1) := by decide +kernel
theorem dX10_weighs_85 : decode cX10_weighs 85 = .ok (.iload_n 3, 1) := by decide +kernel
theorem dX10_weighs_86 : decode cX10_weighs 86 = .ok (.bipush 8, 2) := by decide +kernel
theorem dX10_weighs_88 : decode cX10_weighs 88 = .ok (.if_icmp .ge 108, 3) := by decide +kernel
theorem dX10_weighs_91 : decode cX10_weighs 91 = .ok (.aload_n 0, 1) := by decide +kernel
theorem dX10_weighs_92 : decode cX10_weighs 92 = .ok (.getfield 68, 3) := by decide +kernel
theorem dX10_weighs_95 : decode cX10_weighs 95 = .ok (.ineg, 1) := by decide +kernel
theorem dX10_weighs_96 : decode cX10_weighs 96 = .ok (.iload_n 2, 1) := by decide +kernel
theorem dX10_weighs_97 : decode cX10_weighs 97 = .ok (.ifCond .ge 7, 3) := by decide +kernel
theorem dX10_weighs_100 : decode cX10_weighs 100 = .ok (.iconst 1, 1) := by decide +kernel
theorem dX10_weighs_101 : decode cX10_weighs 101 = .ok (.goto 4, 3) := by decide +kernel
theorem dX10_weighs_104 : decode cX10_weighs 104 = .ok (.iconst 2, 1) := by decide +kernel
theorem dX10_weighs_105 : decode cX10_weighs 105 = .ok (.aload_n 0, 1) := by decide +kernel
theorem dX10_weighs_106 : decode cX10_weighs 106 = .ok (.getfield 72, 3) := by decide +kernel
theorem dX10_weighs_109 : decode cX10_weighs 109 = .ok (.imul, 1) := by decide +kernel
theorem dX10_weighs_110 : decode cX10_weighs 110 = .ok (.isub, 1) := by decide +kernel
theorem dX10_weighs_111 : decode cX10_weighs 111 = .ok (.istore 4, 2) := by decide +kernel
theorem dX10_weighs_113 : decode cX10_weighs 113 = .ok (.iconst 0, 1) := by decide +kernel
theorem dX10_weighs_114 : decode cX10_weighs 114 = .ok (.istore 5, 2) := by decide +kernel
theorem dX10_weighs_116 : decode cX10_weighs 116 = .ok (.iload 5, 2) := by decide +kernel
theorem dX10_weighs_118 : decode cX10_weighs 118 = .ok (.bipush 8, 2) := by decide +kernel
theorem dX10_weighs_120 : decode cX10_weighs 120 = .ok (.if_icmp .ge 37, 3) := by decide +kernel
theorem dX10_weighs_123 : decode cX10_weighs 123 = .ok (.iload 4, 2) := by decide +kernel
theorem dX10_weighs_125 : decode cX10_weighs 125 = .ok (.aload_n 0, 1) := by decide +kernel
theorem dX10_weighs_126 : decode cX10_weighs 126 = .ok (.getfield 100, 3) := by decide +kernel
theorem dX10_weighs_129 : decode cX10_weighs 129 = .ok (.iload 5, 2) := by decide +kernel
theorem dX10_weighs_131 : decode cX10_weighs 131 = .ok (.iaload, 1) := by decide +kernel
theorem dX10_weighs_132 : decode cX10_weighs 132 = .ok (.aload_n 0, 1) := by decide +kernel
theorem dX10_weighs_133 : decode cX10_weighs 133 = .ok (.iconst 0, 1) := by decide +kernel
theorem dX10_weighs_134 : decode cX10_weighs 134 = .ok (.iload 5, 2) := by decide +kernel
theorem dX10_weighs_136 : decode cX10_weighs 136 = .ok (.invokevirtual 204, 3) := by decide +kernel
theorem dX10_weighs_139 : decode cX10_weighs 139 = .ok (.aload_n 0, 1) := by decide +kernel
theorem dX10_weighs_140 : decode cX10_weighs 140 = .ok (.iload_n 3, 1) := by decide +kernel
theorem dX10_weighs_141 : decode cX10_weighs 141 = .ok (.iload 5, 2) := by decide +kernel
theorem dX10_weighs_143 : decode cX10_weighs 143 = .ok (.invokevirtual 204, 3) := by decide +kernel
theorem dX10_weighs_146 : decode cX10_weighs 146 = .ok (.isub, 1) := by decide +kernel
theorem dX10_weighs_147 : decode cX10_weighs 147 = .ok (.imul, 1) := by decide +kernel
theorem dX10_weighs_148 : decode cX10_weighs 148 = .ok (.iadd, 1) := by decide +kernel
theorem dX10_weighs_149 : decode cX10_weighs 149 = .ok (.istore 4, 2) := by decide +kernel
theorem dX10_weighs_151 : decode cX10_weighs 151 = .ok (.iinc 5 1, 3) := by decide +kernel
theorem dX10_weighs_154 : decode cX10_weighs 154 = .ok (.goto (-38), 3) := by decide +kernel
theorem dX10_weighs_157 : decode cX10_weighs 157 = .ok (.iload 4, 2) := by decide +kernel
theorem dX10_weighs_159 : decode cX10_weighs 159 = .ok (.aload_n 0, 1) := by decide +kernel
theorem dX10_weighs_160 : decode cX10_weighs 160 = .ok (.getfield 208, 3) := by decide +kernel
theorem dX10_weighs_163 : decode cX10_weighs 163 = .ok (.if_icmp .gt 6, 3) := by decide +kernel
theorem dX10_weighs_166 : decode cX10_weighs 166 = .ok (.goto 24, 3) := by decide +kernel
theorem dX10_weighs_169 : decode cX10_weighs 169 = .ok (.aload_n 0, 1) := by decide +kernel
theorem dX10_weighs_170 : decode cX10_weighs 170 = .ok (.iload 4, 2) := by decide +kernel
theorem dX10_weighs_172 : decode cX10_weighs 172 = .ok (.putfield 208, 3) := by decide +kernel
theorem dX10_weighs_175 : decode cX10_weighs 175 = .ok (.aload_n 0, 1) := by decide +kernel
theorem dX10_weighs_176 : decode cX10_weighs 176 = .ok (.iload_n 1, 1) := by decide +kernel
theorem dX10_weighs_177 : decode cX10_weighs 177 = .ok (.putfield 211, 3) := by decide +kernel
theorem dX10_weighs_180 : decode cX10_weighs 180 = .ok (.aload_n 0, 1) := by decide +kernel
theorem dX10_weighs_181 : decode cX10_weighs 181 = .ok (.iload_n 2, 1) := by decide +kernel
theorem dX10_weighs_182 : decode cX10_weighs 182 = .ok (.putfield 214, 3) := by decide +kernel
theorem dX10_weighs_185 : decode cX10_weighs 185 = .ok (.aload_n 0, 1) := by decide +kernel
theorem dX10_weighs_186 : decode cX10_weighs 186 = .ok (.iload_n 3, 1) := by decide +kernel
theorem dX10_weighs_187 : decode cX10_weighs 187 = .ok (.putfield 217, 3) := by decide +kernel
theorem dX10_weighs_190 : decode cX10_weighs 190 = .ok (.iinc 3 1, 3) := by decide +kernel
theorem dX10_weighs_193 : decode cX10_weighs 193 = .ok (.goto (-108), 3) := by decide +kernel
theorem dX10_weighs_196 : decode cX10_weighs 196 = .ok (.return_, 1) := by decide +kernel
theorem dX10_looks_0 : decode cX10_looks 0 = .ok (.aload_n 0, 1) := by decide +kernel
theorem dX10_looks_1 : decode cX10_looks 1 = .ok (.iconst 0, 1) := by decide +kernel
theorem dX10_looks_2 : decode cX10_looks 2 = .ok (.putfield 208, 3) := by decide +kernel
theorem dX10_looks_5 : decode cX10_looks 5 = .ok (.iconst 0, 1) := by decide +kernel
theorem dX10_looks_6 : decode cX10_looks 6 = .ok (.istore_n 1, 1) := by decide +kernel
theorem dX10_looks_7 : decode cX10_looks 7 = .ok (.iload_n 1, 1) := by decide +kernel
theorem dX10_looks_8 : decode cX10_looks 8 = .ok (.bipush 40, 2) := by decide +kernel
theorem dX10_looks_10 : decode cX10_looks 10 = .ok (.if_icmp .ge 15, 3) := by decide +kernel
theorem dX10_looks_13 : decode cX10_looks 13 = .ok (.aload_n 0, 1) := by decide +kernel
theorem dX10_looks_14 : decode cX10_looks 14 = .ok (.iload_n 1, 1) := by decide +kernel
theorem dX10_looks_15 : decode cX10_looks 15 = .ok (.iconst (-1), 1) := by decide +kernel
theorem dX10_looks_16 : decode cX10_looks 16 = .ok (.invokevirtual 220, 3) := by decide +kernel
theorem dX10_looks_19 : decode cX10_looks 19 = .ok (.iinc 1 1, 3) := by decide +kernel
theorem dX10_looks_22 : decode cX10_looks 22 = .ok (.goto (-15), 3) := by decide +kernel
theorem dX10_looks_25 : decode cX10_looks 25 = .ok (.iconst 0, 1) := by decide +kernel
theorem dX10_looks_26 : decode cX10_looks 26 = .ok (.istore_n 1, 1) := by decide +kernel
theorem dX10_looks_27 : decode cX10_looks 27 = .ok (.iload_n 1, 1) := by decide +kernel
theorem dX10_looks_28 : decode cX10_looks 28 = .ok (.bipush 40, 2) := by decide +kernel
theorem dX10_looks_30 : decode cX10_looks 30 = .ok (.if_icmp .ge 31, 3) := by decide +kernel
theorem dX10_looks_33 : decode cX10_looks 33 = .ok (.iload_n 1, 1) := by decide +kernel
theorem dX10_looks_34 : decode cX10_looks 34 = .ok (.iconst 1, 1) := by decide +kernel
theorem dX10_looks_35 : decode cX10_looks 35 = .ok (.iadd, 1) := by decide +kernel
theorem dX10_looks_36 : decode cX10_looks 36 = .ok (.istore_n 2, 1) := by decide +kernel
theorem dX10_looks_37 : decode cX10_looks 37 = .ok (.iload_n 2, 1) := by decide +kernel
theorem dX10_looks_38 : decode cX10_looks 38 = .ok (.bipush 40, 2) := by decide +kernel
theorem dX10_looks_40 : decode cX10_looks 40 = .ok (.if_icmp .ge 15, 3) := by decide +kernel
theorem dX10_looks_43 : decode cX10_looks 43 = .ok (.aload_n 0, 1) := by decide +kernel
theorem dX10_looks_44 : decode cX10_looks 44 = .ok (.iload_n 1, 1) := by decide +kernel
theorem dX10_looks_45 : decode cX10_looks 45 = .ok (.iload_n 2, 1) := by decide +kernel
theorem dX10_looks_46 : decode cX10_looks 46 = .ok (.invokevirtual 220, 3) := by decide +kernel
theorem dX10_looks_49 : decode cX10_looks 49 = .ok (.iinc 2 1, 3) := by decide +kernel
theorem dX10_looks_52 : decode cX10_looks 52 = .ok (.goto (-15), 3) := by decide +kernel
theorem dX10_looks_55 : decode cX10_looks 55 = .ok (.iinc 1 1, 3) := by decide +kernel
theorem dX10_looks_58 : decode cX10_looks 58 = .ok (.goto (-31), 3) := by decide +kernel
theorem dX10_looks_61 : decode cX10_looks 61 = .ok (.return_, 1) := by decide +kernel
theorem dX10_numberOf_0 : decode cX10_numberOf 0 = .ok (.iload_n 1, 1) := by decide +kernel
theorem dX10_numberOf_1 : decode cX10_numberOf 1 = .ok (.ifCond .ge 7, 3) := by decide +kernel
theorem dX10_numberOf_4 : decode cX10_numberOf 4 = .ok (.iload_n 0, 1) := by decide +kernel
theorem dX10_numberOf_5 : decode cX10_numberOf 5 = .ok (.goto 24, 3) := by decide +kernel
theorem dX10_numberOf_8 : decode cX10_numberOf 8 = .ok (.bipush 40, 2) := by decide +kernel
theorem dX10_numberOf_10 : decode cX10_numberOf 10 = .ok (.iload_n 0, 1) := by decide +kernel
theorem dX10_numberOf_11 : decode cX10_numberOf 11 = .ok (.bipush 40, 2) := by decide +kernel
theorem dX10_numberOf_13 : decode cX10_numberOf 13 = .ok (.imul, 1) := by decide +kernel
theorem dX10_numberOf_14 : decode cX10_numberOf 14 = .ok (.iadd, 1) := by decide +kernel
theorem dX10_numberOf_15 : decode cX10_numberOf 15 = .ok (.iload_n 0, 1) := by decide +kernel
theorem dX10_numberOf_16 : decode cX10_numberOf 16 = .ok (.iload_n 0, 1) := by decide +kernel
theorem dX10_numberOf_17 : decode cX10_numberOf 17 = .ok (.iconst 1, 1) := by decide +kernel
theorem dX10_numberOf_18 : decode cX10_numberOf 18 = .ok (.iadd, 1) := by decide +kernel
theorem dX10_numberOf_19 : decode cX10_numberOf 19 = .ok (.imul, 1) := by decide +kernel
theorem dX10_numberOf_20 : decode cX10_numberOf 20 = .ok (.iconst 2, 1) := by decide +kernel
theorem dX10_numberOf_21 : decode cX10_numberOf 21 = .ok (.idiv, 1) := by decide +kernel
theorem dX10_numberOf_22 : decode cX10_numberOf 22 = .ok (.isub, 1) := by decide +kernel
theorem dX10_numberOf_23 : decode cX10_numberOf 23 = .ok (.iload_n 1, 1) := by decide +kernel
theorem dX10_numberOf_24 : decode cX10_numberOf 24 = .ok (.iadd, 1) := by decide +kernel
theorem dX10_numberOf_25 : decode cX10_numberOf 25 = .ok (.iload_n 0, 1) := by decide +kernel
theorem dX10_numberOf_26 : decode cX10_numberOf 26 = .ok (.isub, 1) := by decide +kernel
theorem dX10_numberOf_27 : decode cX10_numberOf 27 = .ok (.iconst 1, 1) := by decide +kernel
theorem dX10_numberOf_28 : decode cX10_numberOf 28 = .ok (.isub, 1) := by decide +kernel
theorem dX10_numberOf_29 : decode cX10_numberOf 29 = .ok (.istore_n 3, 1) := by decide +kernel
theorem dX10_numberOf_30 : decode cX10_numberOf 30 = .ok (.bipush 8, 2) := by decide +kernel
theorem dX10_numberOf_32 : decode cX10_numberOf 32 = .ok (.iload_n 3, 1) := by decide +kernel
theorem dX10_numberOf_33 : decode cX10_numberOf 33 = .ok (.imul, 1) := by decide +kernel
theorem dX10_numberOf_34 : decode cX10_numberOf 34 = .ok (.iload_n 2, 1) := by decide +kernel
theorem dX10_numberOf_35 : decode cX10_numberOf 35 = .ok (.iadd, 1) := by decide +kernel
theorem dX10_numberOf_36 : decode cX10_numberOf 36 = .ok (.ireturn, 1) := by decide +kernel
theorem dX10_fitsHand_0 : decode cX10_fitsHand 0 = .ok (.iconst 0, 1) := by decide +kernel
theorem dX10_fitsHand_1 : decode cX10_fitsHand 1 = .ok (.istore_n 2, 1) := by decide +kernel
theorem dX10_fitsHand_2 : decode cX10_fitsHand 2 = .ok (.iload_n 2, 1) := by decide +kernel
theorem dX10_fitsHand_3 : decode cX10_fitsHand 3 = .ok (.bipush 10, 2) := by decide +kernel
theorem dX10_fitsHand_5 : decode cX10_fitsHand 5 = .ok (.if_icmp .ge 29, 3) := by decide +kernel
theorem dX10_fitsHand_8 : decode cX10_fitsHand 8 = .ok (.aload_n 0, 1) := by decide +kernel
theorem dX10_fitsHand_9 : decode cX10_fitsHand 9 = .ok (.getfield 37, 3) := by decide +kernel
theorem dX10_fitsHand_12 : decode cX10_fitsHand 12 = .ok (.iload_n 2, 1) := by decide +kernel
theorem dX10_fitsHand_13 : decode cX10_fitsHand 13 = .ok (.baload, 1) := by decide +kernel
theorem dX10_fitsHand_14 : decode cX10_fitsHand 14 = .ok (.ifCond .eq 14, 3) := by decide +kernel
theorem dX10_fitsHand_17 : decode cX10_fitsHand 17 = .ok (.aload_n 0, 1) := by decide +kernel
theorem dX10_fitsHand_18 : decode cX10_fitsHand 18 = .ok (.iload_n 2, 1) := by decide +kernel
theorem dX10_fitsHand_19 : decode cX10_fitsHand 19 = .ok (.iload_n 1, 1) := by decide +kernel
theorem dX10_fitsHand_20 : decode cX10_fitsHand 20 = .ok (.invokevirtual 173, 3) := by decide +kernel
theorem dX10_fitsHand_23 : decode cX10_fitsHand 23 = .ok (.ifCond .eq 5, 3) := by decide +kernel
theorem dX10_fitsHand_26 : decode cX10_fitsHand 26 = .ok (.iconst 1, 1) := by decide +kernel
theorem dX10_fitsHand_27 : decode cX10_fitsHand 27 = .ok (.ireturn, 1) := by decide +kernel
theorem dX10_fitsHand_28 : decode cX10_fitsHand 28 = .ok (.iinc 2 1, 3) := by decide +kernel
theorem dX10_fitsHand_31 : decode cX10_fitsHand 31 = .ok (.goto (-29), 3) := by decide +kernel
theorem dX10_fitsHand_34 : decode cX10_fitsHand 34 = .ok (.iconst 0, 1) := by decide +kernel
theorem dX10_fitsHand_35 : decode cX10_fitsHand 35 = .ok (.ireturn, 1) := by decide +kernel
theorem dX10_adds_0 : decode cX10_adds 0 = .ok (.aload_n 0, 1) := by decide +kernel
theorem dX10_adds_1 : decode cX10_adds 1 = .ok (.getfield 163, 3) := by decide +kernel
theorem dX10_adds_4 : decode cX10_adds 4 = .ok (.istore_n 1, 1) := by decide +kernel
theorem dX10_adds_5 : decode cX10_adds 5 = .ok (.aload_n 0, 1) := by decide +kernel
theorem dX10_adds_6 : decode cX10_adds 6 = .ok (.getfield 56, 3) := by decide +kernel
theorem dX10_adds_9 : decode cX10_adds 9 = .ok (.iload_n 1, 1) := by decide +kernel
theorem dX10_adds_10 : decode cX10_adds 10 = .ok (.aload_n 0, 1) := by decide +kernel
theorem dX10_adds_11 : decode cX10_adds 11 = .ok (.getfield 214, 3) := by decide +kernel
theorem dX10_adds_14 : decode cX10_adds 14 = .ok (.ifCond .ge 7, 3) := by decide +kernel
theorem dX10_adds_17 : decode cX10_adds 17 = .ok (.iconst 1, 1) := by decide +kernel
theorem dX10_adds_18 : decode cX10_adds 18 = .ok (.goto 4, 3) := by decide +kernel
theorem dX10_adds_21 : decode cX10_adds 21 = .ok (.iconst 2, 1) := by decide +kernel
theorem dX10_adds_22 : decode cX10_adds 22 = .ok (.iastore, 1) := by decide +kernel
theorem dX10_adds_23 : decode cX10_adds 23 = .ok (.aload_n 0, 1) := by decide +kernel
theorem dX10_adds_24 : decode cX10_adds 24 = .ok (.getfield 59, 3) := by decide +kernel
theorem dX10_adds_27 : decode cX10_adds 27 = .ok (.iconst 2, 1) := by decide +kernel
theorem dX10_adds_28 : decode cX10_adds 28 = .ok (.iload_n 1, 1) := by decide +kernel
theorem dX10_adds_29 : decode cX10_adds 29 = .ok (.imul, 1) := by decide +kernel
theorem dX10_adds_30 : decode cX10_adds 30 = .ok (.aload_n 0, 1) := by decide +kernel
theorem dX10_adds_31 : decode cX10_adds 31 = .ok (.getfield 211, 3) := by decide +kernel
theorem dX10_adds_34 : decode cX10_adds 34 = .ok (.iastore, 1) := by decide +kernel
theorem dX10_adds_35 : decode cX10_adds 35 = .ok (.aload_n 0, 1) := by decide +kernel
theorem dX10_adds_36 : decode cX10_adds 36 = .ok (.getfield 59, 3) := by decide +kernel
theorem dX10_adds_39 : decode cX10_adds 39 = .ok (.iconst 2, 1) := by decide +kernel
theorem dX10_adds_40 : decode cX10_adds 40 = .ok (.iload_n 1, 1) := by decide +kernel
theorem dX10_adds_41 : decode cX10_adds 41 = .ok (.imul, 1) := by decide +kernel
theorem dX10_adds_42 : decode cX10_adds 42 = .ok (.iconst 1, 1) := by decide +kernel
theorem dX10_adds_43 : decode cX10_adds 43 = .ok (.iadd, 1) := by decide +kernel
theorem dX10_adds_44 : decode cX10_adds 44 = .ok (.aload_n 0, 1) := by decide +kernel
theorem dX10_adds_45 : decode cX10_adds 45 = .ok (.getfield 214, 3) := by decide +kernel
theorem dX10_adds_48 : decode cX10_adds 48 = .ok (.iastore, 1) := by decide +kernel
theorem dX10_adds_49 : decode cX10_adds 49 = .ok (.aload_n 0, 1) := by decide +kernel
theorem dX10_adds_50 : decode cX10_adds 50 = .ok (.getfield 62, 3) := by decide +kernel
theorem dX10_adds_53 : decode cX10_adds 53 = .ok (.iload_n 1, 1) := by decide +kernel
theorem dX10_adds_54 : decode cX10_adds 54 = .ok (.aload_n 0, 1) := by decide +kernel
theorem dX10_adds_55 : decode cX10_adds 55 = .ok (.getfield 217, 3) := by decide +kernel
theorem dX10_adds_58 : decode cX10_adds 58 = .ok (.iastore, 1) := by decide +kernel
theorem dX10_adds_59 : decode cX10_adds 59 = .ok (.aload_n 0, 1) := by decide +kernel
theorem dX10_adds_60 : decode cX10_adds 60 = .ok (.getfield 211, 3) := by decide +kernel
theorem dX10_adds_63 : decode cX10_adds 63 = .ok (.aload_n 0, 1) := by decide +kernel
theorem dX10_adds_64 : decode cX10_adds 64 = .ok (.getfield 214, 3) := by decide +kernel
theorem dX10_adds_67 : decode cX10_adds 67 = .ok (.aload_n 0, 1) := by decide +kernel
theorem dX10_adds_68 : decode cX10_adds 68 = .ok (.getfield 217, 3) := by decide +kernel
theorem dX10_adds_71 : decode cX10_adds 71 = .ok (.invokestatic 224, 3) := by decide +kernel
theorem dX10_adds_74 : decode cX10_adds 74 = .ok (.istore_n 2, 1) := by decide +kernel
theorem dX10_adds_75 : decode cX10_adds 75 = .ok (.aload_n 0, 1) := by decide +kernel
theorem dX10_adds_76 : decode cX10_adds 76 = .ok (.getfield 65, 3) := by decide +kernel
theorem dX10_adds_79 : decode cX10_adds 79 = .ok (.iload_n 2, 1) := by decide +kernel
theorem dX10_adds_80 : decode cX10_adds 80 = .ok (.iaload, 1) := by decide +kernel
theorem dX10_adds_81 : decode cX10_adds 81 = .ok (.ifCond .ne 26, 3) := by decide +kernel
theorem dX10_adds_84 : decode cX10_adds 84 = .ok (.aload_n 0, 1) := by decide +kernel
theorem dX10_adds_85 : decode cX10_adds 85 = .ok (.getfield 65, 3) := by decide +kernel
theorem dX10_adds_88 : decode cX10_adds 88 = .ok (.iload_n 2, 1) := by decide +kernel
theorem dX10_adds_89 : decode cX10_adds 89 = .ok (.bipush 100, 2) := by decide +kernel
theorem dX10_adds_91 : decode cX10_adds 91 = .ok (.aload_n 0, 1) := by decide +kernel
theorem dX10_adds_92 : decode cX10_adds 92 = .ok (.getfield 228, 3) := by decide +kernel
theorem dX10_adds_95 : decode cX10_adds 95 = .ok (.iadd, 1) := by decide +kernel
theorem dX10_adds_96 : decode cX10_adds 96 = .ok (.iastore, 1) := by decide +kernel
theorem dX10_adds_97 : decode cX10_adds 97 = .ok (.aload_n 0, 1) := by decide +kernel
theorem dX10_adds_98 : decode cX10_adds 98 = .ok (.dup, 1) := by decide +kernel
theorem dX10_adds_99 : decode cX10_adds 99 = .ok (.getfield 228, 3) := by decide +kernel
theorem dX10_adds_102 : decode cX10_adds 102 = .ok (.iconst 1, 1) := by decide +kernel
theorem dX10_adds_103 : decode cX10_adds 103 = .ok (.iadd, 1) := by decide +kernel
theorem dX10_adds_104 : decode cX10_adds 104 = .ok (.putfield 228, 3) := by decide +kernel
theorem dX10_adds_107 : decode cX10_adds 107 = .ok (.aload_n 0, 1) := by decide +kernel
theorem dX10_adds_108 : decode cX10_adds 108 = .ok (.getfield 53, 3) := by decide +kernel
theorem dX10_adds_111 : decode cX10_adds 111 = .ok (.iload_n 1, 1) := by decide +kernel
theorem dX10_adds_112 : decode cX10_adds 112 = .ok (.aload_n 0, 1) := by decide +kernel
theorem dX10_adds_113 : decode cX10_adds 113 = .ok (.getfield 65, 3) := by decide +kernel
theorem dX10_adds_116 : decode cX10_adds 116 = .ok (.iload_n 2, 1) := by decide +kernel
theorem dX10_adds_117 : decode cX10_adds 117 = .ok (.iaload, 1) := by decide +kernel
theorem dX10_adds_118 : decode cX10_adds 118 = .ok (.iastore, 1) := by decide +kernel
theorem dX10_adds_119 : decode cX10_adds 119 = .ok (.aload_n 0, 1) := by decide +kernel
theorem dX10_adds_120 : decode cX10_adds 120 = .ok (.dup, 1) := by decide +kernel
theorem dX10_adds_121 : decode cX10_adds 121 = .ok (.getfield 163, 3) := by decide +kernel
theorem dX10_adds_124 : decode cX10_adds 124 = .ok (.iconst 1, 1) := by decide +kernel
theorem dX10_adds_125 : decode cX10_adds 125 = .ok (.iadd, 1) := by decide +kernel
theorem dX10_adds_126 : decode cX10_adds 126 = .ok (.putfield 163, 3) := by decide +kernel
theorem dX10_adds_129 : decode cX10_adds 129 = .ok (.iconst 0, 1) := by decide +kernel
theorem dX10_adds_130 : decode cX10_adds 130 = .ok (.istore_n 3, 1) := by decide +kernel
theorem dX10_adds_131 : decode cX10_adds 131 = .ok (.iload_n 3, 1) := by decide +kernel
theorem dX10_adds_132 : decode cX10_adds 132 = .ok (.aload_n 0, 1) := by decide +kernel
theorem dX10_adds_133 : decode cX10_adds 133 = .ok (.getfield 182, 3) := by decide +kernel
theorem dX10_adds_136 : decode cX10_adds 136 = .ok (.if_icmp .ge 38, 3) := by decide +kernel
theorem dX10_adds_139 : decode cX10_adds 139 = .ok (.aload_n 0, 1) := by decide +kernel
theorem dX10_adds_140 : decode cX10_adds 140 = .ok (.getfield 97, 3) := by decide +kernel
theorem dX10_adds_143 : decode cX10_adds 143 = .ok (.iload_n 3, 1) := by decide +kernel
theorem dX10_adds_144 : decode cX10_adds 144 = .ok (.aload_n 0, 1) := by decide +kernel
theorem dX10_adds_145 : decode cX10_adds 145 = .ok (.getfield 97, 3) := by decide +kernel
theorem dX10_adds_148 : decode cX10_adds 148 = .ok (.iload_n 3, 1) := by decide +kernel
theorem dX10_adds_149 : decode cX10_adds 149 = .ok (.baload, 1) := by decide +kernel
theorem dX10_adds_150 : decode cX10_adds 150 = .ok (.ifCond .eq 16, 3) := by decide +kernel
theorem dX10_adds_153 : decode cX10_adds 153 = .ok (.aload_n 0, 1) := by decide +kernel
theorem dX10_adds_154 : decode cX10_adds 154 = .ok (.iload_n 1, 1) := by decide +kernel
theorem dX10_adds_155 : decode cX10_adds 155 = .ok (.iload_n 3, 1) := by decide +kernel
theorem dX10_adds_156 : decode cX10_adds 156 = .ok (.invokevirtual 176, 3) := by decide +kernel
theorem dX10_adds_159 : decode cX10_adds 159 = .ok (.ifCond .ne 7, 3) := by decide +kernel
theorem dX10_adds_162 : decode cX10_adds 162 = .ok (.iconst 1, 1) := by decide +kernel
theorem dX10_adds_163 : decode cX10_adds 163 = .ok (.goto 4, 3) := by decide +kernel
theorem dX10_adds_166 : decode cX10_adds 166 = .ok (.iconst 0, 1) := by decide +kernel
theorem dX10_adds_167 : decode cX10_adds 167 = .ok (.bastore, 1) := by decide +kernel
theorem dX10_adds_168 : decode cX10_adds 168 = .ok (.iinc 3 1, 3) := by decide +kernel
theorem dX10_adds_171 : decode cX10_adds 171 = .ok (.goto (-40), 3) := by decide +kernel
theorem dX10_adds_174 : decode cX10_adds 174 = .ok (.return_, 1) := by decide +kernel
theorem dX10_learn_0 : decode cX10_learn 0 = .ok (.aload_n 0, 1) := by decide +kernel
theorem dX10_learn_1 : decode cX10_learn 1 = .ok (.getfield 163, 3) := by decide +kernel
theorem dX10_learn_4 : decode cX10_learn 4 = .ok (.istore_n 1, 1) := by decide +kernel
theorem dX10_learn_5 : decode cX10_learn 5 = .ok (.iconst 0, 1) := by decide +kernel
theorem dX10_learn_6 : decode cX10_learn 6 = .ok (.istore_n 2, 1) := by decide +kernel
theorem dX10_learn_7 : decode cX10_learn 7 = .ok (.iload_n 2, 1) := by decide +kernel
theorem dX10_learn_8 : decode cX10_learn 8 = .ok (.iload_n 1, 1) := by decide +kernel
theorem dX10_learn_9 : decode cX10_learn 9 = .ok (.if_icmp .ge 21, 3) := by decide +kernel
theorem dX10_learn_12 : decode cX10_learn 12 = .ok (.aload_n 0, 1) := by decide +kernel
theorem dX10_learn_13 : decode cX10_learn 13 = .ok (.getfield 103, 3) := by decide +kernel
theorem dX10_learn_16 : decode cX10_learn 16 = .ok (.iload_n 2, 1) := by decide +kernel
theorem dX10_learn_17 : decode cX10_learn 17 = .ok (.aload_n 0, 1) := by decide +kernel
theorem dX10_learn_18 : decode cX10_learn 18 = .ok (.getfield 53, 3) := by decide +kernel
theorem dX10_learn_21 : decode cX10_learn 21 = .ok (.iload_n 2, 1) := by decide +kernel
theorem dX10_learn_22 : decode cX10_learn 22 = .ok (.iaload, 1) := by decide +kernel
theorem dX10_learn_23 : decode cX10_learn 23 = .ok (.iastore, 1) := by decide +kernel
theorem dX10_learn_24 : decode cX10_learn 24 = .ok (.iinc 2 1, 3) := by decide +kernel
theorem dX10_learn_27 : decode cX10_learn 27 = .ok (.goto (-20), 3) := by decide +kernel
theorem dX10_learn_30 : decode cX10_learn 30 = .ok (.aload_n 0, 1) := by decide +kernel
theorem dX10_learn_31 : decode cX10_learn 31 = .ok (.iconst 0, 1) := by decide +kernel
theorem dX10_learn_32 : decode cX10_learn 32 = .ok (.putfield 163, 3) := by decide +kernel
theorem dX10_learn_35 : decode cX10_learn 35 = .ok (.aload_n 0, 1) := by decide +kernel
theorem dX10_learn_36 : decode cX10_learn 36 = .ok (.iconst 0, 1) := by decide +kernel
theorem dX10_learn_37 : decode cX10_learn 37 = .ok (.putfield 231, 3) := by decide +kernel
theorem dX10_learn_40 : decode cX10_learn 40 = .ok (.aload_n 0, 1) := by decide +kernel
theorem dX10_learn_41 : decode cX10_learn 41 = .ok (.iconst 0, 1) := by decide +kernel
theorem dX10_learn_42 : decode cX10_learn 42 = .ok (.putfield 234, 3) := by decide +kernel
theorem dX10_learn_45 : decode cX10_learn 45 = .ok (.iconst 0, 1) := by decide +kernel
theorem dX10_learn_46 : decode cX10_learn 46 = .ok (.istore_n 2, 1) := by decide +kernel
theorem dX10_learn_47 : decode cX10_learn 47 = .ok (.iload_n 2, 1) := by decide +kernel
theorem dX10_learn_48 : decode cX10_learn 48 = .ok (.aload_n 0, 1) := by decide +kernel
theorem dX10_learn_49 : decode cX10_learn 49 = .ok (.getfield 182, 3) := by decide +kernel
theorem dX10_learn_52 : decode cX10_learn 52 = .ok (.if_icmp .ge 80, 3) := by decide +kernel
theorem dX10_learn_55 : decode cX10_learn 55 = .ok (.aload_n 0, 1) := by decide +kernel
theorem dX10_learn_56 : decode cX10_learn 56 = .ok (.getfield 97, 3) := by decide +kernel
theorem dX10_learn_59 : decode cX10_learn 59 = .ok (.iload_n 2, 1) := by decide +kernel
theorem dX10_learn_60 : decode cX10_learn 60 = .ok (.aload_n 0, 1) := by decide +kernel
theorem dX10_learn_61 : decode cX10_learn 61 = .ok (.getfield 34, 3) := by decide +kernel
theorem dX10_learn_64 : decode cX10_learn 64 = .ok (.iload_n 2, 1) := by decide +kernel
theorem dX10_learn_65 : decode cX10_learn 65 = .ok (.iaload, 1) := by decide +kernel
theorem dX10_learn_66 : decode cX10_learn 66 = .ok (.iconst (-1), 1) := by decide +kernel
theorem dX10_learn_67 : decode cX10_learn 67 = .ok (.if_icmp .eq 15, 3) := by decide +kernel
theorem dX10_learn_70 : decode cX10_learn 70 = .ok (.aload_n 0, 1) := by decide +kernel
theorem dX10_learn_71 : decode cX10_learn 71 = .ok (.iload_n 2, 1) := by decide +kernel
theorem dX10_learn_72 : decode cX10_learn 72 = .ok (.invokevirtual 237, 3) := by decide +kernel
theorem dX10_learn_75 : decode cX10_learn 75 = .ok (.ifCond .ne 7, 3) := by decide +kernel
theorem dX10_learn_78 : decode cX10_learn 78 = .ok (.iconst 1, 1) := by decide +kernel
theorem dX10_learn_79 : decode cX10_learn 79 = .ok (.goto 4, 3) := by decide +kernel
theorem dX10_learn_82 : decode cX10_learn 82 = .ok (.iconst 0, 1) := by decide +kernel
theorem dX10_learn_83 : decode cX10_learn 83 = .ok (.bastore, 1) := by decide +kernel
theorem dX10_learn_84 : decode cX10_learn 84 = .ok (.aload_n 0, 1) := by decide +kernel
theorem dX10_learn_85 : decode cX10_learn 85 = .ok (.getfield 97, 3) := by decide +kernel
theorem dX10_learn_88 : decode cX10_learn 88 = .ok (.iload_n 2, 1) := by decide +kernel
theorem dX10_learn_89 : decode cX10_learn 89 = .ok (.baload, 1) := by decide +kernel
theorem dX10_learn_90 : decode cX10_learn 90 = .ok (.ifCond .ne 6, 3) := by decide +kernel
theorem dX10_learn_93 : decode cX10_learn 93 = .ok (.goto 33, 3) := by decide +kernel
theorem dX10_learn_96 : decode cX10_learn 96 = .ok (.aload_n 0, 1) := by decide +kernel
theorem dX10_learn_97 : decode cX10_learn 97 = .ok (.dup, 1) := by decide +kernel
theorem dX10_learn_98 : decode cX10_learn 98 = .ok (.getfield 231, 3) := by decide +kernel
theorem dX10_learn_101 : decode cX10_learn 101 = .ok (.iconst 1, 1) := by decide +kernel
theorem dX10_learn_102 : decode cX10_learn 102 = .ok (.iadd, 1) := by decide +kernel
theorem dX10_learn_103 : decode cX10_learn 103 = .ok (.putfield 231, 3) := by decide +kernel
theorem dX10_learn_106 : decode cX10_learn 106 = .ok (.aload_n 0, 1) := by decide +kernel
theorem dX10_learn_107 : decode cX10_learn 107 = .ok (.dup, 1) := by decide +kernel
theorem dX10_learn_108 : decode cX10_learn 108 = .ok (.getfield 234, 3) := by decide +kernel
theorem dX10_learn_111 : decode cX10_learn 111 = .ok (.aload_n 0, 1) := by decide +kernel
theorem dX10_learn_112 : decode cX10_learn 112 = .ok (.iconst 0, 1) := by decide +kernel
theorem dX10_learn_113 : decode cX10_learn 113 = .ok (.aload_n 0, 1) := by decide +kernel
theorem dX10_learn_114 : decode cX10_learn 114 = .ok (.getfield 34, 3) := by decide +kernel
theorem dX10_learn_117 : decode cX10_learn 117 = .ok (.iload_n 2, 1) := by decide +kernel
theorem dX10_learn_118 : decode cX10_learn 118 = .ok (.iaload, 1) := by decide +kernel
theorem dX10_learn_119 : decode cX10_learn 119 = .ok (.invokevirtual 204, 3) := by decide +kernel
theorem dX10_learn_122 : decode cX10_learn 122 = .ok (.iadd, 1) := by decide +kernel
theorem dX10_learn_123 : decode cX10_learn 123 = .ok (.putfield 234, 3) := by decide +kernel
theorem dX10_learn_126 : decode cX10_learn 126 = .ok (.iinc 2 1, 3) := by decide +kernel
theorem dX10_learn_129 : decode cX10_learn 129 = .ok (.goto (-82), 3) := by decide +kernel
theorem dX10_learn_132 : decode cX10_learn 132 = .ok (.aload_n 0, 1) := by decide +kernel
theorem dX10_learn_133 : decode cX10_learn 133 = .ok (.aload_n 0, 1) := by decide +kernel
theorem dX10_learn_134 : decode cX10_learn 134 = .ok (.getfield 234, 3) := by decide +kernel
theorem dX10_learn_137 : decode cX10_learn 137 = .ok (.putfield 240, 3) := by decide +kernel
theorem dX10_learn_140 : decode cX10_learn 140 = .ok (.iconst 1, 1) := by decide +kernel
theorem dX10_learn_141 : decode cX10_learn 141 = .ok (.istore_n 2, 1) := by decide +kernel
theorem dX10_learn_142 : decode cX10_learn 142 = .ok (.iload_n 2, 1) := by decide +kernel
theorem dX10_learn_143 : decode cX10_learn 143 = .ok (.ifCond .eq 56, 3) := by decide +kernel
theorem dX10_learn_146 : decode cX10_learn 146 = .ok (.aload_n 0, 1) := by decide +kernel
theorem dX10_learn_147 : decode cX10_learn 147 = .ok (.getfield 163, 3) := by decide +kernel
theorem dX10_learn_150 : decode cX10_learn 150 = .ok (.bipush 6, 2) := by decide +kernel
theorem dX10_learn_152 : decode cX10_learn 152 = .ok (.if_icmp .ge 47, 3) := by decide +kernel
theorem dX10_learn_155 : decode cX10_learn 155 = .ok (.aload_n 0, 1) := by decide +kernel
theorem dX10_learn_156 : decode cX10_learn 156 = .ok (.invokevirtual 243, 3) := by decide +kernel
theorem dX10_learn_159 : decode cX10_learn 159 = .ok (.aload_n 0, 1) := by decide +kernel
theorem dX10_learn_160 : decode cX10_learn 160 = .ok (.getfield 208, 3) := by decide +kernel
theorem dX10_learn_163 : decode cX10_learn 163 = .ok (.ifCond .le 7, 3) := by decide +kernel
theorem dX10_learn_166 : decode cX10_learn 166 = .ok (.iconst 1, 1) := by decide +kernel
theorem dX10_learn_167 : decode cX10_learn 167 = .ok (.goto 4, 3) := by decide +kernel
theorem dX10_learn_170 : decode cX10_learn 170 = .ok (.iconst 0, 1) := by decide +kernel
theorem dX10_learn_171 : decode cX10_learn 171 = .ok (.istore_n 2, 1) := by decide +kernel
theorem dX10_learn_172 : decode cX10_learn 172 = .ok (.iload_n 2, 1) := by decide +kernel
theorem dX10_learn_173 : decode cX10_learn 173 = .ok (.ifCond .ne 6, 3) := by decide +kernel
theorem dX10_learn_176 : decode cX10_learn 176 = .ok (.goto 23, 3) := by decide +kernel
theorem dX10_learn_179 : decode cX10_learn 179 = .ok (.aload_n 0, 1) := by decide +kernel
theorem dX10_learn_180 : decode cX10_learn 180 = .ok (.invokevirtual 246, 3) := by decide +kernel
theorem dX10_learn_183 : decode cX10_learn 183 = .ok (.aload_n 0, 1) := by decide +kernel
theorem dX10_learn_184 : decode cX10_learn 184 = .ok (.dup, 1) := by decide +kernel
theorem dX10_learn_185 : decode cX10_learn 185 = .ok (.getfield 240, 3) := by decide +kernel
theorem dX10_learn_188 : decode cX10_learn 188 = .ok (.aload_n 0, 1) := by decide +kernel
theorem dX10_learn_189 : decode cX10_learn 189 = .ok (.getfield 208, 3) := by decide +kernel
theorem dX10_learn_192 : decode cX10_learn 192 = .ok (.isub, 1) := by decide +kernel
theorem dX10_learn_193 : decode cX10_learn 193 = .ok (.putfield 240, 3) := by decide +kernel
theorem dX10_learn_196 : decode cX10_learn 196 = .ok (.goto (-54), 3) := by decide +kernel
theorem dX10_learn_199 : decode cX10_learn 199 = .ok (.aload_n 0, 1) := by decide +kernel
theorem dX10_learn_200 : decode cX10_learn 200 = .ok (.iconst 0, 1) := by decide +kernel
theorem dX10_learn_201 : decode cX10_learn 201 = .ok (.putfield 249, 3) := by decide +kernel
theorem dX10_learn_204 : decode cX10_learn 204 = .ok (.aload_n 0, 1) := by decide +kernel
theorem dX10_learn_205 : decode cX10_learn 205 = .ok (.iconst 0, 1) := by decide +kernel
theorem dX10_learn_206 : decode cX10_learn 206 = .ok (.putfield 252, 3) := by decide +kernel
theorem dX10_learn_209 : decode cX10_learn 209 = .ok (.iconst 0, 1) := by decide +kernel
theorem dX10_learn_210 : decode cX10_learn 210 = .ok (.istore_n 3, 1) := by decide +kernel
theorem dX10_learn_211 : decode cX10_learn 211 = .ok (.iload_n 3, 1) := by decide +kernel
theorem dX10_learn_212 : decode cX10_learn 212 = .ok (.aload_n 0, 1) := by decide +kernel
theorem dX10_learn_213 : decode cX10_learn 213 = .ok (.getfield 163, 3) := by decide +kernel
theorem dX10_learn_216 : decode cX10_learn 216 = .ok (.if_icmp .ge 37, 3) := by decide +kernel
theorem dX10_learn_219 : decode cX10_learn 219 = .ok (.aload_n 0, 1) := by decide +kernel
theorem dX10_learn_220 : decode cX10_learn 220 = .ok (.dup, 1) := by decide +kernel
theorem dX10_learn_221 : decode cX10_learn 221 = .ok (.getfield 249, 3) := by decide +kernel
theorem dX10_learn_224 : decode cX10_learn 224 = .ok (.aload_n 0, 1) := by decide +kernel
theorem dX10_learn_225 : decode cX10_learn 225 = .ok (.aload_n 0, 1) := by decide +kernel
theorem dX10_learn_226 : decode cX10_learn 226 = .ok (.getfield 53, 3) := by decide +kernel
theorem dX10_learn_229 : decode cX10_learn 229 = .ok (.iload_n 3, 1) := by decide +kernel
theorem dX10_learn_230 : decode cX10_learn 230 = .ok (.iaload, 1) := by decide +kernel
theorem dX10_learn_231 : decode cX10_learn 231 = .ok (.iload_n 1, 1) := by decide +kernel
theorem dX10_learn_232 : decode cX10_learn 232 = .ok (.invokevirtual 255, 3) := by decide +kernel
theorem dX10_learn_235 : decode cX10_learn 235 = .ok (.ifCond .eq 7, 3) := by decide +kernel
theorem dX10_learn_238 : decode cX10_learn 238 = .ok (.iconst 0, 1) := by decide +kernel
theorem dX10_learn_239 : decode cX10_learn 239 = .ok (.goto 4, 3) := by decide +kernel
theorem dX10_learn_242 : decode cX10_learn 242 = .ok (.iconst 1, 1) := by decide +kernel
theorem dX10_learn_243 : decode cX10_learn 243 = .ok (.iadd, 1) := by decide +kernel
theorem dX10_learn_244 : decode cX10_learn 244 = .ok (.putfield 249, 3) := by decide +kernel
theorem dX10_learn_247 : decode cX10_learn 247 = .ok (.iinc 3 1, 3) := by decide +kernel
theorem dX10_learn_250 : decode cX10_learn 250 = .ok (.goto (-39), 3) := by decide +kernel
theorem dX10_learn_253 : decode cX10_learn 253 = .ok (.iconst 0, 1) := by decide +kernel
theorem dX10_learn_254 : decode cX10_learn 254 = .ok (.istore_n 3, 1) := by decide +kernel
theorem dX10_learn_255 : decode cX10_learn 255 = .ok (.iload_n 3, 1) := by decide +kernel
theorem dX10_learn_256 : decode cX10_learn 256 = .ok (.iload_n 1, 1) := by decide +kernel
theorem dX10_learn_257 : decode cX10_learn 257 = .ok (.if_icmp .ge 36, 3) := by decide +kernel
theorem dX10_learn_260 : decode cX10_learn 260 = .ok (.aload_n 0, 1) := by decide +kernel
theorem dX10_learn_261 : decode cX10_learn 261 = .ok (.dup, 1) := by decide +kernel
theorem dX10_learn_262 : decode cX10_learn 262 = .ok (.getfield 252, 3) := by decide +kernel
theorem dX10_learn_265 : decode cX10_learn 265 = .ok (.aload_n 0, 1) := by decide +kernel
theorem dX10_learn_266 : decode cX10_learn 266 = .ok (.aload_n 0, 1) := by decide +kernel
theorem dX10_learn_267 : decode cX10_learn 267 = .ok (.getfield 103, 3) := by decide +kernel
theorem dX10_learn_270 : decode cX10_learn 270 = .ok (.iload_n 3, 1) := by decide +kernel
theorem dX10_learn_271 : decode cX10_learn 271 = .ok (.iaload, 1) := by decide +kernel
theorem dX10_learn_272 : decode cX10_learn 272 = .ok (.invokevirtual 258, 3) := by decide +kernel
theorem dX10_learn_275 : decode cX10_learn 275 = .ok (.ifCond .eq 7, 3) := by decide +kernel
theorem dX10_learn_278 : decode cX10_learn 278 = .ok (.iconst 0, 1) := by decide +kernel
theorem dX10_learn_279 : decode cX10_learn 279 = .ok (.goto 4, 3) := by decide +kernel
theorem dX10_learn_282 : decode cX10_learn 282 = .ok (.iconst 1, 1) := by decide +kernel
theorem dX10_learn_283 : decode cX10_learn 283 = .ok (.iadd, 1) := by decide +kernel
theorem dX10_learn_284 : decode cX10_learn 284 = .ok (.putfield 252, 3) := by decide +kernel
theorem dX10_learn_287 : decode cX10_learn 287 = .ok (.iinc 3 1, 3) := by decide +kernel
theorem dX10_learn_290 : decode cX10_learn 290 = .ok (.goto (-35), 3) := by decide +kernel
theorem dX10_learn_293 : decode cX10_learn 293 = .ok (.aload_n 0, 1) := by decide +kernel
theorem dX10_learn_294 : decode cX10_learn 294 = .ok (.iconst 1, 1) := by decide +kernel
theorem dX10_learn_295 : decode cX10_learn 295 = .ok (.putfield 261, 3) := by decide +kernel
theorem dX10_learn_298 : decode cX10_learn 298 = .ok (.aload_n 0, 1) := by decide +kernel
theorem dX10_learn_299 : decode cX10_learn 299 = .ok (.getfield 163, 3) := by decide +kernel
theorem dX10_learn_302 : decode cX10_learn 302 = .ok (.ireturn, 1) := by decide +kernel
theorem dX10_isAmong_0 : decode cX10_isAmong 0 = .ok (.iconst 0, 1) := by decide +kernel
theorem dX10_isAmong_1 : decode cX10_isAmong 1 = .ok (.istore_n 3, 1) := by decide +kernel
theorem dX10_isAmong_2 : decode cX10_isAmong 2 = .ok (.iload_n 3, 1) := by decide +kernel
theorem dX10_isAmong_3 : decode cX10_isAmong 3 = .ok (.iload_n 2, 1) := by decide +kernel
theorem dX10_isAmong_4 : decode cX10_isAmong 4 = .ok (.if_icmp .ge 21, 3) := by decide +kernel
theorem dX10_isAmong_7 : decode cX10_isAmong 7 = .ok (.aload_n 0, 1) := by decide +kernel
theorem dX10_isAmong_8 : decode cX10_isAmong 8 = .ok (.getfield 103, 3) := by decide +kernel
theorem dX10_isAmong_11 : decode cX10_isAmong 11 = .ok (.iload_n 3, 1) := by decide +kernel
theorem dX10_isAmong_12 : decode cX10_isAmong 12 = .ok (.iaload, 1) := by decide +kernel
theorem dX10_isAmong_13 : decode cX10_isAmong 13 = .ok (.iload_n 1, 1) := by decide +kernel
theorem dX10_isAmong_14 : decode cX10_isAmong 14 = .ok (.if_icmp .ne 5, 3) := by decide +kernel
theorem dX10_isAmong_17 : decode cX10_isAmong 17 = .ok (.iconst 1, 1) := by decide +kernel
theorem dX10_isAmong_18 : decode cX10_isAmong 18 = .ok (.ireturn, 1) := by decide +kernel
theorem dX10_isAmong_19 : decode cX10_isAmong 19 = .ok (.iinc 3 1, 3) := by decide +kernel
theorem dX10_isAmong_22 : decode cX10_isAmong 22 = .ok (.goto (-20), 3) := by decide +kernel
theorem dX10_isAmong_25 : decode cX10_isAmong 25 = .ok (.iconst 0, 1) := by decide +kernel
theorem dX10_isAmong_26 : decode cX10_isAmong 26 = .ok (.ireturn, 1) := by decide +kernel
theorem dX10_isLearnt_0 : decode cX10_isLearnt 0 = .ok (.iconst 0, 1) := by decide +kernel
theorem dX10_isLearnt_1 : decode cX10_isLearnt 1 = .ok (.istore_n 2, 1) := by decide +kernel
theorem dX10_isLearnt_2 : decode cX10_isLearnt 2 = .ok (.iload_n 2, 1) := by decide +kernel
theorem dX10_isLearnt_3 : decode cX10_isLearnt 3 = .ok (.aload_n 0, 1) := by decide +kernel
theorem dX10_isLearnt_4 : decode cX10_isLearnt 4 = .ok (.getfield 163, 3) := by decide +kernel
theorem dX10_isLearnt_7 : decode cX10_isLearnt 7 = .ok (.if_icmp .ge 21, 3) := by decide +kernel
theorem dX10_isLearnt_10 : decode cX10_isLearnt 10 = .ok (.aload_n 0, 1) := by decide +kernel
theorem dX10_isLearnt_11 : decode cX10_isLearnt 11 = .ok (.getfield 53, 3) := by decide +kernel
theorem dX10_isLearnt_14 : decode cX10_isLearnt 14 = .ok (.iload_n 2, 1) := by decide +kernel
theorem dX10_isLearnt_15 : decode cX10_isLearnt 15 = .ok (.iaload, 1) := by decide +kernel
theorem dX10_isLearnt_16 : decode cX10_isLearnt 16 = .ok (.iload_n 1, 1) := by decide +kernel
theorem dX10_isLearnt_17 : decode cX10_isLearnt 17 = .ok (.if_icmp .ne 5, 3) := by decide +kernel
theorem dX10_isLearnt_20 : decode cX10_isLearnt 20 = .ok (.iconst 1, 1) := by decide +kernel
theorem dX10_isLearnt_21 : decode cX10_isLearnt 21 = .ok (.ireturn, 1) := by decide +kernel
theorem dX10_isLearnt_22 : decode cX10_isLearnt 22 = .ok (.iinc 2 1, 3) := by decide +kernel
theorem dX10_isLearnt_25 : decode cX10_isLearnt 25 = .ok (.goto (-23), 3) := by decide +kernel
theorem dX10_isLearnt_28 : decode cX10_isLearnt 28 = .ok (.iconst 0, 1) := by decide +kernel
theorem dX10_isLearnt_29 : decode cX10_isLearnt 29 = .ok (.ireturn, 1) := by decide +kernel
theorem dX10_learnt_0 : decode cX10_learnt 0 = .ok (.aload_n 0, 1) := by decide +kernel
theorem dX10_learnt_1 : decode cX10_learnt 1 = .ok (.getfield 261, 3) := by decide +kernel
theorem dX10_learnt_4 : decode cX10_learnt 4 = .ok (.ifCond .ne 5, 3) := by decide +kernel
theorem dX10_learnt_7 : decode cX10_learnt 7 = .ok (.iconst (-1), 1) := by decide +kernel
theorem dX10_learnt_8 : decode cX10_learnt 8 = .ok (.ireturn, 1) := by decide +kernel
theorem dX10_learnt_9 : decode cX10_learnt 9 = .ok (.iload_n 1, 1) := by decide +kernel
theorem dX10_learnt_10 : decode cX10_learnt 10 = .ok (.tableswitch 59 0 4 #[34, 39, 44, 49, 54], 34) := by decide +kernel
theorem dX10_learnt_44 : decode cX10_learnt 44 = .ok (.aload_n 0, 1) := by decide +kernel
theorem dX10_learnt_45 : decode cX10_learnt 45 = .ok (.getfield 240, 3) := by decide +kernel
theorem dX10_learnt_48 : decode cX10_learnt 48 = .ok (.ireturn, 1) := by decide +kernel
theorem dX10_learnt_49 : decode cX10_learnt 49 = .ok (.aload_n 0, 1) := by decide +kernel
theorem dX10_learnt_50 : decode cX10_learnt 50 = .ok (.getfield 234, 3) := by decide +kernel
theorem dX10_learnt_53 : decode cX10_learnt 53 = .ok (.ireturn, 1) := by decide +kernel
theorem dX10_learnt_54 : decode cX10_learnt 54 = .ok (.aload_n 0, 1) := by decide +kernel
theorem dX10_learnt_55 : decode cX10_learnt 55 = .ok (.getfield 231, 3) := by decide +kernel
theorem dX10_learnt_58 : decode cX10_learnt 58 = .ok (.ireturn, 1) := by decide +kernel
theorem dX10_learnt_59 : decode cX10_learnt 59 = .ok (.aload_n 0, 1) := by decide +kernel
theorem dX10_learnt_60 : decode cX10_learnt 60 = .ok (.getfield 249, 3) := by decide +kernel
theorem dX10_learnt_63 : decode cX10_learnt 63 = .ok (.ireturn, 1) := by decide +kernel
theorem dX10_learnt_64 : decode cX10_learnt 64 = .ok (.aload_n 0, 1) := by decide +kernel
theorem dX10_learnt_65 : decode cX10_learnt 65 = .ok (.getfield 252, 3) := by decide +kernel
theorem dX10_learnt_68 : decode cX10_learnt 68 = .ok (.ireturn, 1) := by decide +kernel
theorem dX10_learnt_69 : decode cX10_learnt 69 = .ok (.iconst (-1), 1) := by decide +kernel
theorem dX10_learnt_70 : decode cX10_learnt 70 = .ok (.ireturn, 1) := by decide +kernel
theorem dX10_sortedBy_0 : decode cX10_sortedBy 0 = .ok (.iconst 0, 1) := by decide +kernel
theorem dX10_sortedBy_1 : decode cX10_sortedBy 1 = .ok (.istore_n 3, 1) := by decide +kernel
theorem dX10_sortedBy_2 : decode cX10_sortedBy 2 = .ok (.iload_n 2, 1) := by decide +kernel
theorem dX10_sortedBy_3 : decode cX10_sortedBy 3 = .ok (.istore 4, 2) := by decide +kernel
theorem dX10_sortedBy_5 : decode cX10_sortedBy 5 = .ok (.iload 4, 2) := by decide +kernel
theorem dX10_sortedBy_7 : decode cX10_sortedBy 7 = .ok (.aload_n 0, 1) := by decide +kernel
theorem dX10_sortedBy_8 : decode cX10_sortedBy 8 = .ok (.getfield 182, 3) := by decide +kernel
theorem dX10_sortedBy_11 : decode cX10_sortedBy 11 = .ok (.if_icmp .ge 28, 3) := by decide +kernel
theorem dX10_sortedBy_14 : decode cX10_sortedBy 14 = .ok (.iload_n 3, 1) := by decide +kernel
theorem dX10_sortedBy_15 : decode cX10_sortedBy 15 = .ok (.aload_n 0, 1) := by decide +kernel
theorem dX10_sortedBy_16 : decode cX10_sortedBy 16 = .ok (.getfield 25, 3) := by decide +kernel
theorem dX10_sortedBy_19 : decode cX10_sortedBy 19 = .ok (.iload 4, 2) := by decide +kernel
theorem dX10_sortedBy_21 : decode cX10_sortedBy 21 = .ok (.iaload, 1) := by decide +kernel
theorem dX10_sortedBy_22 : decode cX10_sortedBy 22 = .ok (.iload_n 1, 1) := by decide +kernel
theorem dX10_sortedBy_23 : decode cX10_sortedBy 23 = .ok (.if_icmp .ne 7, 3) := by decide +kernel
theorem dX10_sortedBy_26 : decode cX10_sortedBy 26 = .ok (.iconst 1, 1) := by decide +kernel
theorem dX10_sortedBy_27 : decode cX10_sortedBy 27 = .ok (.goto 4, 3) := by decide +kernel
theorem dX10_sortedBy_30 : decode cX10_sortedBy 30 = .ok (.iconst 0, 1) := by decide +kernel
theorem dX10_sortedBy_31 : decode cX10_sortedBy 31 = .ok (.iadd, 1) := by decide +kernel
theorem dX10_sortedBy_32 : decode cX10_sortedBy 32 = .ok (.istore_n 3, 1) := by decide +kernel
theorem dX10_sortedBy_33 : decode cX10_sortedBy 33 = .ok (.iinc 4 1, 3) := by decide +kernel
theorem dX10_sortedBy_36 : decode cX10_sortedBy 36 = .ok (.goto (-31), 3) := by decide +kernel
theorem dX10_sortedBy_39 : decode cX10_sortedBy 39 = .ok (.iload_n 3, 1) := by decide +kernel
theorem dX10_sortedBy_40 : decode cX10_sortedBy 40 = .ok (.ireturn, 1) := by decide +kernel
theorem dX10_judged_0 : decode cX10_judged 0 = .ok (.iconst 0, 1) := by decide +kernel
theorem dX10_judged_1 : decode cX10_judged 1 = .ok (.istore 4, 2) := by decide +kernel
theorem dX10_judged_3 : decode cX10_judged 3 = .ok (.iconst 0, 1) := by decide +kernel
theorem dX10_judged_4 : decode cX10_judged 4 = .ok (.istore 5, 2) := by decide +kernel
theorem dX10_judged_6 : decode cX10_judged 6 = .ok (.iload 5, 2) := by decide +kernel
theorem dX10_judged_8 : decode cX10_judged 8 = .ok (.aload_n 0, 1) := by decide +kernel
theorem dX10_judged_9 : decode cX10_judged 9 = .ok (.getfield 182, 3) := by decide +kernel
theorem dX10_judged_12 : decode cX10_judged 12 = .ok (.if_icmp .ge 61, 3) := by decide +kernel
theorem dX10_judged_15 : decode cX10_judged 15 = .ok (.iload 4, 2) := by decide +kernel
theorem dX10_judged_17 : decode cX10_judged 17 = .ok (.aload_n 0, 1) := by decide +kernel
theorem dX10_judged_18 : decode cX10_judged 18 = .ok (.getfield 25, 3) := by decide +kernel
theorem dX10_judged_21 : decode cX10_judged 21 = .ok (.iload 5, 2) := by decide +kernel
theorem dX10_judged_23 : decode cX10_judged 23 = .ok (.iaload, 1) := by decide +kernel
theorem dX10_judged_24 : decode cX10_judged 24 = .ok (.iload_n 1, 1) := by decide +kernel
theorem dX10_judged_25 : decode cX10_judged 25 = .ok (.if_icmp .ne 38, 3) := by decide +kernel
theorem dX10_judged_28 : decode cX10_judged 28 = .ok (.aload_n 0, 1) := by decide +kernel
theorem dX10_judged_29 : decode cX10_judged 29 = .ok (.getfield 34, 3) := by decide +kernel
theorem dX10_judged_32 : decode cX10_judged 32 = .ok (.iload 5, 2) := by decide +kernel
theorem dX10_judged_34 : decode cX10_judged 34 = .ok (.iaload, 1) := by decide +kernel
theorem dX10_judged_35 : decode cX10_judged 35 = .ok (.iconst (-1), 1) := by decide +kernel
theorem dX10_judged_36 : decode cX10_judged 36 = .ok (.if_icmp .eq 27, 3) := by decide +kernel
theorem dX10_judged_39 : decode cX10_judged 39 = .ok (.aload_n 0, 1) := by decide +kernel
theorem dX10_judged_40 : decode cX10_judged 40 = .ok (.getfield 34, 3) := by decide +kernel
theorem dX10_judged_43 : decode cX10_judged 43 = .ok (.iload 5, 2) := by decide +kernel
theorem dX10_judged_45 : decode cX10_judged 45 = .ok (.iaload, 1) := by decide +kernel
theorem dX10_judged_46 : decode cX10_judged 46 = .ok (.iload_n 2, 1) := by decide +kernel
theorem dX10_judged_47 : decode cX10_judged 47 = .ok (.if_icmp .ne 7, 3) := by decide +kernel
theorem dX10_judged_50 : decode cX10_judged 50 = .ok (.iconst 1, 1) := by decide +kernel
theorem dX10_judged_51 : decode cX10_judged 51 = .ok (.goto 4, 3) := by decide +kernel
theorem dX10_judged_54 : decode cX10_judged 54 = .ok (.iconst 0, 1) := by decide +kernel
theorem dX10_judged_55 : decode cX10_judged 55 = .ok (.iload_n 3, 1) := by decide +kernel
theorem dX10_judged_56 : decode cX10_judged 56 = .ok (.if_icmp .ne 7, 3) := by decide +kernel
theorem dX10_judged_59 : decode cX10_judged 59 = .ok (.iconst 1, 1) := by decide +kernel
theorem dX10_judged_60 : decode cX10_judged 60 = .ok (.goto 4, 3) := by decide +kernel
theorem dX10_judged_63 : decode cX10_judged 63 = .ok (.iconst 0, 1) := by decide +kernel
theorem dX10_judged_64 : decode cX10_judged 64 = .ok (.iadd, 1) := by decide +kernel
theorem dX10_judged_65 : decode cX10_judged 65 = .ok (.istore 4, 2) := by decide +kernel
theorem dX10_judged_67 : decode cX10_judged 67 = .ok (.iinc 5 1, 3) := by decide +kernel
theorem dX10_judged_70 : decode cX10_judged 70 = .ok (.goto (-64), 3) := by decide +kernel
theorem dX10_judged_73 : decode cX10_judged 73 = .ok (.iload 4, 2) := by decide +kernel
theorem dX10_judged_75 : decode cX10_judged 75 = .ok (.ireturn, 1) := by decide +kernel
theorem dX10_fade_0 : decode cX10_fade 0 = .ok (.iload_n 1, 1) := by decide +kernel
theorem dX10_fade_1 : decode cX10_fade 1 = .ok (.iconst 1, 1) := by decide +kernel
theorem dX10_fade_2 : decode cX10_fade 2 = .ok (.bipush 100, 2) := by decide +kernel
theorem dX10_fade_4 : decode cX10_fade 4 = .ok (.invokestatic 156, 3) := by decide +kernel
theorem dX10_fade_7 : decode cX10_fade 7 = .ok (.ifCond .ne 5, 3) := by decide +kernel
theorem dX10_fade_10 : decode cX10_fade 10 = .ok (.iconst (-1), 1) := by decide +kernel
theorem dX10_fade_11 : decode cX10_fade 11 = .ok (.ireturn, 1) := by decide +kernel
theorem dX10_fade_12 : decode cX10_fade 12 = .ok (.aload_n 0, 1) := by decide +kernel
theorem dX10_fade_13 : decode cX10_fade 13 = .ok (.getfield 182, 3) := by decide +kernel
theorem dX10_fade_16 : decode cX10_fade 16 = .ok (.iload_n 1, 1) := by decide +kernel
theorem dX10_fade_17 : decode cX10_fade 17 = .ok (.if_icmp .le 12, 3) := by decide +kernel
theorem dX10_fade_20 : decode cX10_fade 20 = .ok (.aload_n 0, 1) := by decide +kernel
theorem dX10_fade_21 : decode cX10_fade 21 = .ok (.getfield 182, 3) := by decide +kernel
theorem dX10_fade_24 : decode cX10_fade 24 = .ok (.iload_n 1, 1) := by decide +kernel
theorem dX10_fade_25 : decode cX10_fade 25 = .ok (.isub, 1) := by decide +kernel
theorem dX10_fade_26 : decode cX10_fade 26 = .ok (.goto 4, 3) := by decide +kernel
theorem dX10_fade_29 : decode cX10_fade 29 = .ok (.iconst 0, 1) := by decide +kernel
theorem dX10_fade_30 : decode cX10_fade 30 = .ok (.istore_n 2, 1) := by decide +kernel
theorem dX10_fade_31 : decode cX10_fade 31 = .ok (.iconst 0, 1) := by decide +kernel
theorem dX10_fade_32 : decode cX10_fade 32 = .ok (.istore_n 3, 1) := by decide +kernel
theorem dX10_fade_33 : decode cX10_fade 33 = .ok (.iconst 0, 1) := by decide +kernel
theorem dX10_fade_34 : decode cX10_fade 34 = .ok (.istore 4, 2) := by decide +kernel
theorem dX10_fade_36 : decode cX10_fade 36 = .ok (.iconst 0, 1) := by decide +kernel
theorem dX10_fade_37 : decode cX10_fade 37 = .ok (.istore 5, 2) := by decide +kernel
theorem dX10_fade_39 : decode cX10_fade 39 = .ok (.iload 5, 2) := by decide +kernel
theorem dX10_fade_41 : decode cX10_fade 41 = .ok (.aload_n 0, 1) := by decide +kernel
theorem dX10_fade_42 : decode cX10_fade 42 = .ok (.getfield 163, 3) := by decide +kernel
theorem dX10_fade_45 : decode cX10_fade 45 = .ok (.if_icmp .ge 163, 3) := by decide +kernel
theorem dX10_fade_48 : decode cX10_fade 48 = .ok (.aload_n 0, 1) := by decide +kernel
theorem dX10_fade_49 : decode cX10_fade 49 = .ok (.aload_n 0, 1) := by decide +kernel
theorem dX10_fade_50 : decode cX10_fade 50 = .ok (.getfield 53, 3) := by decide +kernel
theorem dX10_fade_53 : decode cX10_fade 53 = .ok (.iload 5, 2) := by decide +kernel
theorem dX10_fade_55 : decode cX10_fade 55 = .ok (.iaload, 1) := by decide +kernel
theorem dX10_fade_56 : decode cX10_fade 56 = .ok (.iload_n 2, 1) := by decide +kernel
theorem dX10_fade_57 : decode cX10_fade 57 = .ok (.invokevirtual 265, 3) := by decide +kernel
theorem dX10_fade_60 : decode cX10_fade 60 = .ok (.ifCond .eq 44, 3) := by decide +kernel
theorem dX10_fade_63 : decode cX10_fade 63 = .ok (.aload_n 0, 1) := by decide +kernel
theorem dX10_fade_64 : decode cX10_fade 64 = .ok (.aload_n 0, 1) := by decide +kernel
theorem dX10_fade_65 : decode cX10_fade 65 = .ok (.getfield 53, 3) := by decide +kernel
theorem dX10_fade_68 : decode cX10_fade 68 = .ok (.iload 5, 2) := by decide +kernel
theorem dX10_fade_70 : decode cX10_fade 70 = .ok (.iaload, 1) := by decide +kernel
theorem dX10_fade_71 : decode cX10_fade 71 = .ok (.aload_n 0, 1) := by decide +kernel
theorem dX10_fade_72 : decode cX10_fade 72 = .ok (.getfield 62, 3) := by decide +kernel
theorem dX10_fade_75 : decode cX10_fade 75 = .ok (.iload 5, 2) := by decide +kernel
theorem dX10_fade_77 : decode cX10_fade 77 = .ok (.iaload, 1) := by decide +kernel
theorem dX10_fade_78 : decode cX10_fade 78 = .ok (.iconst 0, 1) := by decide +kernel
theorem dX10_fade_79 : decode cX10_fade 79 = .ok (.invokevirtual 268, 3) := by decide +kernel
theorem dX10_fade_82 : decode cX10_fade 82 = .ok (.aload_n 0, 1) := by decide +kernel
theorem dX10_fade_83 : decode cX10_fade 83 = .ok (.aload_n 0, 1) := by decide +kernel
theorem dX10_fade_84 : decode cX10_fade 84 = .ok (.getfield 53, 3) := by decide +kernel
theorem dX10_fade_87 : decode cX10_fade 87 = .ok (.iload 5, 2) := by decide +kernel
theorem dX10_fade_89 : decode cX10_fade 89 = .ok (.iaload, 1) := by decide +kernel
theorem dX10_fade_90 : decode cX10_fade 90 = .ok (.aload_n 0, 1) := by decide +kernel
theorem dX10_fade_91 : decode cX10_fade 91 = .ok (.getfield 62, 3) := by decide +kernel
theorem dX10_fade_94 : decode cX10_fade 94 = .ok (.iload 5, 2) := by decide +kernel
theorem dX10_fade_96 : decode cX10_fade 96 = .ok (.iaload, 1) := by decide +kernel
theorem dX10_fade_97 : decode cX10_fade 97 = .ok (.iconst 1, 1) := by decide +kernel
theorem dX10_fade_98 : decode cX10_fade 98 = .ok (.invokevirtual 268, 3) := by decide +kernel
theorem dX10_fade_101 : decode cX10_fade 101 = .ok (.if_icmp .le 7, 3) := by decide +kernel
theorem dX10_fade_104 : decode cX10_fade 104 = .ok (.iconst 1, 1) := by decide +kernel
theorem dX10_fade_105 : decode cX10_fade 105 = .ok (.goto 4, 3) := by decide +kernel
theorem dX10_fade_108 : decode cX10_fade 108 = .ok (.iconst 0, 1) := by decide +kernel
theorem dX10_fade_109 : decode cX10_fade 109 = .ok (.istore 6, 2) := by decide +kernel
theorem dX10_fade_111 : decode cX10_fade 111 = .ok (.iload 6, 2) := by decide +kernel
theorem dX10_fade_113 : decode cX10_fade 113 = .ok (.ifCond .eq 9, 3) := by decide +kernel
theorem dX10_fade_116 : decode cX10_fade 116 = .ok (.iinc 4 1, 3) := by decide +kernel
theorem dX10_fade_119 : decode cX10_fade 119 = .ok (.goto 83, 3) := by decide +kernel
theorem dX10_fade_122 : decode cX10_fade 122 = .ok (.aload_n 0, 1) := by decide +kernel
theorem dX10_fade_123 : decode cX10_fade 123 = .ok (.getfield 53, 3) := by decide +kernel
theorem dX10_fade_126 : decode cX10_fade 126 = .ok (.iload_n 3, 1) := by decide +kernel
theorem dX10_fade_127 : decode cX10_fade 127 = .ok (.aload_n 0, 1) := by decide +kernel
theorem dX10_fade_128 : decode cX10_fade 128 = .ok (.getfield 53, 3) := by decide +kernel
theorem dX10_fade_131 : decode cX10_fade 131 = .ok (.iload 5, 2) := by decide +kernel
theorem dX10_fade_133 : decode cX10_fade 133 = .ok (.iaload, 1) := by decide +kernel
theorem dX10_fade_134 : decode cX10_fade 134 = .ok (.iastore, 1) := by decide +kernel
theorem dX10_fade_135 : decode cX10_fade 135 = .ok (.aload_n 0, 1) := by decide +kernel
theorem dX10_fade_136 : decode cX10_fade 136 = .ok (.getfield 56, 3) := by decide +kernel
theorem dX10_fade_139 : decode cX10_fade 139 = .ok (.iload_n 3, 1) := by decide +kernel
theorem dX10_fade_140 : decode cX10_fade 140 = .ok (.aload_n 0, 1) := by decide +kernel
theorem dX10_fade_141 : decode cX10_fade 141 = .ok (.getfield 56, 3) := by decide +kernel
theorem dX10_fade_144 : decode cX10_fade 144 = .ok (.iload 5, 2) := by decide +kernel
theorem dX10_fade_146 : decode cX10_fade 146 = .ok (.iaload, 1) := by decide +kernel
theorem dX10_fade_147 : decode cX10_fade 147 = .ok (.iastore, 1) := by decide +kernel
theorem dX10_fade_148 : decode cX10_fade 148 = .ok (.aload_n 0, 1) := by decide +kernel
theorem dX10_fade_149 : decode cX10_fade 149 = .ok (.getfield 59, 3) := by decide +kernel
theorem dX10_fade_152 : decode cX10_fade 152 = .ok (.iconst 2, 1) := by decide +kernel
theorem dX10_fade_153 : decode cX10_fade 153 = .ok (.iload_n 3, 1) := by decide +kernel
theorem dX10_fade_154 : decode cX10_fade 154 = .ok (.imul, 1) := by decide +kernel
theorem dX10_fade_155 : decode cX10_fade 155 = .ok (.aload_n 0, 1) := by decide +kernel
theorem dX10_fade_156 : decode cX10_fade 156 = .ok (.getfield 59, 3) := by decide +kernel
theorem dX10_fade_159 : decode cX10_fade 159 = .ok (.iconst 2, 1) := by decide +kernel
theorem dX10_fade_160 : decode cX10_fade 160 = .ok (.iload 5, 2) := by decide +kernel
theorem dX10_fade_162 : decode cX10_fade 162 = .ok (.imul, 1) := by decide +kernel
theorem dX10_fade_163 : decode cX10_fade 163 = .ok (.iaload, 1) := by decide +kernel
theorem dX10_fade_164 : decode cX10_fade 164 = .ok (.iastore, 1) := by decide +kernel
theorem dX10_fade_165 : decode cX10_fade 165 = .ok (.aload_n 0, 1) := by decide +kernel
theorem dX10_fade_166 : decode cX10_fade 166 = .ok (.getfield 59, 3) := by decide +kernel
theorem dX10_fade_169 : decode cX10_fade 169 = .ok (.iconst 2, 1) := by decide +kernel
theorem dX10_fade_170 : decode cX10_fade 170 = .ok (.iload_n 3, 1) := by decide +kernel
theorem dX10_fade_171 : decode cX10_fade 171 = .ok (.imul, 1) := by decide +kernel
theorem dX10_fade_172 : decode cX10_fade 172 = .ok (.iconst 1, 1) := by decide +kernel
theorem dX10_fade_173 : decode cX10_fade 173 = .ok (.iadd, 1) := by decide +kernel
theorem dX10_fade_174 : decode cX10_fade 174 = .ok (.aload_n 0, 1) := by decide +kernel
theorem dX10_fade_175 : decode cX10_fade 175 = .ok (.getfield 59, 3) := by decide +kernel
theorem dX10_fade_178 : decode cX10_fade 178 = .ok (.iconst 2, 1) := by decide +kernel
theorem dX10_fade_179 : decode cX10_fade 179 = .ok (.iload 5, 2) := by decide +kernel
theorem dX10_fade_181 : decode cX10_fade 181 = .ok (.imul, 1) := by decide +kernel
theorem dX10_fade_182 : decode cX10_fade 182 = .ok (.iconst 1, 1) := by decide +kernel
theorem dX10_fade_183 : decode cX10_fade 183 = .ok (.iadd, 1) := by decide +kernel
theorem dX10_fade_184 : decode cX10_fade 184 = .ok (.iaload, 1) := by decide +kernel
theorem dX10_fade_185 : decode cX10_fade 185 = .ok (.iastore, 1) := by decide +kernel
theorem dX10_fade_186 : decode cX10_fade 186 = .ok (.aload_n 0, 1) := by decide +kernel
theorem dX10_fade_187 : decode cX10_fade 187 = .ok (.getfield 62, 3) := by decide +kernel
theorem dX10_fade_190 : decode cX10_fade 190 = .ok (.iload_n 3, 1) := by decide +kernel
theorem dX10_fade_191 : decode cX10_fade 191 = .ok (.aload_n 0, 1) := by decide +kernel
theorem dX10_fade_192 : decode cX10_fade 192 = .ok (.getfield 62, 3) := by decide +kernel
theorem dX10_fade_195 : decode cX10_fade 195 = .ok (.iload 5, 2) := by decide +kernel
theorem dX10_fade_197 : decode cX10_fade 197 = .ok (.iaload, 1) := by decide +kernel
theorem dX10_fade_198 : decode cX10_fade 198 = .ok (.iastore, 1) := by decide +kernel
theorem dX10_fade_199 : decode cX10_fade 199 = .ok (.iinc 3 1, 3) := by decide +kernel
theorem dX10_fade_202 : decode cX10_fade 202 = .ok (.iinc 5 1, 3) := by decide +kernel
theorem dX10_fade_205 : decode cX10_fade 205 = .ok (.goto (-166), 3) := by decide +kernel
theorem dX10_fade_208 : decode cX10_fade 208 = .ok (.aload_n 0, 1) := by decide +kernel
theorem dX10_fade_209 : decode cX10_fade 209 = .ok (.iload_n 3, 1) := by decide +kernel
theorem dX10_fade_210 : decode cX10_fade 210 = .ok (.putfield 163, 3) := by decide +kernel
theorem dX10_fade_213 : decode cX10_fade 213 = .ok (.iload 4, 2) := by decide +kernel
theorem dX10_fade_215 : decode cX10_fade 215 = .ok (.ireturn, 1) := by decide +kernel
theorem dX10_rule_0 : decode cX10_rule 0 = .ok (.aload_n 0, 1) := by decide +kernel
theorem dX10_rule_1 : decode cX10_rule 1 = .ok (.iload_n 1, 1) := by decide +kernel
theorem dX10_rule_2 : decode cX10_rule 2 = .ok (.invokevirtual 272, 3) := by decide +kernel
theorem dX10_rule_5 : decode cX10_rule 5 = .ok (.ifCond .ne 5, 3) := by decide +kernel
theorem dX10_rule_8 : decode cX10_rule 8 = .ok (.iconst (-1), 1) := by decide +kernel
theorem dX10_rule_9 : decode cX10_rule 9 = .ok (.ireturn, 1) := by decide +kernel
theorem dX10_rule_10 : decode cX10_rule 10 = .ok (.aload_n 0, 1) := by decide +kernel
theorem dX10_rule_11 : decode cX10_rule 11 = .ok (.iload_n 1, 1) := by decide +kernel
theorem dX10_rule_12 : decode cX10_rule 12 = .ok (.invokevirtual 169, 3) := by decide +kernel
theorem dX10_rule_15 : decode cX10_rule 15 = .ok (.istore_n 3, 1) := by decide +kernel
theorem dX10_rule_16 : decode cX10_rule 16 = .ok (.iload_n 1, 1) := by decide +kernel
theorem dX10_rule_17 : decode cX10_rule 17 = .ok (.aload_n 0, 1) := by decide +kernel
theorem dX10_rule_18 : decode cX10_rule 18 = .ok (.invokevirtual 160, 3) := by decide +kernel
theorem dX10_rule_21 : decode cX10_rule 21 = .ok (.isub, 1) := by decide +kernel
theorem dX10_rule_22 : decode cX10_rule 22 = .ok (.istore 4, 2) := by decide +kernel
theorem dX10_rule_24 : decode cX10_rule 24 = .ok (.iload_n 3, 1) := by decide +kernel
theorem dX10_rule_25 : decode cX10_rule 25 = .ok (.ifCond .lt 12, 3) := by decide +kernel
theorem dX10_rule_28 : decode cX10_rule 28 = .ok (.aload_n 0, 1) := by decide +kernel
theorem dX10_rule_29 : decode cX10_rule 29 = .ok (.getfield 44, 3) := by decide +kernel
theorem dX10_rule_32 : decode cX10_rule 32 = .ok (.iload_n 3, 1) := by decide +kernel
theorem dX10_rule_33 : decode cX10_rule 33 = .ok (.iaload, 1) := by decide +kernel
theorem dX10_rule_34 : decode cX10_rule 34 = .ok (.goto 10, 3) := by decide +kernel
theorem dX10_rule_37 : decode cX10_rule 37 = .ok (.aload_n 0, 1) := by decide +kernel
theorem dX10_rule_38 : decode cX10_rule 38 = .ok (.getfield 56, 3) := by decide +kernel
theorem dX10_rule_41 : decode cX10_rule 41 = .ok (.iload 4, 2) := by decide +kernel
theorem dX10_rule_43 : decode cX10_rule 43 = .ok (.iaload, 1) := by decide +kernel
theorem dX10_rule_44 : decode cX10_rule 44 = .ok (.istore 5, 2) := by decide +kernel
theorem dX10_rule_46 : decode cX10_rule 46 = .ok (.iload_n 2, 1) := by decide +kernel
theorem dX10_rule_47 : decode cX10_rule 47 = .ok (.ifCond .ne 9, 3) := by decide +kernel
theorem dX10_rule_50 : decode cX10_rule 50 = .ok (.aload_n 0, 1) := by decide +kernel
theorem dX10_rule_51 : decode cX10_rule 51 = .ok (.iload_n 1, 1) := by decide +kernel
theorem dX10_rule_52 : decode cX10_rule 52 = .ok (.invokevirtual 192, 3) := by decide +kernel
theorem dX10_rule_55 : decode cX10_rule 55 = .ok (.ireturn, 1) := by decide +kernel
theorem dX10_rule_56 : decode cX10_rule 56 = .ok (.iload_n 2, 1) := by decide +kernel
theorem dX10_rule_57 : decode cX10_rule 57 = .ok (.iconst 1, 1) := by decide +kernel
theorem dX10_rule_58 : decode cX10_rule 58 = .ok (.if_icmp .ne 9, 3) := by decide +kernel
theorem dX10_rule_61 : decode cX10_rule 61 = .ok (.aload_n 0, 1) := by decide +kernel
theorem dX10_rule_62 : decode cX10_rule 62 = .ok (.iload_n 1, 1) := by decide +kernel
theorem dX10_rule_63 : decode cX10_rule 63 = .ok (.invokevirtual 195, 3) := by decide +kernel
theorem dX10_rule_66 : decode cX10_rule 66 = .ok (.ireturn, 1) := by decide +kernel
theorem dX10_rule_67 : decode cX10_rule 67 = .ok (.iload_n 2, 1) := by decide +kernel
theorem dX10_rule_68 : decode cX10_rule 68 = .ok (.iconst 2, 1) := by decide +kernel
theorem dX10_rule_69 : decode cX10_rule 69 = .ok (.if_icmp .ne 6, 3) := by decide +kernel
theorem dX10_rule_72 : decode cX10_rule 72 = .ok (.iload 5, 2) := by decide +kernel
theorem dX10_rule_74 : decode cX10_rule 74 = .ok (.ireturn, 1) := by decide +kernel
theorem dX10_rule_75 : decode cX10_rule 75 = .ok (.iload_n 2, 1) := by decide +kernel
theorem dX10_rule_76 : decode cX10_rule 76 = .ok (.bipush 10, 2) := by decide +kernel
theorem dX10_rule_78 : decode cX10_rule 78 = .ok (.bipush 9, 2) := by decide +kernel
theorem dX10_rule_80 : decode cX10_rule 80 = .ok (.iload 5, 2) := by decide +kernel
theorem dX10_rule_82 : decode cX10_rule 82 = .ok (.iadd, 1) := by decide +kernel
theorem dX10_rule_83 : decode cX10_rule 83 = .ok (.invokestatic 156, 3) := by decide +kernel
theorem dX10_rule_86 : decode cX10_rule 86 = .ok (.ifCond .ne 5, 3) := by decide +kernel
theorem dX10_rule_89 : decode cX10_rule 89 = .ok (.iconst (-1), 1) := by decide +kernel
theorem dX10_rule_90 : decode cX10_rule 90 = .ok (.ireturn, 1) := by decide +kernel
theorem dX10_rule_91 : decode cX10_rule 91 = .ok (.iload_n 3, 1) := by decide +kernel
theorem dX10_rule_92 : decode cX10_rule 92 = .ok (.ifCond .lt 19, 3) := by decide +kernel
theorem dX10_rule_95 : decode cX10_rule 95 = .ok (.aload_n 0, 1) := by decide +kernel
theorem dX10_rule_96 : decode cX10_rule 96 = .ok (.getfield 47, 3) := by decide +kernel
theorem dX10_rule_99 : decode cX10_rule 99 = .ok (.iconst 4, 1) := by decide +kernel
theorem dX10_rule_100 : decode cX10_rule 100 = .ok (.iload_n 3, 1) := by decide +kernel
theorem dX10_rule_101 : decode cX10_rule 101 = .ok (.imul, 1) := by decide +kernel
theorem dX10_rule_102 : decode cX10_rule 102 = .ok (.iload_n 2, 1) := by decide +kernel
theorem dX10_rule_103 : decode cX10_rule 103 = .ok (.iadd, 1) := by decide +kernel
theorem dX10_rule_104 : decode cX10_rule 104 = .ok (.bipush 10, 2) := by decide +kernel
theorem dX10_rule_106 : decode cX10_rule 106 = .ok (.isub, 1) := by decide +kernel
theorem dX10_rule_107 : decode cX10_rule 107 = .ok (.iaload, 1) := by decide +kernel
theorem dX10_rule_108 : decode cX10_rule 108 = .ok (.goto 17, 3) := by decide +kernel
theorem dX10_rule_111 : decode cX10_rule 111 = .ok (.aload_n 0, 1) := by decide +kernel
theorem dX10_rule_112 : decode cX10_rule 112 = .ok (.getfield 59, 3) := by decide +kernel
theorem dX10_rule_115 : decode cX10_rule 115 = .ok (.iconst 2, 1) := by decide +kernel
theorem dX10_rule_116 : decode cX10_rule 116 = .ok (.iload 4, 2) := by decide +kernel
theorem dX10_rule_118 : decode cX10_rule 118 = .ok (.imul, 1) := by decide +kernel
theorem dX10_rule_119 : decode cX10_rule 119 = .ok (.iload_n 2, 1) := by decide +kernel
theorem dX10_rule_120 : decode cX10_rule 120 = .ok (.iadd, 1) := by decide +kernel
theorem dX10_rule_121 : decode cX10_rule 121 = .ok (.bipush 10, 2) := by decide +kernel
theorem dX10_rule_123 : decode cX10_rule 123 = .ok (.isub, 1) := by decide +kernel
theorem dX10_rule_124 : decode cX10_rule 124 = .ok (.iaload, 1) := by decide +kernel
theorem dX10_rule_125 : decode cX10_rule 125 = .ok (.ireturn, 1) := by decide +kernel
theorem dX10_record_0 : decode cX10_record 0 = .ok (.aload_n 0, 1) := by decide +kernel
theorem dX10_record_1 : decode cX10_record 1 = .ok (.iload_n 1, 1) := by decide +kernel
theorem dX10_record_2 : decode cX10_record 2 = .ok (.invokevirtual 272, 3) := by decide +kernel
theorem dX10_record_5 : decode cX10_record 5 = .ok (.ifCond .ne 5, 3) := by decide +kernel
theorem dX10_record_8 : decode cX10_record 8 = .ok (.iconst (-1), 1) := by decide +kernel
theorem dX10_record_9 : decode cX10_record 9 = .ok (.ireturn, 1) := by decide +kernel
theorem dX10_record_10 : decode cX10_record 10 = .ok (.aload_n 0, 1) := by decide +kernel
theorem dX10_record_11 : decode cX10_record 11 = .ok (.iload_n 1, 1) := by decide +kernel
theorem dX10_record_12 : decode cX10_record 12 = .ok (.invokevirtual 189, 3) := by decide +kernel
theorem dX10_record_15 : decode cX10_record 15 = .ok (.istore_n 3, 1) := by decide +kernel
theorem dX10_record_16 : decode cX10_record 16 = .ok (.iconst (-1), 1) := by decide +kernel
theorem dX10_record_17 : decode cX10_record 17 = .ok (.istore 4, 2) := by decide +kernel
theorem dX10_record_19 : decode cX10_record 19 = .ok (.iconst 0, 1) := by decide +kernel
theorem dX10_record_20 : decode cX10_record 20 = .ok (.istore 5, 2) := by decide +kernel
theorem dX10_record_22 : decode cX10_record 22 = .ok (.iload 5, 2) := by decide +kernel
theorem dX10_record_24 : decode cX10_record 24 = .ok (.aload_n 0, 1) := by decide +kernel
theorem dX10_record_25 : decode cX10_record 25 = .ok (.getfield 182, 3) := by decide +kernel
theorem dX10_record_28 : decode cX10_record 28 = .ok (.if_icmp .ge 24, 3) := by decide +kernel
theorem dX10_record_31 : decode cX10_record 31 = .ok (.aload_n 0, 1) := by decide +kernel
theorem dX10_record_32 : decode cX10_record 32 = .ok (.getfield 25, 3) := by decide +kernel
theorem dX10_record_35 : decode cX10_record 35 = .ok (.iload 5, 2) := by decide +kernel
theorem dX10_record_37 : decode cX10_record 37 = .ok (.iaload, 1) := by decide +kernel
theorem dX10_record_38 : decode cX10_record 38 = .ok (.iload_n 3, 1) := by decide +kernel
theorem dX10_record_39 : decode cX10_record 39 = .ok (.if_icmp .ne 7, 3) := by decide +kernel
theorem dX10_record_42 : decode cX10_record 42 = .ok (.iload 5, 2) := by decide +kernel
theorem dX10_record_44 : decode cX10_record 44 = .ok (.istore 4, 2) := by decide +kernel
theorem dX10_record_46 : decode cX10_record 46 = .ok (.iinc 5 1, 3) := by decide +kernel
theorem dX10_record_49 : decode cX10_record 49 = .ok (.goto (-27), 3) := by decide +kernel
theorem dX10_record_52 : decode cX10_record 52 = .ok (.iload_n 2, 1) := by decide +kernel
theorem dX10_record_53 : decode cX10_record 53 = .ok (.tableswitch 65 0 3 #[31, 38, 50, 62], 31) := by decide +kernel
theorem dX10_record_84 : decode cX10_record 84 = .ok (.aload_n 0, 1) := by decide +kernel
theorem dX10_record_85 : decode cX10_record 85 = .ok (.iload_n 3, 1) := by decide +kernel
theorem dX10_record_86 : decode cX10_record 86 = .ok (.iconst 0, 1) := by decide +kernel
theorem dX10_record_87 : decode cX10_record 87 = .ok (.invokevirtual 265, 3) := by decide +kernel
theorem dX10_record_90 : decode cX10_record 90 = .ok (.ireturn, 1) := by decide +kernel
theorem dX10_record_91 : decode cX10_record 91 = .ok (.aload_n 0, 1) := by decide +kernel
theorem dX10_record_92 : decode cX10_record 92 = .ok (.iload_n 3, 1) := by decide +kernel
theorem dX10_record_93 : decode cX10_record 93 = .ok (.aload_n 0, 1) := by decide +kernel
theorem dX10_record_94 : decode cX10_record 94 = .ok (.iload_n 1, 1) := by decide +kernel
theorem dX10_record_95 : decode cX10_record 95 = .ok (.invokevirtual 195, 3) := by decide +kernel
theorem dX10_record_98 : decode cX10_record 98 = .ok (.iconst 1, 1) := by decide +kernel
theorem dX10_record_99 : decode cX10_record 99 = .ok (.invokevirtual 268, 3) := by decide +kernel
theorem dX10_record_102 : decode cX10_record 102 = .ok (.ireturn, 1) := by decide +kernel
theorem dX10_record_103 : decode cX10_record 103 = .ok (.aload_n 0, 1) := by decide +kernel
theorem dX10_record_104 : decode cX10_record 104 = .ok (.iload_n 3, 1) := by decide +kernel
theorem dX10_record_105 : decode cX10_record 105 = .ok (.aload_n 0, 1) := by decide +kernel
theorem dX10_record_106 : decode cX10_record 106 = .ok (.iload_n 1, 1) := by decide +kernel
theorem dX10_record_107 : decode cX10_record 107 = .ok (.invokevirtual 195, 3) := by decide +kernel
theorem dX10_record_110 : decode cX10_record 110 = .ok (.iconst 0, 1) := by decide +kernel
theorem dX10_record_111 : decode cX10_record 111 = .ok (.invokevirtual 268, 3) := by decide +kernel
theorem dX10_record_114 : decode cX10_record 114 = .ok (.ireturn, 1) := by decide +kernel
theorem dX10_record_115 : decode cX10_record 115 = .ok (.iload 4, 2) := by decide +kernel
theorem dX10_record_117 : decode cX10_record 117 = .ok (.ireturn, 1) := by decide +kernel
theorem dX10_record_118 : decode cX10_record 118 = .ok (.iconst (-1), 1) := by decide +kernel
theorem dX10_record_119 : decode cX10_record 119 = .ok (.ireturn, 1) := by decide +kernel
theorem dX10_both_0 : decode cX10_both 0 = .ok (.aload_n 0, 1) := by decide +kernel
theorem dX10_both_1 : decode cX10_both 1 = .ok (.iload_n 1, 1) := by decide +kernel
theorem dX10_both_2 : decode cX10_both 2 = .ok (.invokevirtual 272, 3) := by decide +kernel
theorem dX10_both_5 : decode cX10_both 5 = .ok (.ifCond .eq 11, 3) := by decide +kernel
theorem dX10_both_8 : decode cX10_both 8 = .ok (.aload_n 0, 1) := by decide +kernel
theorem dX10_both_9 : decode cX10_both 9 = .ok (.iload_n 2, 1) := by decide +kernel
theorem dX10_both_10 : decode cX10_both 10 = .ok (.invokevirtual 272, 3) := by decide +kernel
theorem dX10_both_13 : decode cX10_both 13 = .ok (.ifCond .ne 5, 3) := by decide +kernel
theorem dX10_both_16 : decode cX10_both 16 = .ok (.iconst (-1), 1) := by decide +kernel
theorem dX10_both_17 : decode cX10_both 17 = .ok (.ireturn, 1) := by decide +kernel
theorem dX10_both_18 : decode cX10_both 18 = .ok (.iconst 0, 1) := by decide +kernel
theorem dX10_both_19 : decode cX10_both 19 = .ok (.istore_n 3, 1) := by decide +kernel
theorem dX10_both_20 : decode cX10_both 20 = .ok (.iload_n 3, 1) := by decide +kernel
theorem dX10_both_21 : decode cX10_both 21 = .ok (.aload_n 0, 1) := by decide +kernel
theorem dX10_both_22 : decode cX10_both 22 = .ok (.getfield 182, 3) := by decide +kernel
theorem dX10_both_25 : decode cX10_both 25 = .ok (.if_icmp .ge 29, 3) := by decide +kernel
theorem dX10_both_28 : decode cX10_both 28 = .ok (.aload_n 0, 1) := by decide +kernel
theorem dX10_both_29 : decode cX10_both 29 = .ok (.iload_n 1, 1) := by decide +kernel
theorem dX10_both_30 : decode cX10_both 30 = .ok (.iload_n 3, 1) := by decide +kernel
theorem dX10_both_31 : decode cX10_both 31 = .ok (.invokevirtual 179, 3) := by decide +kernel
theorem dX10_both_34 : decode cX10_both 34 = .ok (.ifCond .eq 14, 3) := by decide +kernel
theorem dX10_both_37 : decode cX10_both 37 = .ok (.aload_n 0, 1) := by decide +kernel
theorem dX10_both_38 : decode cX10_both 38 = .ok (.iload_n 2, 1) := by decide +kernel
theorem dX10_both_39 : decode cX10_both 39 = .ok (.iload_n 3, 1) := by decide +kernel
theorem dX10_both_40 : decode cX10_both 40 = .ok (.invokevirtual 179, 3) := by decide +kernel
theorem dX10_both_43 : decode cX10_both 43 = .ok (.ifCond .eq 5, 3) := by decide +kernel
theorem dX10_both_46 : decode cX10_both 46 = .ok (.iload_n 3, 1) := by decide +kernel
theorem dX10_both_47 : decode cX10_both 47 = .ok (.ireturn, 1) := by decide +kernel
theorem dX10_both_48 : decode cX10_both 48 = .ok (.iinc 3 1, 3) := by decide +kernel
theorem dX10_both_51 : decode cX10_both 51 = .ok (.goto (-31), 3) := by decide +kernel
theorem dX10_both_54 : decode cX10_both 54 = .ok (.iconst (-1), 1) := by decide +kernel
theorem dX10_both_55 : decode cX10_both 55 = .ok (.ireturn, 1) := by decide +kernel
theorem dX10_about_0 : decode cX10_about 0 = .ok (.aload_n 0, 1) := by decide +kernel
theorem dX10_about_1 : decode cX10_about 1 = .ok (.iload_n 1, 1) := by decide +kernel
theorem dX10_about_2 : decode cX10_about 2 = .ok (.invokevirtual 198, 3) := by decide +kernel
theorem dX10_about_5 : decode cX10_about 5 = .ok (.ifCond .ne 5, 3) := by decide +kernel
theorem dX10_about_8 : decode cX10_about 8 = .ok (.iconst (-1), 1) := by decide +kernel
theorem dX10_about_9 : decode cX10_about 9 = .ok (.ireturn, 1) := by decide +kernel
theorem dX10_about_10 : decode cX10_about 10 = .ok (.iload_n 2, 1) := by decide +kernel
theorem dX10_about_11 : decode cX10_about 11 = .ok (.tableswitch 67 0 4 #[33, 40, 47, 54, 61], 33) := by decide +kernel
theorem dX10_about_44 : decode cX10_about 44 = .ok (.aload_n 0, 1) := by decide +kernel
theorem dX10_about_45 : decode cX10_about 45 = .ok (.getfield 22, 3) := by decide +kernel
theorem dX10_about_48 : decode cX10_about 48 = .ok (.iload_n 1, 1) := by decide +kernel
theorem dX10_about_49 : decode cX10_about 49 = .ok (.iaload, 1) := by decide +kernel
theorem dX10_about_50 : decode cX10_about 50 = .ok (.ireturn, 1) := by decide +kernel
theorem dX10_about_51 : decode cX10_about 51 = .ok (.aload_n 0, 1) := by decide +kernel
theorem dX10_about_52 : decode cX10_about 52 = .ok (.getfield 28, 3) := by decide +kernel
theorem dX10_about_55 : decode cX10_about 55 = .ok (.iload_n 1, 1) := by decide +kernel
theorem dX10_about_56 : decode cX10_about 56 = .ok (.iaload, 1) := by decide +kernel
theorem dX10_about_57 : decode cX10_about 57 = .ok (.ireturn, 1) := by decide +kernel
theorem dX10_about_58 : decode cX10_about 58 = .ok (.aload_n 0, 1) := by decide +kernel
theorem dX10_about_59 : decode cX10_about 59 = .ok (.getfield 31, 3) := by decide +kernel
theorem dX10_about_62 : decode cX10_about 62 = .ok (.iload_n 1, 1) := by decide +kernel
theorem dX10_about_63 : decode cX10_about 63 = .ok (.iaload, 1) := by decide +kernel
theorem dX10_about_64 : decode cX10_about 64 = .ok (.ireturn, 1) := by decide +kernel
theorem dX10_about_65 : decode cX10_about 65 = .ok (.aload_n 0, 1) := by decide +kernel
theorem dX10_about_66 : decode cX10_about 66 = .ok (.getfield 34, 3) := by decide +kernel
theorem dX10_about_69 : decode cX10_about 69 = .ok (.iload_n 1, 1) := by decide +kernel
theorem dX10_about_70 : decode cX10_about 70 = .ok (.iaload, 1) := by decide +kernel
theorem dX10_about_71 : decode cX10_about 71 = .ok (.ireturn, 1) := by decide +kernel
theorem dX10_about_72 : decode cX10_about 72 = .ok (.aload_n 0, 1) := by decide +kernel
theorem dX10_about_73 : decode cX10_about 73 = .ok (.iload_n 1, 1) := by decide +kernel
theorem dX10_about_74 : decode cX10_about 74 = .ok (.invokevirtual 186, 3) := by decide +kernel
theorem dX10_about_77 : decode cX10_about 77 = .ok (.ireturn, 1) := by decide +kernel
theorem dX10_about_78 : decode cX10_about 78 = .ok (.iconst (-1), 1) := by decide +kernel
theorem dX10_about_79 : decode cX10_about 79 = .ok (.ireturn, 1) := by decide +kernel
theorem dX10_heapOf_0 : decode cX10_heapOf 0 = .ok (.iconst 0, 1) := by decide +kernel
theorem dX10_heapOf_1 : decode cX10_heapOf 1 = .ok (.istore_n 2, 1) := by decide +kernel
theorem dX10_heapOf_2 : decode cX10_heapOf 2 = .ok (.iconst 0, 1) := by decide +kernel
theorem dX10_heapOf_3 : decode cX10_heapOf 3 = .ok (.istore_n 3, 1) := by decide +kernel
theorem dX10_heapOf_4 : decode cX10_heapOf 4 = .ok (.iload_n 3, 1) := by decide +kernel
theorem dX10_heapOf_5 : decode cX10_heapOf 5 = .ok (.aload_n 0, 1) := by decide +kernel
theorem dX10_heapOf_6 : decode cX10_heapOf 6 = .ok (.getfield 182, 3) := by decide +kernel
theorem dX10_heapOf_9 : decode cX10_heapOf 9 = .ok (.if_icmp .ge 46, 3) := by decide +kernel
theorem dX10_heapOf_12 : decode cX10_heapOf 12 = .ok (.iload_n 2, 1) := by decide +kernel
theorem dX10_heapOf_13 : decode cX10_heapOf 13 = .ok (.aload_n 0, 1) := by decide +kernel
theorem dX10_heapOf_14 : decode cX10_heapOf 14 = .ok (.getfield 25, 3) := by decide +kernel
theorem dX10_heapOf_17 : decode cX10_heapOf 17 = .ok (.iload_n 3, 1) := by decide +kernel
theorem dX10_heapOf_18 : decode cX10_heapOf 18 = .ok (.iaload, 1) := by decide +kernel
theorem dX10_heapOf_19 : decode cX10_heapOf 19 = .ok (.iconst (-1), 1) := by decide +kernel
theorem dX10_heapOf_20 : decode cX10_heapOf 20 = .ok (.if_icmp .ne 26, 3) := by decide +kernel
theorem dX10_heapOf_23 : decode cX10_heapOf 23 = .ok (.aload_n 0, 1) := by decide +kernel
theorem dX10_heapOf_24 : decode cX10_heapOf 24 = .ok (.getfield 34, 3) := by decide +kernel
theorem dX10_heapOf_27 : decode cX10_heapOf 27 = .ok (.iload_n 3, 1) := by decide +kernel
theorem dX10_heapOf_28 : decode cX10_heapOf 28 = .ok (.iaload, 1) := by decide +kernel
theorem dX10_heapOf_29 : decode cX10_heapOf 29 = .ok (.iconst (-1), 1) := by decide +kernel
theorem dX10_heapOf_30 : decode cX10_heapOf 30 = .ok (.if_icmp .ne 16, 3) := by decide +kernel
theorem dX10_heapOf_33 : decode cX10_heapOf 33 = .ok (.aload_n 0, 1) := by decide +kernel
theorem dX10_heapOf_34 : decode cX10_heapOf 34 = .ok (.iload_n 3, 1) := by decide +kernel
theorem dX10_heapOf_35 : decode cX10_heapOf 35 = .ok (.iload_n 1, 1) := by decide +kernel
theorem dX10_heapOf_36 : decode cX10_heapOf 36 = .ok (.invokevirtual 166, 3) := by decide +kernel
theorem dX10_heapOf_39 : decode cX10_heapOf 39 = .ok (.ifCond .eq 7, 3) := by decide +kernel
theorem dX10_heapOf_42 : decode cX10_heapOf 42 = .ok (.iconst 1, 1) := by decide +kernel
theorem dX10_heapOf_43 : decode cX10_heapOf 43 = .ok (.goto 4, 3) := by decide +kernel
theorem dX10_heapOf_46 : decode cX10_heapOf 46 = .ok (.iconst 0, 1) := by decide +kernel
theorem dX10_heapOf_47 : decode cX10_heapOf 47 = .ok (.iadd, 1) := by decide +kernel
theorem dX10_heapOf_48 : decode cX10_heapOf 48 = .ok (.istore_n 2, 1) := by decide +kernel
theorem dX10_heapOf_49 : decode cX10_heapOf 49 = .ok (.iinc 3 1, 3) := by decide +kernel
theorem dX10_heapOf_52 : decode cX10_heapOf 52 = .ok (.goto (-48), 3) := by decide +kernel
theorem dX10_heapOf_55 : decode cX10_heapOf 55 = .ok (.iload_n 2, 1) := by decide +kernel
theorem dX10_heapOf_56 : decode cX10_heapOf 56 = .ok (.ireturn, 1) := by decide +kernel
theorem dX10_heap_0 : decode cX10_heap 0 = .ok (.iload_n 1, 1) := by decide +kernel
theorem dX10_heap_1 : decode cX10_heap 1 = .ok (.iconst 1, 1) := by decide +kernel
theorem dX10_heap_2 : decode cX10_heap 2 = .ok (.bipush 100, 2) := by decide +kernel
theorem dX10_heap_4 : decode cX10_heap 4 = .ok (.invokestatic 156, 3) := by decide +kernel
theorem dX10_heap_7 : decode cX10_heap 7 = .ok (.ifCond .ne 5, 3) := by decide +kernel
theorem dX10_heap_10 : decode cX10_heap 10 = .ok (.iconst (-1), 1) := by decide +kernel
theorem dX10_heap_11 : decode cX10_heap 11 = .ok (.ireturn, 1) := by decide +kernel
theorem dX10_heap_12 : decode cX10_heap 12 = .ok (.iconst (-1), 1) := by decide +kernel
theorem dX10_heap_13 : decode cX10_heap 13 = .ok (.istore_n 2, 1) := by decide +kernel
theorem dX10_heap_14 : decode cX10_heap 14 = .ok (.iload_n 1, 1) := by decide +kernel
theorem dX10_heap_15 : decode cX10_heap 15 = .ok (.iconst 1, 1) := by decide +kernel
theorem dX10_heap_16 : decode cX10_heap 16 = .ok (.isub, 1) := by decide +kernel
theorem dX10_heap_17 : decode cX10_heap 17 = .ok (.istore_n 3, 1) := by decide +kernel
theorem dX10_heap_18 : decode cX10_heap 18 = .ok (.iconst 0, 1) := by decide +kernel
theorem dX10_heap_19 : decode cX10_heap 19 = .ok (.istore 4, 2) := by decide +kernel
theorem dX10_heap_21 : decode cX10_heap 21 = .ok (.iload 4, 2) := by decide +kernel
theorem dX10_heap_23 : decode cX10_heap 23 = .ok (.bipush 40, 2) := by decide +kernel
theorem dX10_heap_25 : decode cX10_heap 25 = .ok (.if_icmp .ge 32, 3) := by decide +kernel
theorem dX10_heap_28 : decode cX10_heap 28 = .ok (.aload_n 0, 1) := by decide +kernel
theorem dX10_heap_29 : decode cX10_heap 29 = .ok (.iload 4, 2) := by decide +kernel
theorem dX10_heap_31 : decode cX10_heap 31 = .ok (.invokevirtual 275, 3) := by decide +kernel
theorem dX10_heap_34 : decode cX10_heap 34 = .ok (.istore 5, 2) := by decide +kernel
theorem dX10_heap_36 : decode cX10_heap 36 = .ok (.iload 5, 2) := by decide +kernel
theorem dX10_heap_38 : decode cX10_heap 38 = .ok (.iload_n 3, 1) := by decide +kernel
theorem dX10_heap_39 : decode cX10_heap 39 = .ok (.if_icmp .gt 6, 3) := by decide +kernel
theorem dX10_heap_42 : decode cX10_heap 42 = .ok (.goto 9, 3) := by decide +kernel
theorem dX10_heap_45 : decode cX10_heap 45 = .ok (.iload 5, 2) := by decide +kernel
theorem dX10_heap_47 : decode cX10_heap 47 = .ok (.istore_n 3, 1) := by decide +kernel
theorem dX10_heap_48 : decode cX10_heap 48 = .ok (.iload 4, 2) := by decide +kernel
theorem dX10_heap_50 : decode cX10_heap 50 = .ok (.istore_n 2, 1) := by decide +kernel
theorem dX10_heap_51 : decode cX10_heap 51 = .ok (.iinc 4 1, 3) := by decide +kernel
theorem dX10_heap_54 : decode cX10_heap 54 = .ok (.goto (-33), 3) := by decide +kernel
theorem dX10_heap_57 : decode cX10_heap 57 = .ok (.iload_n 2, 1) := by decide +kernel
theorem dX10_heap_58 : decode cX10_heap 58 = .ok (.ireturn, 1) := by decide +kernel
theorem dX10_heaped_0 : decode cX10_heaped 0 = .ok (.iload_n 1, 1) := by decide +kernel
theorem dX10_heaped_1 : decode cX10_heaped 1 = .ok (.iconst 0, 1) := by decide +kernel
theorem dX10_heaped_2 : decode cX10_heaped 2 = .ok (.bipush 39, 2) := by decide +kernel
theorem dX10_heaped_4 : decode cX10_heaped 4 = .ok (.invokestatic 156, 3) := by decide +kernel
theorem dX10_heaped_7 : decode cX10_heaped 7 = .ok (.ifCond .eq 11, 3) := by decide +kernel
theorem dX10_heaped_10 : decode cX10_heaped 10 = .ok (.aload_n 0, 1) := by decide +kernel
theorem dX10_heaped_11 : decode cX10_heaped 11 = .ok (.iload_n 1, 1) := by decide +kernel
theorem dX10_heaped_12 : decode cX10_heaped 12 = .ok (.invokevirtual 275, 3) := by decide +kernel
theorem dX10_heaped_15 : decode cX10_heaped 15 = .ok (.goto 4, 3) := by decide +kernel
theorem dX10_heaped_18 : decode cX10_heaped 18 = .ok (.iconst (-1), 1) := by decide +kernel
theorem dX10_heaped_19 : decode cX10_heaped 19 = .ok (.ireturn, 1) := by decide +kernel
theorem dX10_isOther_0 : decode cX10_isOther 0 = .ok (.aload_n 0, 1) := by decide +kernel
theorem dX10_isOther_1 : decode cX10_isOther 1 = .ok (.iload_n 1, 1) := by decide +kernel
theorem dX10_isOther_2 : decode cX10_isOther 2 = .ok (.invokevirtual 186, 3) := by decide +kernel
theorem dX10_isOther_5 : decode cX10_isOther 5 = .ok (.istore_n 2, 1) := by decide +kernel
theorem dX10_isOther_6 : decode cX10_isOther 6 = .ok (.iload_n 2, 1) := by decide +kernel
theorem dX10_isOther_7 : decode cX10_isOther 7 = .ok (.ifCond .ge 7, 3) := by decide +kernel
theorem dX10_isOther_10 : decode cX10_isOther 10 = .ok (.iconst 0, 1) := by decide +kernel
theorem dX10_isOther_11 : decode cX10_isOther 11 = .ok (.goto 8, 3) := by decide +kernel
theorem dX10_isOther_14 : decode cX10_isOther 14 = .ok (.aload_n 0, 1) := by decide +kernel
theorem dX10_isOther_15 : decode cX10_isOther 15 = .ok (.iload_n 2, 1) := by decide +kernel
theorem dX10_isOther_16 : decode cX10_isOther 16 = .ok (.invokevirtual 195, 3) := by decide +kernel
theorem dX10_isOther_19 : decode cX10_isOther 19 = .ok (.aload_n 0, 1) := by decide +kernel
theorem dX10_isOther_20 : decode cX10_isOther 20 = .ok (.getfield 31, 3) := by decide +kernel
theorem dX10_isOther_23 : decode cX10_isOther 23 = .ok (.iload_n 1, 1) := by decide +kernel
theorem dX10_isOther_24 : decode cX10_isOther 24 = .ok (.iaload, 1) := by decide +kernel
theorem dX10_isOther_25 : decode cX10_isOther 25 = .ok (.if_icmp .eq 7, 3) := by decide +kernel
theorem dX10_isOther_28 : decode cX10_isOther 28 = .ok (.iconst 1, 1) := by decide +kernel
theorem dX10_isOther_29 : decode cX10_isOther 29 = .ok (.goto 4, 3) := by decide +kernel
theorem dX10_isOther_32 : decode cX10_isOther 32 = .ok (.iconst 0, 1) := by decide +kernel
theorem dX10_isOther_33 : decode cX10_isOther 33 = .ok (.ireturn, 1) := by decide +kernel
theorem dX10_again_0 : decode cX10_again 0 = .ok (.iconst 0, 1) := by decide +kernel
theorem dX10_again_1 : decode cX10_again 1 = .ok (.istore_n 1, 1) := by decide +kernel
theorem dX10_again_2 : decode cX10_again 2 = .ok (.iconst 0, 1) := by decide +kernel
theorem dX10_again_3 : decode cX10_again 3 = .ok (.istore_n 2, 1) := by decide +kernel
theorem dX10_again_4 : decode cX10_again 4 = .ok (.iload_n 2, 1) := by decide +kernel
theorem dX10_again_5 : decode cX10_again 5 = .ok (.aload_n 0, 1) := by decide +kernel
theorem dX10_again_6 : decode cX10_again 6 = .ok (.getfield 182, 3) := by decide +kernel
theorem dX10_again_9 : decode cX10_again 9 = .ok (.if_icmp .ge 25, 3) := by decide +kernel
theorem dX10_again_12 : decode cX10_again 12 = .ok (.iload_n 1, 1) := by decide +kernel
theorem dX10_again_13 : decode cX10_again 13 = .ok (.aload_n 0, 1) := by decide +kernel
theorem dX10_again_14 : decode cX10_again 14 = .ok (.iload_n 2, 1) := by decide +kernel
theorem dX10_again_15 : decode cX10_again 15 = .ok (.invokevirtual 278, 3) := by decide +kernel
theorem dX10_again_18 : decode cX10_again 18 = .ok (.ifCond .eq 7, 3) := by decide +kernel
theorem dX10_again_21 : decode cX10_again 21 = .ok (.iconst 1, 1) := by decide +kernel
theorem dX10_again_22 : decode cX10_again 22 = .ok (.goto 4, 3) := by decide +kernel
theorem dX10_again_25 : decode cX10_again 25 = .ok (.iconst 0, 1) := by decide +kernel
theorem dX10_again_26 : decode cX10_again 26 = .ok (.iadd, 1) := by decide +kernel
theorem dX10_again_27 : decode cX10_again 27 = .ok (.istore_n 1, 1) := by decide +kernel
theorem dX10_again_28 : decode cX10_again 28 = .ok (.iinc 2 1, 3) := by decide +kernel
theorem dX10_again_31 : decode cX10_again 31 = .ok (.goto (-27), 3) := by decide +kernel
theorem dX10_again_34 : decode cX10_again 34 = .ok (.iload_n 1, 1) := by decide +kernel
theorem dX10_again_35 : decode cX10_again 35 = .ok (.ireturn, 1) := by decide +kernel
theorem dX10_differs_0 : decode cX10_differs 0 = .ok (.iconst 0, 1) := by decide +kernel
theorem dX10_differs_1 : decode cX10_differs 1 = .ok (.istore_n 2, 1) := by decide +kernel
theorem dX10_differs_2 : decode cX10_differs 2 = .ok (.iconst 0, 1) := by decide +kernel
theorem dX10_differs_3 : decode cX10_differs 3 = .ok (.istore_n 3, 1) := by decide +kernel
theorem dX10_differs_4 : decode cX10_differs 4 = .ok (.iload_n 3, 1) := by decide +kernel
theorem dX10_differs_5 : decode cX10_differs 5 = .ok (.aload_n 0, 1) := by decide +kernel
theorem dX10_differs_6 : decode cX10_differs 6 = .ok (.getfield 182, 3) := by decide +kernel
theorem dX10_differs_9 : decode cX10_differs 9 = .ok (.if_icmp .ge 30, 3) := by decide +kernel
theorem dX10_differs_12 : decode cX10_differs 12 = .ok (.aload_n 0, 1) := by decide +kernel
theorem dX10_differs_13 : decode cX10_differs 13 = .ok (.iload_n 3, 1) := by decide +kernel
theorem dX10_differs_14 : decode cX10_differs 14 = .ok (.invokevirtual 278, 3) := by decide +kernel
theorem dX10_differs_17 : decode cX10_differs 17 = .ok (.ifCond .ne 6, 3) := by decide +kernel
theorem dX10_differs_20 : decode cX10_differs 20 = .ok (.goto 13, 3) := by decide +kernel
theorem dX10_differs_23 : decode cX10_differs 23 = .ok (.iload_n 2, 1) := by decide +kernel
theorem dX10_differs_24 : decode cX10_differs 24 = .ok (.iload_n 1, 1) := by decide +kernel
theorem dX10_differs_25 : decode cX10_differs 25 = .ok (.if_icmp .ne 5, 3) := by decide +kernel
theorem dX10_differs_28 : decode cX10_differs 28 = .ok (.iload_n 3, 1) := by decide +kernel
theorem dX10_differs_29 : decode cX10_differs 29 = .ok (.ireturn, 1) := by decide +kernel
theorem dX10_differs_30 : decode cX10_differs 30 = .ok (.iinc 2 1, 3) := by decide +kernel
theorem dX10_differs_33 : decode cX10_differs 33 = .ok (.iinc 3 1, 3) := by decide +kernel
theorem dX10_differs_36 : decode cX10_differs 36 = .ok (.goto (-32), 3) := by decide +kernel
theorem dX10_differs_39 : decode cX10_differs 39 = .ok (.iconst (-1), 1) := by decide +kernel
theorem dX10_differs_40 : decode cX10_differs 40 = .ok (.ireturn, 1) := by decide +kernel
theorem dX10_count_0 : decode cX10_count 0 = .ok (.iconst 0, 1) := by decide +kernel
theorem dX10_count_1 : decode cX10_count 1 = .ok (.istore_n 2, 1) := by decide +kernel
theorem dX10_count_2 : decode cX10_count 2 = .ok (.iload_n 1, 1) := by decide +kernel
theorem dX10_count_3 : decode cX10_count 3 = .ok (.tableswitch 67 0 5 #[37, 42, 47, 52, 57, 62], 37) := by decide +kernel
theorem dX10_count_40 : decode cX10_count 40 = .ok (.aload_n 0, 1) := by decide +kernel
theorem dX10_count_41 : decode cX10_count 41 = .ok (.getfield 182, 3) := by decide +kernel
theorem dX10_count_44 : decode cX10_count 44 = .ok (.ireturn, 1) := by decide +kernel
theorem dX10_count_45 : decode cX10_count 45 = .ok (.aload_n 0, 1) := by decide +kernel
theorem dX10_count_46 : decode cX10_count 46 = .ok (.invokevirtual 160, 3) := by decide +kernel
theorem dX10_count_49 : decode cX10_count 49 = .ok (.ireturn, 1) := by decide +kernel
theorem dX10_count_50 : decode cX10_count 50 = .ok (.aload_n 0, 1) := by decide +kernel
theorem dX10_count_51 : decode cX10_count 51 = .ok (.getfield 163, 3) := by decide +kernel
theorem dX10_count_54 : decode cX10_count 54 = .ok (.ireturn, 1) := by decide +kernel
theorem dX10_count_55 : decode cX10_count 55 = .ok (.aload_n 0, 1) := by decide +kernel
theorem dX10_count_56 : decode cX10_count 56 = .ok (.getfield 201, 3) := by decide +kernel
theorem dX10_count_59 : decode cX10_count 59 = .ok (.ireturn, 1) := by decide +kernel
theorem dX10_count_60 : decode cX10_count 60 = .ok (.aload_n 0, 1) := by decide +kernel
theorem dX10_count_61 : decode cX10_count 61 = .ok (.getfield 106, 3) := by decide +kernel
theorem dX10_count_64 : decode cX10_count 64 = .ok (.ireturn, 1) := by decide +kernel
theorem dX10_count_65 : decode cX10_count 65 = .ok (.aload_n 0, 1) := by decide +kernel
theorem dX10_count_66 : decode cX10_count 66 = .ok (.getfield 228, 3) := by decide +kernel
theorem dX10_count_69 : decode cX10_count 69 = .ok (.ireturn, 1) := by decide +kernel
theorem dX10_count_70 : decode cX10_count 70 = .ok (.iload_n 1, 1) := by decide +kernel
theorem dX10_count_71 : decode cX10_count 71 = .ok (.bipush 20, 2) := by decide +kernel
theorem dX10_count_73 : decode cX10_count 73 = .ok (.bipush 27, 2) := by decide +kernel
theorem dX10_count_75 : decode cX10_count 75 = .ok (.invokestatic 156, 3) := by decide +kernel
theorem dX10_count_78 : decode cX10_count 78 = .ok (.ifCond .ne 5, 3) := by decide +kernel
theorem dX10_count_81 : decode cX10_count 81 = .ok (.iconst (-1), 1) := by decide +kernel
theorem dX10_count_82 : decode cX10_count 82 = .ok (.ireturn, 1) := by decide +kernel
theorem dX10_count_83 : decode cX10_count 83 = .ok (.iconst 0, 1) := by decide +kernel
theorem dX10_count_84 : decode cX10_count 84 = .ok (.istore_n 3, 1) := by decide +kernel
theorem dX10_count_85 : decode cX10_count 85 = .ok (.iload_n 3, 1) := by decide +kernel
theorem dX10_count_86 : decode cX10_count 86 = .ok (.aload_n 0, 1) := by decide +kernel
theorem dX10_count_87 : decode cX10_count 87 = .ok (.getfield 182, 3) := by decide +kernel
theorem dX10_count_90 : decode cX10_count 90 = .ok (.if_icmp .ge 30, 3) := by decide +kernel
theorem dX10_count_93 : decode cX10_count 93 = .ok (.iload_n 2, 1) := by decide +kernel
theorem dX10_count_94 : decode cX10_count 94 = .ok (.aload_n 0, 1) := by decide +kernel
theorem dX10_count_95 : decode cX10_count 95 = .ok (.getfield 22, 3) := by decide +kernel
theorem dX10_count_98 : decode cX10_count 98 = .ok (.iload_n 3, 1) := by decide +kernel
theorem dX10_count_99 : decode cX10_count 99 = .ok (.iaload, 1) := by decide +kernel
theorem dX10_count_100 : decode cX10_count 100 = .ok (.iload_n 1, 1) := by decide +kernel
theorem dX10_count_101 : decode cX10_count 101 = .ok (.bipush 20, 2) := by decide +kernel
theorem dX10_count_103 : decode cX10_count 103 = .ok (.isub, 1) := by decide +kernel
theorem dX10_count_104 : decode cX10_count 104 = .ok (.if_icmp .ne 7, 3) := by decide +kernel
theorem dX10_count_107 : decode cX10_count 107 = .ok (.iconst 1, 1) := by decide +kernel
theorem dX10_count_108 : decode cX10_count 108 = .ok (.goto 4, 3) := by decide +kernel
theorem dX10_count_111 : decode cX10_count 111 = .ok (.iconst 0, 1) := by decide +kernel
theorem dX10_count_112 : decode cX10_count 112 = .ok (.iadd, 1) := by decide +kernel
theorem dX10_count_113 : decode cX10_count 113 = .ok (.istore_n 2, 1) := by decide +kernel
theorem dX10_count_114 : decode cX10_count 114 = .ok (.iinc 3 1, 3) := by decide +kernel
theorem dX10_count_117 : decode cX10_count 117 = .ok (.goto (-32), 3) := by decide +kernel
theorem dX10_count_120 : decode cX10_count 120 = .ok (.iload_n 2, 1) := by decide +kernel
theorem dX10_count_121 : decode cX10_count 121 = .ok (.ireturn, 1) := by decide +kernel
