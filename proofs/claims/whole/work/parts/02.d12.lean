theorem dX11_init_0 : decode cX11_init 0 = .ok (.aload_n 0, 1) := by decide +kernel
theorem dX11_init_1 : decode cX11_init 1 = .ok (.invokespecial 3, 3) := by decide +kernel
theorem dX11_init_4 : decode cX11_init 4 = .ok (.aload_n 0, 1) := by decide +kernel
theorem dX11_init_5 : decode cX11_init 5 = .ok (.bipush 8, 2) := by decide +kernel
theorem dX11_init_7 : decode cX11_init 7 = .ok (.newarray .int, 2) := by decide +kernel
theorem dX11_init_9 : decode cX11_init 9 = .ok (.putfield 9, 3) := by decide +kernel
theorem dX11_init_12 : decode cX11_init 12 = .ok (.aload_n 0, 1) := by decide +kernel
theorem dX11_init_13 : decode cX11_init 13 = .ok (.bipush 8, 2) := by decide +kernel
theorem dX11_init_15 : decode cX11_init 15 = .ok (.newarray .int, 2) := by decide +kernel
theorem dX11_init_17 : decode cX11_init 17 = .ok (.putfield 15, 3) := by decide +kernel
theorem dX11_init_20 : decode cX11_init 20 = .ok (.aload_n 0, 1) := by decide +kernel
theorem dX11_init_21 : decode cX11_init 21 = .ok (.bipush 8, 2) := by decide +kernel
theorem dX11_init_23 : decode cX11_init 23 = .ok (.newarray .int, 2) := by decide +kernel
theorem dX11_init_25 : decode cX11_init 25 = .ok (.putfield 18, 3) := by decide +kernel
theorem dX11_init_28 : decode cX11_init 28 = .ok (.aload_n 0, 1) := by decide +kernel
theorem dX11_init_29 : decode cX11_init 29 = .ok (.bipush 8, 2) := by decide +kernel
theorem dX11_init_31 : decode cX11_init 31 = .ok (.newarray .int, 2) := by decide +kernel
theorem dX11_init_33 : decode cX11_init 33 = .ok (.putfield 21, 3) := by decide +kernel
theorem dX11_init_36 : decode cX11_init 36 = .ok (.aload_n 0, 1) := by decide +kernel
theorem dX11_init_37 : decode cX11_init 37 = .ok (.bipush 8, 2) := by decide +kernel
theorem dX11_init_39 : decode cX11_init 39 = .ok (.newarray .int, 2) := by decide +kernel
theorem dX11_init_41 : decode cX11_init 41 = .ok (.putfield 24, 3) := by decide +kernel
theorem dX11_init_44 : decode cX11_init 44 = .ok (.aload_n 0, 1) := by decide +kernel
theorem dX11_init_45 : decode cX11_init 45 = .ok (.bipush 6, 2) := by decide +kernel
theorem dX11_init_47 : decode cX11_init 47 = .ok (.newarray .int, 2) := by decide +kernel
theorem dX11_init_49 : decode cX11_init 49 = .ok (.dup, 1) := by decide +kernel
theorem dX11_init_50 : decode cX11_init 50 = .ok (.iconst 0, 1) := by decide +kernel
theorem dX11_init_51 : decode cX11_init 51 = .ok (.iconst 2, 1) := by decide +kernel
theorem dX11_init_52 : decode cX11_init 52 = .ok (.iastore, 1) := by decide +kernel
theorem dX11_init_53 : decode cX11_init 53 = .ok (.dup, 1) := by decide +kernel
theorem dX11_init_54 : decode cX11_init 54 = .ok (.iconst 1, 1) := by decide +kernel
theorem dX11_init_55 : decode cX11_init 55 = .ok (.iconst 2, 1) := by decide +kernel
theorem dX11_init_56 : decode cX11_init 56 = .ok (.iastore, 1) := by decide +kernel
theorem dX11_init_57 : decode cX11_init 57 = .ok (.dup, 1) := by decide +kernel
theorem dX11_init_58 : decode cX11_init 58 = .ok (.iconst 2, 1) := by decide +kernel
theorem dX11_init_59 : decode cX11_init 59 = .ok (.iconst 2, 1) := by decide +kernel
theorem dX11_init_60 : decode cX11_init 60 = .ok (.iastore, 1) := by decide +kernel
theorem dX11_init_61 : decode cX11_init 61 = .ok (.dup, 1) := by decide +kernel
theorem dX11_init_62 : decode cX11_init 62 = .ok (.iconst 3, 1) := by decide +kernel
theorem dX11_init_63 : decode cX11_init 63 = .ok (.iconst 2, 1) := by decide +kernel
theorem dX11_init_64 : decode cX11_init 64 = .ok (.iastore, 1) := by decide +kernel
theorem dX11_init_65 : decode cX11_init 65 = .ok (.dup, 1) := by decide +kernel
theorem dX11_init_66 : decode cX11_init 66 = .ok (.iconst 4, 1) := by decide +kernel
theorem dX11_init_67 : decode cX11_init 67 = .ok (.iconst 2, 1) := by decide +kernel
theorem dX11_init_68 : decode cX11_init 68 = .ok (.iastore, 1) := by decide +kernel
theorem dX11_init_69 : decode cX11_init 69 = .ok (.dup, 1) := by decide +kernel
theorem dX11_init_70 : decode cX11_init 70 = .ok (.iconst 5, 1) := by decide +kernel
theorem dX11_init_71 : decode cX11_init 71 = .ok (.iconst 2, 1) := by decide +kernel
theorem dX11_init_72 : decode cX11_init 72 = .ok (.iastore, 1) := by decide +kernel
theorem dX11_init_73 : decode cX11_init 73 = .ok (.putfield 27, 3) := by decide +kernel
theorem dX11_init_76 : decode cX11_init 76 = .ok (.aload_n 0, 1) := by decide +kernel
theorem dX11_init_77 : decode cX11_init 77 = .ok (.bipush 6, 2) := by decide +kernel
theorem dX11_init_79 : decode cX11_init 79 = .ok (.newarray .int, 2) := by decide +kernel
theorem dX11_init_81 : decode cX11_init 81 = .ok (.dup, 1) := by decide +kernel
theorem dX11_init_82 : decode cX11_init 82 = .ok (.iconst 0, 1) := by decide +kernel
theorem dX11_init_83 : decode cX11_init 83 = .ok (.iconst 3, 1) := by decide +kernel
theorem dX11_init_84 : decode cX11_init 84 = .ok (.iastore, 1) := by decide +kernel
theorem dX11_init_85 : decode cX11_init 85 = .ok (.dup, 1) := by decide +kernel
theorem dX11_init_86 : decode cX11_init 86 = .ok (.iconst 1, 1) := by decide +kernel
theorem dX11_init_87 : decode cX11_init 87 = .ok (.iconst 3, 1) := by decide +kernel
theorem dX11_init_88 : decode cX11_init 88 = .ok (.iastore, 1) := by decide +kernel
theorem dX11_init_89 : decode cX11_init 89 = .ok (.dup, 1) := by decide +kernel
theorem dX11_init_90 : decode cX11_init 90 = .ok (.iconst 2, 1) := by decide +kernel
theorem dX11_init_91 : decode cX11_init 91 = .ok (.iconst 3, 1) := by decide +kernel
theorem dX11_init_92 : decode cX11_init 92 = .ok (.iastore, 1) := by decide +kernel
theorem dX11_init_93 : decode cX11_init 93 = .ok (.dup, 1) := by decide +kernel
theorem dX11_init_94 : decode cX11_init 94 = .ok (.iconst 3, 1) := by decide +kernel
theorem dX11_init_95 : decode cX11_init 95 = .ok (.iconst 3, 1) := by decide +kernel
theorem dX11_init_96 : decode cX11_init 96 = .ok (.iastore, 1) := by decide +kernel
theorem dX11_init_97 : decode cX11_init 97 = .ok (.dup, 1) := by decide +kernel
theorem dX11_init_98 : decode cX11_init 98 = .ok (.iconst 4, 1) := by decide +kernel
theorem dX11_init_99 : decode cX11_init 99 = .ok (.iconst 3, 1) := by decide +kernel
theorem dX11_init_100 : decode cX11_init 100 = .ok (.iastore, 1) := by decide +kernel
theorem dX11_init_101 : decode cX11_init 101 = .ok (.dup, 1) := by decide +kernel
theorem dX11_init_102 : decode cX11_init 102 = .ok (.iconst 5, 1) := by decide +kernel
theorem dX11_init_103 : decode cX11_init 103 = .ok (.iconst 3, 1) := by decide +kernel
theorem dX11_init_104 : decode cX11_init 104 = .ok (.iastore, 1) := by decide +kernel
theorem dX11_init_105 : decode cX11_init 105 = .ok (.putfield 30, 3) := by decide +kernel
theorem dX11_init_108 : decode cX11_init 108 = .ok (.aload_n 0, 1) := by decide +kernel
theorem dX11_init_109 : decode cX11_init 109 = .ok (.iconst 1, 1) := by decide +kernel
theorem dX11_init_110 : decode cX11_init 110 = .ok (.putfield 33, 3) := by decide +kernel
theorem dX11_init_113 : decode cX11_init 113 = .ok (.aload_n 0, 1) := by decide +kernel
theorem dX11_init_114 : decode cX11_init 114 = .ok (.bipush 40, 2) := by decide +kernel
theorem dX11_init_116 : decode cX11_init 116 = .ok (.newarray .int, 2) := by decide +kernel
theorem dX11_init_118 : decode cX11_init 118 = .ok (.putfield 37, 3) := by decide +kernel
theorem dX11_init_121 : decode cX11_init 121 = .ok (.aload_n 0, 1) := by decide +kernel
theorem dX11_init_122 : decode cX11_init 122 = .ok (.bipush 40, 2) := by decide +kernel
theorem dX11_init_124 : decode cX11_init 124 = .ok (.newarray .int, 2) := by decide +kernel
theorem dX11_init_126 : decode cX11_init 126 = .ok (.putfield 40, 3) := by decide +kernel
theorem dX11_init_129 : decode cX11_init 129 = .ok (.aload_n 0, 1) := by decide +kernel
theorem dX11_init_130 : decode cX11_init 130 = .ok (.bipush 40, 2) := by decide +kernel
theorem dX11_init_132 : decode cX11_init 132 = .ok (.newarray .int, 2) := by decide +kernel
theorem dX11_init_134 : decode cX11_init 134 = .ok (.putfield 43, 3) := by decide +kernel
theorem dX11_init_137 : decode cX11_init 137 = .ok (.aload_n 0, 1) := by decide +kernel
theorem dX11_init_138 : decode cX11_init 138 = .ok (.bipush 40, 2) := by decide +kernel
theorem dX11_init_140 : decode cX11_init 140 = .ok (.newarray .int, 2) := by decide +kernel
theorem dX11_init_142 : decode cX11_init 142 = .ok (.putfield 46, 3) := by decide +kernel
theorem dX11_init_145 : decode cX11_init 145 = .ok (.aload_n 0, 1) := by decide +kernel
theorem dX11_init_146 : decode cX11_init 146 = .ok (.bipush 120, 2) := by decide +kernel
theorem dX11_init_148 : decode cX11_init 148 = .ok (.newarray .byte, 2) := by decide +kernel
theorem dX11_init_150 : decode cX11_init 150 = .ok (.putfield 49, 3) := by decide +kernel
theorem dX11_init_153 : decode cX11_init 153 = .ok (.aload_n 0, 1) := by decide +kernel
theorem dX11_init_154 : decode cX11_init 154 = .ok (.sipush 260, 3) := by decide +kernel
theorem dX11_init_157 : decode cX11_init 157 = .ok (.newarray .byte, 2) := by decide +kernel
theorem dX11_init_159 : decode cX11_init 159 = .ok (.putfield 53, 3) := by decide +kernel
theorem dX11_init_162 : decode cX11_init 162 = .ok (.aload_n 0, 1) := by decide +kernel
theorem dX11_init_163 : decode cX11_init 163 = .ok (.sipush 260, 3) := by decide +kernel
theorem dX11_init_166 : decode cX11_init 166 = .ok (.newarray .int, 2) := by decide +kernel
theorem dX11_init_168 : decode cX11_init 168 = .ok (.putfield 56, 3) := by decide +kernel
theorem dX11_init_171 : decode cX11_init 171 = .ok (.aload_n 0, 1) := by decide +kernel
theorem dX11_init_172 : decode cX11_init 172 = .ok (.iconst 2, 1) := by decide +kernel
theorem dX11_init_173 : decode cX11_init 173 = .ok (.newarray .int, 2) := by decide +kernel
theorem dX11_init_175 : decode cX11_init 175 = .ok (.putfield 59, 3) := by decide +kernel
theorem dX11_init_178 : decode cX11_init 178 = .ok (.aload_n 0, 1) := by decide +kernel
theorem dX11_init_179 : decode cX11_init 179 = .ok (.bipush 122, 2) := by decide +kernel
theorem dX11_init_181 : decode cX11_init 181 = .ok (.newarray .short, 2) := by decide +kernel
theorem dX11_init_183 : decode cX11_init 183 = .ok (.putfield 62, 3) := by decide +kernel
theorem dX11_init_186 : decode cX11_init 186 = .ok (.aload_n 0, 1) := by decide +kernel
theorem dX11_init_187 : decode cX11_init 187 = .ok (.bipush 122, 2) := by decide +kernel
theorem dX11_init_189 : decode cX11_init 189 = .ok (.newarray .short, 2) := by decide +kernel
theorem dX11_init_191 : decode cX11_init 191 = .ok (.putfield 66, 3) := by decide +kernel
theorem dX11_init_194 : decode cX11_init 194 = .ok (.aload_n 0, 1) := by decide +kernel
theorem dX11_init_195 : decode cX11_init 195 = .ok (.iconst 5, 1) := by decide +kernel
theorem dX11_init_196 : decode cX11_init 196 = .ok (.newarray .int, 2) := by decide +kernel
theorem dX11_init_198 : decode cX11_init 198 = .ok (.putfield 69, 3) := by decide +kernel
theorem dX11_init_201 : decode cX11_init 201 = .ok (.aload_n 0, 1) := by decide +kernel
theorem dX11_init_202 : decode cX11_init 202 = .ok (.sipush 130, 3) := by decide +kernel
theorem dX11_init_205 : decode cX11_init 205 = .ok (.newarray .int, 2) := by decide +kernel
theorem dX11_init_207 : decode cX11_init 207 = .ok (.putfield 72, 3) := by decide +kernel
theorem dX11_init_210 : decode cX11_init 210 = .ok (.aload_n 0, 1) := by decide +kernel
theorem dX11_init_211 : decode cX11_init 211 = .ok (.bipush 8, 2) := by decide +kernel
theorem dX11_init_213 : decode cX11_init 213 = .ok (.newarray .int, 2) := by decide +kernel
theorem dX11_init_215 : decode cX11_init 215 = .ok (.putfield 75, 3) := by decide +kernel
theorem dX11_init_218 : decode cX11_init 218 = .ok (.aload_n 0, 1) := by decide +kernel
theorem dX11_init_219 : decode cX11_init 219 = .ok (.bipush 8, 2) := by decide +kernel
theorem dX11_init_221 : decode cX11_init 221 = .ok (.newarray .int, 2) := by decide +kernel
theorem dX11_init_223 : decode cX11_init 223 = .ok (.putfield 78, 3) := by decide +kernel
theorem dX11_init_226 : decode cX11_init 226 = .ok (.aload_n 0, 1) := by decide +kernel
theorem dX11_init_227 : decode cX11_init 227 = .ok (.bipush 8, 2) := by decide +kernel
theorem dX11_init_229 : decode cX11_init 229 = .ok (.newarray .int, 2) := by decide +kernel
theorem dX11_init_231 : decode cX11_init 231 = .ok (.putfield 81, 3) := by decide +kernel
theorem dX11_init_234 : decode cX11_init 234 = .ok (.aload_n 0, 1) := by decide +kernel
theorem dX11_init_235 : decode cX11_init 235 = .ok (.sipush 256, 3) := by decide +kernel
theorem dX11_init_238 : decode cX11_init 238 = .ok (.newarray .int, 2) := by decide +kernel
theorem dX11_init_240 : decode cX11_init 240 = .ok (.putfield 84, 3) := by decide +kernel
theorem dX11_init_243 : decode cX11_init 243 = .ok (.aload_n 0, 1) := by decide +kernel
theorem dX11_init_244 : decode cX11_init 244 = .ok (.bipush 9, 2) := by decide +kernel
theorem dX11_init_246 : decode cX11_init 246 = .ok (.newarray .int, 2) := by decide +kernel
theorem dX11_init_248 : decode cX11_init 248 = .ok (.dup, 1) := by decide +kernel
theorem dX11_init_249 : decode cX11_init 249 = .ok (.iconst 0, 1) := by decide +kernel
theorem dX11_init_250 : decode cX11_init 250 = .ok (.iconst 0, 1) := by decide +kernel
theorem dX11_init_251 : decode cX11_init 251 = .ok (.iastore, 1) := by decide +kernel
theorem dX11_init_252 : decode cX11_init 252 = .ok (.dup, 1) := by decide +kernel
theorem dX11_init_253 : decode cX11_init 253 = .ok (.iconst 1, 1) := by decide +kernel
theorem dX11_init_254 : decode cX11_init 254 = .ok (.iconst 0, 1) := by decide +kernel
theorem dX11_init_255 : decode cX11_init 255 = .ok (.iastore, 1) := by decide +kernel
theorem dX11_init_256 : decode cX11_init 256 = .ok (.dup, 1) := by decide +kernel
theorem dX11_init_257 : decode cX11_init 257 = .ok (.iconst 2, 1) := by decide +kernel
theorem dX11_init_258 : decode cX11_init 258 = .ok (.iconst 0, 1) := by decide +kernel
theorem dX11_init_259 : decode cX11_init 259 = .ok (.iastore, 1) := by decide +kernel
theorem dX11_init_260 : decode cX11_init 260 = .ok (.dup, 1) := by decide +kernel
theorem dX11_init_261 : decode cX11_init 261 = .ok (.iconst 3, 1) := by decide +kernel
theorem dX11_init_262 : decode cX11_init 262 = .ok (.iconst 0, 1) := by decide +kernel
theorem dX11_init_263 : decode cX11_init 263 = .ok (.iastore, 1) := by decide +kernel
theorem dX11_init_264 : decode cX11_init 264 = .ok (.dup, 1) := by decide +kernel
theorem dX11_init_265 : decode cX11_init 265 = .ok (.iconst 4, 1) := by decide +kernel
theorem dX11_init_266 : decode cX11_init 266 = .ok (.iconst 0, 1) := by decide +kernel
theorem dX11_init_267 : decode cX11_init 267 = .ok (.iastore, 1) := by decide +kernel
theorem dX11_init_268 : decode cX11_init 268 = .ok (.dup, 1) := by decide +kernel
theorem dX11_init_269 : decode cX11_init 269 = .ok (.iconst 5, 1) := by decide +kernel
theorem dX11_init_270 : decode cX11_init 270 = .ok (.iconst 0, 1) := by decide +kernel
theorem dX11_init_271 : decode cX11_init 271 = .ok (.iastore, 1) := by decide +kernel
theorem dX11_init_272 : decode cX11_init 272 = .ok (.dup, 1) := by decide +kernel
theorem dX11_init_273 : decode cX11_init 273 = .ok (.bipush 6, 2) := by decide +kernel
theorem dX11_init_275 : decode cX11_init 275 = .ok (.bipush (-2), 2) := by decide +kernel
theorem dX11_init_277 : decode cX11_init 277 = .ok (.iastore, 1) := by decide +kernel
theorem dX11_init_278 : decode cX11_init 278 = .ok (.dup, 1) := by decide +kernel
theorem dX11_init_279 : decode cX11_init 279 = .ok (.bipush 7, 2) := by decide +kernel
theorem dX11_init_281 : decode cX11_init 281 = .ok (.iconst 0, 1) := by decide +kernel
theorem dX11_init_282 : decode cX11_init 282 = .ok (.iastore, 1) := by decide +kernel
theorem dX11_init_283 : decode cX11_init 283 = .ok (.dup, 1) := by decide +kernel
theorem dX11_init_284 : decode cX11_init 284 = .ok (.bipush 8, 2) := by decide +kernel
theorem dX11_init_286 : decode cX11_init 286 = .ok (.iconst 0, 1) := by decide +kernel
theorem dX11_init_287 : decode cX11_init 287 = .ok (.iastore, 1) := by decide +kernel
theorem dX11_init_288 : decode cX11_init 288 = .ok (.putfield 87, 3) := by decide +kernel
theorem dX11_init_291 : decode cX11_init 291 = .ok (.aload_n 0, 1) := by decide +kernel
theorem dX11_init_292 : decode cX11_init 292 = .ok (.bipush 9, 2) := by decide +kernel
theorem dX11_init_294 : decode cX11_init 294 = .ok (.newarray .int, 2) := by decide +kernel
theorem dX11_init_296 : decode cX11_init 296 = .ok (.putfield 90, 3) := by decide +kernel
theorem dX11_init_299 : decode cX11_init 299 = .ok (.aload_n 0, 1) := by decide +kernel
theorem dX11_init_300 : decode cX11_init 300 = .ok (.bipush 50, 2) := by decide +kernel
theorem dX11_init_302 : decode cX11_init 302 = .ok (.newarray .int, 2) := by decide +kernel
theorem dX11_init_304 : decode cX11_init 304 = .ok (.putfield 93, 3) := by decide +kernel
theorem dX11_init_307 : decode cX11_init 307 = .ok (.aload_n 0, 1) := by decide +kernel
theorem dX11_init_308 : decode cX11_init 308 = .ok (.bipush 24, 2) := by decide +kernel
theorem dX11_init_310 : decode cX11_init 310 = .ok (.newarray .int, 2) := by decide +kernel
theorem dX11_init_312 : decode cX11_init 312 = .ok (.putfield 96, 3) := by decide +kernel
theorem dX11_init_315 : decode cX11_init 315 = .ok (.aload_n 0, 1) := by decide +kernel
theorem dX11_init_316 : decode cX11_init 316 = .ok (.bipush 6, 2) := by decide +kernel
theorem dX11_init_318 : decode cX11_init 318 = .ok (.newarray .int, 2) := by decide +kernel
theorem dX11_init_320 : decode cX11_init 320 = .ok (.dup, 1) := by decide +kernel
theorem dX11_init_321 : decode cX11_init 321 = .ok (.iconst 0, 1) := by decide +kernel
theorem dX11_init_322 : decode cX11_init 322 = .ok (.iconst (-1), 1) := by decide +kernel
theorem dX11_init_323 : decode cX11_init 323 = .ok (.iastore, 1) := by decide +kernel
theorem dX11_init_324 : decode cX11_init 324 = .ok (.dup, 1) := by decide +kernel
theorem dX11_init_325 : decode cX11_init 325 = .ok (.iconst 1, 1) := by decide +kernel
theorem dX11_init_326 : decode cX11_init 326 = .ok (.iconst (-1), 1) := by decide +kernel
theorem dX11_init_327 : decode cX11_init 327 = .ok (.iastore, 1) := by decide +kernel
theorem dX11_init_328 : decode cX11_init 328 = .ok (.dup, 1) := by decide +kernel
theorem dX11_init_329 : decode cX11_init 329 = .ok (.iconst 2, 1) := by decide +kernel
theorem dX11_init_330 : decode cX11_init 330 = .ok (.iconst (-1), 1) := by decide +kernel
theorem dX11_init_331 : decode cX11_init 331 = .ok (.iastore, 1) := by decide +kernel
theorem dX11_init_332 : decode cX11_init 332 = .ok (.dup, 1) := by decide +kernel
theorem dX11_init_333 : decode cX11_init 333 = .ok (.iconst 3, 1) := by decide +kernel
theorem dX11_init_334 : decode cX11_init 334 = .ok (.iconst (-1), 1) := by decide +kernel
theorem dX11_init_335 : decode cX11_init 335 = .ok (.iastore, 1) := by decide +kernel
theorem dX11_init_336 : decode cX11_init 336 = .ok (.dup, 1) := by decide +kernel
theorem dX11_init_337 : decode cX11_init 337 = .ok (.iconst 4, 1) := by decide +kernel
theorem dX11_init_338 : decode cX11_init 338 = .ok (.iconst (-1), 1) := by decide +kernel
theorem dX11_init_339 : decode cX11_init 339 = .ok (.iastore, 1) := by decide +kernel
theorem dX11_init_340 : decode cX11_init 340 = .ok (.dup, 1) := by decide +kernel
theorem dX11_init_341 : decode cX11_init 341 = .ok (.iconst 5, 1) := by decide +kernel
theorem dX11_init_342 : decode cX11_init 342 = .ok (.iconst (-1), 1) := by decide +kernel
theorem dX11_init_343 : decode cX11_init 343 = .ok (.iastore, 1) := by decide +kernel
theorem dX11_init_344 : decode cX11_init 344 = .ok (.putfield 99, 3) := by decide +kernel
theorem dX11_init_347 : decode cX11_init 347 = .ok (.aload_n 0, 1) := by decide +kernel
theorem dX11_init_348 : decode cX11_init 348 = .ok (.bipush 6, 2) := by decide +kernel
theorem dX11_init_350 : decode cX11_init 350 = .ok (.newarray .int, 2) := by decide +kernel
theorem dX11_init_352 : decode cX11_init 352 = .ok (.putfield 102, 3) := by decide +kernel
theorem dX11_init_355 : decode cX11_init 355 = .ok (.aload_n 0, 1) := by decide +kernel
theorem dX11_init_356 : decode cX11_init 356 = .ok (.sipush 360, 3) := by decide +kernel
theorem dX11_init_359 : decode cX11_init 359 = .ok (.newarray .long, 2) := by decide +kernel
theorem dX11_init_361 : decode cX11_init 361 = .ok (.putfield 105, 3) := by decide +kernel
theorem dX11_init_364 : decode cX11_init 364 = .ok (.aload_n 0, 1) := by decide +kernel
theorem dX11_init_365 : decode cX11_init 365 = .ok (.bipush 60, 2) := by decide +kernel
theorem dX11_init_367 : decode cX11_init 367 = .ok (.newarray .long, 2) := by decide +kernel
theorem dX11_init_369 : decode cX11_init 369 = .ok (.putfield 109, 3) := by decide +kernel
theorem dX11_init_372 : decode cX11_init 372 = .ok (.return_, 1) := by decide +kernel
theorem dX11_in_0 : decode cX11_in 0 = .ok (.iload_n 0, 1) := by decide +kernel
theorem dX11_in_1 : decode cX11_in 1 = .ok (.iload_n 1, 1) := by decide +kernel
theorem dX11_in_2 : decode cX11_in 2 = .ok (.if_icmp .lt 12, 3) := by decide +kernel
theorem dX11_in_5 : decode cX11_in 5 = .ok (.iload_n 0, 1) := by decide +kernel
theorem dX11_in_6 : decode cX11_in 6 = .ok (.iload_n 2, 1) := by decide +kernel
theorem dX11_in_7 : decode cX11_in 7 = .ok (.if_icmp .gt 7, 3) := by decide +kernel
theorem dX11_in_10 : decode cX11_in 10 = .ok (.iconst 1, 1) := by decide +kernel
theorem dX11_in_11 : decode cX11_in 11 = .ok (.goto 4, 3) := by decide +kernel
theorem dX11_in_14 : decode cX11_in 14 = .ok (.iconst 0, 1) := by decide +kernel
theorem dX11_in_15 : decode cX11_in 15 = .ok (.ireturn, 1) := by decide +kernel
theorem dX11_bitsOf_0 : decode cX11_bitsOf 0 = .ok (.iconst 0, 1) := by decide +kernel
theorem dX11_bitsOf_1 : decode cX11_bitsOf 1 = .ok (.istore_n 1, 1) := by decide +kernel
theorem dX11_bitsOf_2 : decode cX11_bitsOf 2 = .ok (.iload_n 0, 1) := by decide +kernel
theorem dX11_bitsOf_3 : decode cX11_bitsOf 3 = .ok (.istore_n 2, 1) := by decide +kernel
theorem dX11_bitsOf_4 : decode cX11_bitsOf 4 = .ok (.iload_n 2, 1) := by decide +kernel
theorem dX11_bitsOf_5 : decode cX11_bitsOf 5 = .ok (.ifCond .eq 15, 3) := by decide +kernel
theorem dX11_bitsOf_8 : decode cX11_bitsOf 8 = .ok (.iinc 1 1, 3) := by decide +kernel
theorem dX11_bitsOf_11 : decode cX11_bitsOf 11 = .ok (.iload_n 2, 1) := by decide +kernel
theorem dX11_bitsOf_12 : decode cX11_bitsOf 12 = .ok (.iload_n 2, 1) := by decide +kernel
theorem dX11_bitsOf_13 : decode cX11_bitsOf 13 = .ok (.iconst 1, 1) := by decide +kernel
theorem dX11_bitsOf_14 : decode cX11_bitsOf 14 = .ok (.isub, 1) := by decide +kernel
theorem dX11_bitsOf_15 : decode cX11_bitsOf 15 = .ok (.iand, 1) := by decide +kernel
theorem dX11_bitsOf_16 : decode cX11_bitsOf 16 = .ok (.istore_n 2, 1) := by decide +kernel
theorem dX11_bitsOf_17 : decode cX11_bitsOf 17 = .ok (.goto (-13), 3) := by decide +kernel
theorem dX11_bitsOf_20 : decode cX11_bitsOf 20 = .ok (.iload_n 1, 1) := by decide +kernel
theorem dX11_bitsOf_21 : decode cX11_bitsOf 21 = .ok (.ireturn, 1) := by decide +kernel
theorem dX11_isThing_0 : decode cX11_isThing 0 = .ok (.iload_n 1, 1) := by decide +kernel
theorem dX11_isThing_1 : decode cX11_isThing 1 = .ok (.iconst 0, 1) := by decide +kernel
theorem dX11_isThing_2 : decode cX11_isThing 2 = .ok (.aload_n 0, 1) := by decide +kernel
theorem dX11_isThing_3 : decode cX11_isThing 3 = .ok (.getfield 115, 3) := by decide +kernel
theorem dX11_isThing_6 : decode cX11_isThing 6 = .ok (.iconst 1, 1) := by decide +kernel
theorem dX11_isThing_7 : decode cX11_isThing 7 = .ok (.isub, 1) := by decide +kernel
theorem dX11_isThing_8 : decode cX11_isThing 8 = .ok (.invokestatic 118, 3) := by decide +kernel
theorem dX11_isThing_11 : decode cX11_isThing 11 = .ok (.ireturn, 1) := by decide +kernel
theorem dX11_addThing_0 : decode cX11_addThing 0 = .ok (.aload_n 0, 1) := by decide +kernel
theorem dX11_addThing_1 : decode cX11_addThing 1 = .ok (.getfield 9, 3) := by decide +kernel
theorem dX11_addThing_4 : decode cX11_addThing 4 = .ok (.aload_n 0, 1) := by decide +kernel
theorem dX11_addThing_5 : decode cX11_addThing 5 = .ok (.getfield 115, 3) := by decide +kernel
theorem dX11_addThing_8 : decode cX11_addThing 8 = .ok (.iload_n 1, 1) := by decide +kernel
theorem dX11_addThing_9 : decode cX11_addThing 9 = .ok (.iastore, 1) := by decide +kernel
theorem dX11_addThing_10 : decode cX11_addThing 10 = .ok (.aload_n 0, 1) := by decide +kernel
theorem dX11_addThing_11 : decode cX11_addThing 11 = .ok (.getfield 15, 3) := by decide +kernel
theorem dX11_addThing_14 : decode cX11_addThing 14 = .ok (.aload_n 0, 1) := by decide +kernel
theorem dX11_addThing_15 : decode cX11_addThing 15 = .ok (.getfield 115, 3) := by decide +kernel
theorem dX11_addThing_18 : decode cX11_addThing 18 = .ok (.iload_n 2, 1) := by decide +kernel
theorem dX11_addThing_19 : decode cX11_addThing 19 = .ok (.iastore, 1) := by decide +kernel
theorem dX11_addThing_20 : decode cX11_addThing 20 = .ok (.aload_n 0, 1) := by decide +kernel
theorem dX11_addThing_21 : decode cX11_addThing 21 = .ok (.getfield 18, 3) := by decide +kernel
theorem dX11_addThing_24 : decode cX11_addThing 24 = .ok (.aload_n 0, 1) := by decide +kernel
theorem dX11_addThing_25 : decode cX11_addThing 25 = .ok (.getfield 115, 3) := by decide +kernel
theorem dX11_addThing_28 : decode cX11_addThing 28 = .ok (.iload_n 3, 1) := by decide +kernel
theorem dX11_addThing_29 : decode cX11_addThing 29 = .ok (.iastore, 1) := by decide +kernel
theorem dX11_addThing_30 : decode cX11_addThing 30 = .ok (.aload_n 0, 1) := by decide +kernel
theorem dX11_addThing_31 : decode cX11_addThing 31 = .ok (.getfield 21, 3) := by decide +kernel
theorem dX11_addThing_34 : decode cX11_addThing 34 = .ok (.aload_n 0, 1) := by decide +kernel
theorem dX11_addThing_35 : decode cX11_addThing 35 = .ok (.getfield 115, 3) := by decide +kernel
theorem dX11_addThing_38 : decode cX11_addThing 38 = .ok (.iload 4, 2) := by decide +kernel
theorem dX11_addThing_40 : decode cX11_addThing 40 = .ok (.iastore, 1) := by decide +kernel
theorem dX11_addThing_41 : decode cX11_addThing 41 = .ok (.aload_n 0, 1) := by decide +kernel
theorem dX11_addThing_42 : decode cX11_addThing 42 = .ok (.getfield 24, 3) := by decide +kernel
theorem dX11_addThing_45 : decode cX11_addThing 45 = .ok (.aload_n 0, 1) := by decide +kernel
theorem dX11_addThing_46 : decode cX11_addThing 46 = .ok (.getfield 115, 3) := by decide +kernel
theorem dX11_addThing_49 : decode cX11_addThing 49 = .ok (.iconst 0, 1) := by decide +kernel
theorem dX11_addThing_50 : decode cX11_addThing 50 = .ok (.iastore, 1) := by decide +kernel
theorem dX11_addThing_51 : decode cX11_addThing 51 = .ok (.aload_n 0, 1) := by decide +kernel
theorem dX11_addThing_52 : decode cX11_addThing 52 = .ok (.dup, 1) := by decide +kernel
theorem dX11_addThing_53 : decode cX11_addThing 53 = .ok (.getfield 115, 3) := by decide +kernel
theorem dX11_addThing_56 : decode cX11_addThing 56 = .ok (.iconst 1, 1) := by decide +kernel
theorem dX11_addThing_57 : decode cX11_addThing 57 = .ok (.iadd, 1) := by decide +kernel
theorem dX11_addThing_58 : decode cX11_addThing 58 = .ok (.putfield 115, 3) := by decide +kernel
theorem dX11_addThing_61 : decode cX11_addThing 61 = .ok (.aload_n 0, 1) := by decide +kernel
theorem dX11_addThing_62 : decode cX11_addThing 62 = .ok (.getfield 115, 3) := by decide +kernel
theorem dX11_addThing_65 : decode cX11_addThing 65 = .ok (.iconst 1, 1) := by decide +kernel
theorem dX11_addThing_66 : decode cX11_addThing 66 = .ok (.isub, 1) := by decide +kernel
theorem dX11_addThing_67 : decode cX11_addThing 67 = .ok (.ireturn, 1) := by decide +kernel
theorem dX11_isThingSo_0 : decode cX11_isThingSo 0 = .ok (.iload_n 0, 1) := by decide +kernel
theorem dX11_isThingSo_1 : decode cX11_isThingSo 1 = .ok (.iconst 0, 1) := by decide +kernel
theorem dX11_isThingSo_2 : decode cX11_isThingSo 2 = .ok (.iconst 5, 1) := by decide +kernel
theorem dX11_isThingSo_3 : decode cX11_isThingSo 3 = .ok (.invokestatic 118, 3) := by decide +kernel
theorem dX11_isThingSo_6 : decode cX11_isThingSo 6 = .ok (.ifCond .eq 27, 3) := by decide +kernel
theorem dX11_isThingSo_9 : decode cX11_isThingSo 9 = .ok (.iload_n 1, 1) := by decide +kernel
theorem dX11_isThingSo_10 : decode cX11_isThingSo 10 = .ok (.iconst 0, 1) := by decide +kernel
theorem dX11_isThingSo_11 : decode cX11_isThingSo 11 = .ok (.bipush 12, 2) := by decide +kernel
theorem dX11_isThingSo_13 : decode cX11_isThingSo 13 = .ok (.invokestatic 118, 3) := by decide +kernel
theorem dX11_isThingSo_16 : decode cX11_isThingSo 16 = .ok (.ifCond .eq 17, 3) := by decide +kernel
theorem dX11_isThingSo_19 : decode cX11_isThingSo 19 = .ok (.iload_n 2, 1) := by decide +kernel
theorem dX11_isThingSo_20 : decode cX11_isThingSo 20 = .ok (.iconst 0, 1) := by decide +kernel
theorem dX11_isThingSo_21 : decode cX11_isThingSo 21 = .ok (.bipush 6, 2) := by decide +kernel
theorem dX11_isThingSo_23 : decode cX11_isThingSo 23 = .ok (.invokestatic 118, 3) := by decide +kernel
theorem dX11_isThingSo_26 : decode cX11_isThingSo 26 = .ok (.ifCond .eq 7, 3) := by decide +kernel
theorem dX11_isThingSo_29 : decode cX11_isThingSo 29 = .ok (.iconst 1, 1) := by decide +kernel
theorem dX11_isThingSo_30 : decode cX11_isThingSo 30 = .ok (.goto 4, 3) := by decide +kernel
theorem dX11_isThingSo_33 : decode cX11_isThingSo 33 = .ok (.iconst 0, 1) := by decide +kernel
theorem dX11_isThingSo_34 : decode cX11_isThingSo 34 = .ok (.ireturn, 1) := by decide +kernel
theorem dX11_thing_0 : decode cX11_thing 0 = .ok (.iload_n 1, 1) := by decide +kernel
theorem dX11_thing_1 : decode cX11_thing 1 = .ok (.ifCond .lt 18, 3) := by decide +kernel
theorem dX11_thing_4 : decode cX11_thing 4 = .ok (.iload_n 1, 1) := by decide +kernel
theorem dX11_thing_5 : decode cX11_thing 5 = .ok (.bipush 100, 2) := by decide +kernel
theorem dX11_thing_7 : decode cX11_thing 7 = .ok (.idiv, 1) := by decide +kernel
theorem dX11_thing_8 : decode cX11_thing 8 = .ok (.iload_n 1, 1) := by decide +kernel
theorem dX11_thing_9 : decode cX11_thing 9 = .ok (.bipush 100, 2) := by decide +kernel
theorem dX11_thing_11 : decode cX11_thing 11 = .ok (.irem, 1) := by decide +kernel
theorem dX11_thing_12 : decode cX11_thing 12 = .ok (.iload_n 2, 1) := by decide +kernel
theorem dX11_thing_13 : decode cX11_thing 13 = .ok (.invokestatic 122, 3) := by decide +kernel
theorem dX11_thing_16 : decode cX11_thing 16 = .ok (.ifCond .ne 5, 3) := by decide +kernel
theorem dX11_thing_19 : decode cX11_thing 19 = .ok (.iconst (-1), 1) := by decide +kernel
theorem dX11_thing_20 : decode cX11_thing 20 = .ok (.ireturn, 1) := by decide +kernel
theorem dX11_thing_21 : decode cX11_thing 21 = .ok (.aload_n 0, 1) := by decide +kernel
theorem dX11_thing_22 : decode cX11_thing 22 = .ok (.getfield 115, 3) := by decide +kernel
theorem dX11_thing_25 : decode cX11_thing 25 = .ok (.bipush 8, 2) := by decide +kernel
theorem dX11_thing_27 : decode cX11_thing 27 = .ok (.if_icmp .ne 8, 3) := by decide +kernel
theorem dX11_thing_30 : decode cX11_thing 30 = .ok (.bipush (-3), 2) := by decide +kernel
theorem dX11_thing_32 : decode cX11_thing 32 = .ok (.goto 18, 3) := by decide +kernel
theorem dX11_thing_35 : decode cX11_thing 35 = .ok (.aload_n 0, 1) := by decide +kernel
theorem dX11_thing_36 : decode cX11_thing 36 = .ok (.iload_n 1, 1) := by decide +kernel
theorem dX11_thing_37 : decode cX11_thing 37 = .ok (.bipush 100, 2) := by decide +kernel
theorem dX11_thing_39 : decode cX11_thing 39 = .ok (.idiv, 1) := by decide +kernel
theorem dX11_thing_40 : decode cX11_thing 40 = .ok (.iload_n 1, 1) := by decide +kernel
theorem dX11_thing_41 : decode cX11_thing 41 = .ok (.bipush 100, 2) := by decide +kernel
theorem dX11_thing_43 : decode cX11_thing 43 = .ok (.irem, 1) := by decide +kernel
theorem dX11_thing_44 : decode cX11_thing 44 = .ok (.iload_n 2, 1) := by decide +kernel
theorem dX11_thing_45 : decode cX11_thing 45 = .ok (.bipush 10, 2) := by decide +kernel
theorem dX11_thing_47 : decode cX11_thing 47 = .ok (.invokevirtual 125, 3) := by decide +kernel
theorem dX11_thing_50 : decode cX11_thing 50 = .ok (.ireturn, 1) := by decide +kernel
theorem dX11_things_0 : decode cX11_things 0 = .ok (.iload_n 1, 1) := by decide +kernel
theorem dX11_things_1 : decode cX11_things 1 = .ok (.invokestatic 129, 3) := by decide +kernel
theorem dX11_things_4 : decode cX11_things 4 = .ok (.ifCond .eq 13, 3) := by decide +kernel
theorem dX11_things_7 : decode cX11_things 7 = .ok (.iload_n 3, 1) := by decide +kernel
theorem dX11_things_8 : decode cX11_things 8 = .ok (.iconst 1, 1) := by decide +kernel
theorem dX11_things_9 : decode cX11_things 9 = .ok (.bipush 8, 2) := by decide +kernel
theorem dX11_things_11 : decode cX11_things 11 = .ok (.invokestatic 118, 3) := by decide +kernel
theorem dX11_things_14 : decode cX11_things 14 = .ok (.ifCond .ne 5, 3) := by decide +kernel
theorem dX11_things_17 : decode cX11_things 17 = .ok (.iconst (-1), 1) := by decide +kernel
theorem dX11_things_18 : decode cX11_things 18 = .ok (.ireturn, 1) := by decide +kernel
theorem dX11_things_19 : decode cX11_things 19 = .ok (.aload_n 0, 1) := by decide +kernel
theorem dX11_things_20 : decode cX11_things 20 = .ok (.getfield 99, 3) := by decide +kernel
theorem dX11_things_23 : decode cX11_things 23 = .ok (.iload_n 1, 1) := by decide +kernel
theorem dX11_things_24 : decode cX11_things 24 = .ok (.iaload, 1) := by decide +kernel
theorem dX11_things_25 : decode cX11_things 25 = .ok (.iconst (-1), 1) := by decide +kernel
theorem dX11_things_26 : decode cX11_things 26 = .ok (.if_icmp .eq 17, 3) := by decide +kernel
theorem dX11_things_29 : decode cX11_things 29 = .ok (.aload_n 0, 1) := by decide +kernel
theorem dX11_things_30 : decode cX11_things 30 = .ok (.getfield 99, 3) := by decide +kernel
theorem dX11_things_33 : decode cX11_things 33 = .ok (.iload_n 1, 1) := by decide +kernel
theorem dX11_things_34 : decode cX11_things 34 = .ok (.iaload, 1) := by decide +kernel
theorem dX11_things_35 : decode cX11_things 35 = .ok (.bipush (-2), 2) := by decide +kernel
theorem dX11_things_37 : decode cX11_things 37 = .ok (.if_icmp .eq 6, 3) := by decide +kernel
theorem dX11_things_40 : decode cX11_things 40 = .ok (.bipush (-12), 2) := by decide +kernel
theorem dX11_things_42 : decode cX11_things 42 = .ok (.ireturn, 1) := by decide +kernel
theorem dX11_things_43 : decode cX11_things 43 = .ok (.aload_n 0, 1) := by decide +kernel
theorem dX11_things_44 : decode cX11_things 44 = .ok (.getfield 99, 3) := by decide +kernel
theorem dX11_things_47 : decode cX11_things 47 = .ok (.iload_n 1, 1) := by decide +kernel
theorem dX11_things_48 : decode cX11_things 48 = .ok (.iaload, 1) := by decide +kernel
theorem dX11_things_49 : decode cX11_things 49 = .ok (.iconst (-1), 1) := by decide +kernel
theorem dX11_things_50 : decode cX11_things 50 = .ok (.if_icmp .ne 5, 3) := by decide +kernel
theorem dX11_things_53 : decode cX11_things 53 = .ok (.iconst 0, 1) := by decide +kernel
theorem dX11_things_54 : decode cX11_things 54 = .ok (.ireturn, 1) := by decide +kernel
theorem dX11_things_55 : decode cX11_things 55 = .ok (.iconst 0, 1) := by decide +kernel
theorem dX11_things_56 : decode cX11_things 56 = .ok (.istore 4, 2) := by decide +kernel
theorem dX11_things_58 : decode cX11_things 58 = .ok (.iload 4, 2) := by decide +kernel
theorem dX11_things_60 : decode cX11_things 60 = .ok (.iload_n 3, 1) := by decide +kernel
theorem dX11_things_61 : decode cX11_things 61 = .ok (.if_icmp .ge 164, 3) := by decide +kernel
theorem dX11_things_64 : decode cX11_things 64 = .ok (.iload_n 2, 1) := by decide +kernel
