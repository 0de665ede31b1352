theorem dX6_init_0 : decode cX6_init 0 = .ok (.aload_n 0, 1) := by decide +kernel
theorem dX6_init_1 : decode cX6_init 1 = .ok (.invokespecial 1, 3) := by decide +kernel
theorem dX6_init_4 : decode cX6_init 4 = .ok (.aload_n 0, 1) := by decide +kernel
theorem dX6_init_5 : decode cX6_init 5 = .ok (.sipush 16384, 3) := by decide +kernel
theorem dX6_init_8 : decode cX6_init 8 = .ok (.newarray .int, 2) := by decide +kernel
theorem dX6_init_10 : decode cX6_init 10 = .ok (.putfield 7, 3) := by decide +kernel
theorem dX6_init_13 : decode cX6_init 13 = .ok (.aload_n 0, 1) := by decide +kernel
theorem dX6_init_14 : decode cX6_init 14 = .ok (.sipush 16384, 3) := by decide +kernel
theorem dX6_init_17 : decode cX6_init 17 = .ok (.newarray .int, 2) := by decide +kernel
theorem dX6_init_19 : decode cX6_init 19 = .ok (.putfield 13, 3) := by decide +kernel
theorem dX6_init_22 : decode cX6_init 22 = .ok (.aload_n 0, 1) := by decide +kernel
theorem dX6_init_23 : decode cX6_init 23 = .ok (.iconst 3, 1) := by decide +kernel
theorem dX6_init_24 : decode cX6_init 24 = .ok (.putfield 16, 3) := by decide +kernel
theorem dX6_init_27 : decode cX6_init 27 = .ok (.aload_n 0, 1) := by decide +kernel
theorem dX6_init_28 : decode cX6_init 28 = .ok (.bipush 16, 2) := by decide +kernel
theorem dX6_init_30 : decode cX6_init 30 = .ok (.putfield 20, 3) := by decide +kernel
theorem dX6_init_33 : decode cX6_init 33 = .ok (.aload_n 0, 1) := by decide +kernel
theorem dX6_init_34 : decode cX6_init 34 = .ok (.bipush (-4), 2) := by decide +kernel
theorem dX6_init_36 : decode cX6_init 36 = .ok (.putfield 23, 3) := by decide +kernel
theorem dX6_init_39 : decode cX6_init 39 = .ok (.aload_n 0, 1) := by decide +kernel
theorem dX6_init_40 : decode cX6_init 40 = .ok (.bipush 32, 2) := by decide +kernel
theorem dX6_init_42 : decode cX6_init 42 = .ok (.newarray .int, 2) := by decide +kernel
theorem dX6_init_44 : decode cX6_init 44 = .ok (.putfield 26, 3) := by decide +kernel
theorem dX6_init_47 : decode cX6_init 47 = .ok (.aload_n 0, 1) := by decide +kernel
theorem dX6_init_48 : decode cX6_init 48 = .ok (.bipush 32, 2) := by decide +kernel
theorem dX6_init_50 : decode cX6_init 50 = .ok (.newarray .int, 2) := by decide +kernel
theorem dX6_init_52 : decode cX6_init 52 = .ok (.putfield 29, 3) := by decide +kernel
theorem dX6_init_55 : decode cX6_init 55 = .ok (.aload_n 0, 1) := by decide +kernel
theorem dX6_init_56 : decode cX6_init 56 = .ok (.bipush 64, 2) := by decide +kernel
theorem dX6_init_58 : decode cX6_init 58 = .ok (.newarray .int, 2) := by decide +kernel
theorem dX6_init_60 : decode cX6_init 60 = .ok (.putfield 32, 3) := by decide +kernel
theorem dX6_init_63 : decode cX6_init 63 = .ok (.aload_n 0, 1) := by decide +kernel
theorem dX6_init_64 : decode cX6_init 64 = .ok (.bipush 64, 2) := by decide +kernel
theorem dX6_init_66 : decode cX6_init 66 = .ok (.newarray .int, 2) := by decide +kernel
theorem dX6_init_68 : decode cX6_init 68 = .ok (.putfield 35, 3) := by decide +kernel
theorem dX6_init_71 : decode cX6_init 71 = .ok (.aload_n 0, 1) := by decide +kernel
theorem dX6_init_72 : decode cX6_init 72 = .ok (.bipush 64, 2) := by decide +kernel
theorem dX6_init_74 : decode cX6_init 74 = .ok (.newarray .int, 2) := by decide +kernel
theorem dX6_init_76 : decode cX6_init 76 = .ok (.putfield 38, 3) := by decide +kernel
theorem dX6_init_79 : decode cX6_init 79 = .ok (.aload_n 0, 1) := by decide +kernel
theorem dX6_init_80 : decode cX6_init 80 = .ok (.bipush 16, 2) := by decide +kernel
theorem dX6_init_82 : decode cX6_init 82 = .ok (.newarray .int, 2) := by decide +kernel
theorem dX6_init_84 : decode cX6_init 84 = .ok (.putfield 41, 3) := by decide +kernel
theorem dX6_init_87 : decode cX6_init 87 = .ok (.aload_n 0, 1) := by decide +kernel
theorem dX6_init_88 : decode cX6_init 88 = .ok (.sipush 16512, 3) := by decide +kernel
theorem dX6_init_91 : decode cX6_init 91 = .ok (.newarray .int, 2) := by decide +kernel
theorem dX6_init_93 : decode cX6_init 93 = .ok (.putfield 44, 3) := by decide +kernel
theorem dX6_init_96 : decode cX6_init 96 = .ok (.aload_n 0, 1) := by decide +kernel
theorem dX6_init_97 : decode cX6_init 97 = .ok (.bipush 16, 2) := by decide +kernel
theorem dX6_init_99 : decode cX6_init 99 = .ok (.newarray .int, 2) := by decide +kernel
theorem dX6_init_101 : decode cX6_init 101 = .ok (.putfield 47, 3) := by decide +kernel
theorem dX6_init_104 : decode cX6_init 104 = .ok (.aload_n 0, 1) := by decide +kernel
theorem dX6_init_105 : decode cX6_init 105 = .ok (.iconst 4, 1) := by decide +kernel
theorem dX6_init_106 : decode cX6_init 106 = .ok (.newarray .int, 2) := by decide +kernel
theorem dX6_init_108 : decode cX6_init 108 = .ok (.putfield 50, 3) := by decide +kernel
theorem dX6_init_111 : decode cX6_init 111 = .ok (.aload_n 0, 1) := by decide +kernel
theorem dX6_init_112 : decode cX6_init 112 = .ok (.bipush 64, 2) := by decide +kernel
theorem dX6_init_114 : decode cX6_init 114 = .ok (.newarray .int, 2) := by decide +kernel
theorem dX6_init_116 : decode cX6_init 116 = .ok (.dup, 1) := by decide +kernel
theorem dX6_init_117 : decode cX6_init 117 = .ok (.iconst 0, 1) := by decide +kernel
theorem dX6_init_118 : decode cX6_init 118 = .ok (.ldc 53, 2) := by decide +kernel
theorem dX6_init_120 : decode cX6_init 120 = .ok (.iastore, 1) := by decide +kernel
theorem dX6_init_121 : decode cX6_init 121 = .ok (.dup, 1) := by decide +kernel
theorem dX6_init_122 : decode cX6_init 122 = .ok (.iconst 1, 1) := by decide +kernel
theorem dX6_init_123 : decode cX6_init 123 = .ok (.ldc 54, 2) := by decide +kernel
theorem dX6_init_125 : decode cX6_init 125 = .ok (.iastore, 1) := by decide +kernel
theorem dX6_init_126 : decode cX6_init 126 = .ok (.dup, 1) := by decide +kernel
theorem dX6_init_127 : decode cX6_init 127 = .ok (.iconst 2, 1) := by decide +kernel
theorem dX6_init_128 : decode cX6_init 128 = .ok (.ldc 55, 2) := by decide +kernel
theorem dX6_init_130 : decode cX6_init 130 = .ok (.iastore, 1) := by decide +kernel
theorem dX6_init_131 : decode cX6_init 131 = .ok (.dup, 1) := by decide +kernel
theorem dX6_init_132 : decode cX6_init 132 = .ok (.iconst 3, 1) := by decide +kernel
theorem dX6_init_133 : decode cX6_init 133 = .ok (.ldc 56, 2) := by decide +kernel
theorem dX6_init_135 : decode cX6_init 135 = .ok (.iastore, 1) := by decide +kernel
theorem dX6_init_136 : decode cX6_init 136 = .ok (.dup, 1) := by decide +kernel
theorem dX6_init_137 : decode cX6_init 137 = .ok (.iconst 4, 1) := by decide +kernel
theorem dX6_init_138 : decode cX6_init 138 = .ok (.ldc 57, 2) := by decide +kernel
theorem dX6_init_140 : decode cX6_init 140 = .ok (.iastore, 1) := by decide +kernel
theorem dX6_init_141 : decode cX6_init 141 = .ok (.dup, 1) := by decide +kernel
theorem dX6_init_142 : decode cX6_init 142 = .ok (.iconst 5, 1) := by decide +kernel
theorem dX6_init_143 : decode cX6_init 143 = .ok (.ldc 58, 2) := by decide +kernel
theorem dX6_init_145 : decode cX6_init 145 = .ok (.iastore, 1) := by decide +kernel
theorem dX6_init_146 : decode cX6_init 146 = .ok (.dup, 1) := by decide +kernel
theorem dX6_init_147 : decode cX6_init 147 = .ok (.bipush 6, 2) := by decide +kernel
theorem dX6_init_149 : decode cX6_init 149 = .ok (.ldc 59, 2) := by decide +kernel
theorem dX6_init_151 : decode cX6_init 151 = .ok (.iastore, 1) := by decide +kernel
theorem dX6_init_152 : decode cX6_init 152 = .ok (.dup, 1) := by decide +kernel
theorem dX6_init_153 : decode cX6_init 153 = .ok (.bipush 7, 2) := by decide +kernel
theorem dX6_init_155 : decode cX6_init 155 = .ok (.ldc 60, 2) := by decide +kernel
theorem dX6_init_157 : decode cX6_init 157 = .ok (.iastore, 1) := by decide +kernel
theorem dX6_init_158 : decode cX6_init 158 = .ok (.dup, 1) := by decide +kernel
theorem dX6_init_159 : decode cX6_init 159 = .ok (.bipush 8, 2) := by decide +kernel
theorem dX6_init_161 : decode cX6_init 161 = .ok (.ldc 61, 2) := by decide +kernel
theorem dX6_init_163 : decode cX6_init 163 = .ok (.iastore, 1) := by decide +kernel
theorem dX6_init_164 : decode cX6_init 164 = .ok (.dup, 1) := by decide +kernel
theorem dX6_init_165 : decode cX6_init 165 = .ok (.bipush 9, 2) := by decide +kernel
theorem dX6_init_167 : decode cX6_init 167 = .ok (.ldc 62, 2) := by decide +kernel
theorem dX6_init_169 : decode cX6_init 169 = .ok (.iastore, 1) := by decide +kernel
theorem dX6_init_170 : decode cX6_init 170 = .ok (.dup, 1) := by decide +kernel
theorem dX6_init_171 : decode cX6_init 171 = .ok (.bipush 10, 2) := by decide +kernel
theorem dX6_init_173 : decode cX6_init 173 = .ok (.ldc 63, 2) := by decide +kernel
theorem dX6_init_175 : decode cX6_init 175 = .ok (.iastore, 1) := by decide +kernel
theorem dX6_init_176 : decode cX6_init 176 = .ok (.dup, 1) := by decide +kernel
theorem dX6_init_177 : decode cX6_init 177 = .ok (.bipush 11, 2) := by decide +kernel
theorem dX6_init_179 : decode cX6_init 179 = .ok (.ldc 64, 2) := by decide +kernel
theorem dX6_init_181 : decode cX6_init 181 = .ok (.iastore, 1) := by decide +kernel
theorem dX6_init_182 : decode cX6_init 182 = .ok (.dup, 1) := by decide +kernel
theorem dX6_init_183 : decode cX6_init 183 = .ok (.bipush 12, 2) := by decide +kernel
theorem dX6_init_185 : decode cX6_init 185 = .ok (.ldc 65, 2) := by decide +kernel
theorem dX6_init_187 : decode cX6_init 187 = .ok (.iastore, 1) := by decide +kernel
theorem dX6_init_188 : decode cX6_init 188 = .ok (.dup, 1) := by decide +kernel
theorem dX6_init_189 : decode cX6_init 189 = .ok (.bipush 13, 2) := by decide +kernel
theorem dX6_init_191 : decode cX6_init 191 = .ok (.ldc 66, 2) := by decide +kernel
theorem dX6_init_193 : decode cX6_init 193 = .ok (.iastore, 1) := by decide +kernel
theorem dX6_init_194 : decode cX6_init 194 = .ok (.dup, 1) := by decide +kernel
theorem dX6_init_195 : decode cX6_init 195 = .ok (.bipush 14, 2) := by decide +kernel
theorem dX6_init_197 : decode cX6_init 197 = .ok (.ldc 67, 2) := by decide +kernel
theorem dX6_init_199 : decode cX6_init 199 = .ok (.iastore, 1) := by decide +kernel
theorem dX6_init_200 : decode cX6_init 200 = .ok (.dup, 1) := by decide +kernel
theorem dX6_init_201 : decode cX6_init 201 = .ok (.bipush 15, 2) := by decide +kernel
theorem dX6_init_203 : decode cX6_init 203 = .ok (.ldc 68, 2) := by decide +kernel
theorem dX6_init_205 : decode cX6_init 205 = .ok (.iastore, 1) := by decide +kernel
theorem dX6_init_206 : decode cX6_init 206 = .ok (.dup, 1) := by decide +kernel
theorem dX6_init_207 : decode cX6_init 207 = .ok (.bipush 16, 2) := by decide +kernel
theorem dX6_init_209 : decode cX6_init 209 = .ok (.ldc 69, 2) := by decide +kernel
theorem dX6_init_211 : decode cX6_init 211 = .ok (.iastore, 1) := by decide +kernel
theorem dX6_init_212 : decode cX6_init 212 = .ok (.dup, 1) := by decide +kernel
theorem dX6_init_213 : decode cX6_init 213 = .ok (.bipush 17, 2) := by decide +kernel
theorem dX6_init_215 : decode cX6_init 215 = .ok (.ldc 70, 2) := by decide +kernel
theorem dX6_init_217 : decode cX6_init 217 = .ok (.iastore, 1) := by decide +kernel
theorem dX6_init_218 : decode cX6_init 218 = .ok (.dup, 1) := by decide +kernel
theorem dX6_init_219 : decode cX6_init 219 = .ok (.bipush 18, 2) := by decide +kernel
theorem dX6_init_221 : decode cX6_init 221 = .ok (.ldc 71, 2) := by decide +kernel
theorem dX6_init_223 : decode cX6_init 223 = .ok (.iastore, 1) := by decide +kernel
theorem dX6_init_224 : decode cX6_init 224 = .ok (.dup, 1) := by decide +kernel
theorem dX6_init_225 : decode cX6_init 225 = .ok (.bipush 19, 2) := by decide +kernel
theorem dX6_init_227 : decode cX6_init 227 = .ok (.ldc 72, 2) := by decide +kernel
theorem dX6_init_229 : decode cX6_init 229 = .ok (.iastore, 1) := by decide +kernel
theorem dX6_init_230 : decode cX6_init 230 = .ok (.dup, 1) := by decide +kernel
theorem dX6_init_231 : decode cX6_init 231 = .ok (.bipush 20, 2) := by decide +kernel
theorem dX6_init_233 : decode cX6_init 233 = .ok (.ldc 73, 2) := by decide +kernel
theorem dX6_init_235 : decode cX6_init 235 = .ok (.iastore, 1) := by decide +kernel
theorem dX6_init_236 : decode cX6_init 236 = .ok (.dup, 1) := by decide +kernel
theorem dX6_init_237 : decode cX6_init 237 = .ok (.bipush 21, 2) := by decide +kernel
theorem dX6_init_239 : decode cX6_init 239 = .ok (.ldc 74, 2) := by decide +kernel
theorem dX6_init_241 : decode cX6_init 241 = .ok (.iastore, 1) := by decide +kernel
theorem dX6_init_242 : decode cX6_init 242 = .ok (.dup, 1) := by decide +kernel
theorem dX6_init_243 : decode cX6_init 243 = .ok (.bipush 22, 2) := by decide +kernel
theorem dX6_init_245 : decode cX6_init 245 = .ok (.ldc 75, 2) := by decide +kernel
theorem dX6_init_247 : decode cX6_init 247 = .ok (.iastore, 1) := by decide +kernel
theorem dX6_init_248 : decode cX6_init 248 = .ok (.dup, 1) := by decide +kernel
theorem dX6_init_249 : decode cX6_init 249 = .ok (.bipush 23, 2) := by decide +kernel
theorem dX6_init_251 : decode cX6_init 251 = .ok (.ldc 76, 2) := by decide +kernel
theorem dX6_init_253 : decode cX6_init 253 = .ok (.iastore, 1) := by decide +kernel
theorem dX6_init_254 : decode cX6_init 254 = .ok (.dup, 1) := by decide +kernel
theorem dX6_init_255 : decode cX6_init 255 = .ok (.bipush 24, 2) := by decide +kernel
theorem dX6_init_257 : decode cX6_init 257 = .ok (.ldc 77, 2) := by decide +kernel
theorem dX6_init_259 : decode cX6_init 259 = .ok (.iastore, 1) := by decide +kernel
theorem dX6_init_260 : decode cX6_init 260 = .ok (.dup, 1) := by decide +kernel
theorem dX6_init_261 : decode cX6_init 261 = .ok (.bipush 25, 2) := by decide +kernel
theorem dX6_init_263 : decode cX6_init 263 = .ok (.ldc 78, 2) := by decide +kernel
theorem dX6_init_265 : decode cX6_init 265 = .ok (.iastore, 1) := by decide +kernel
theorem dX6_init_266 : decode cX6_init 266 = .ok (.dup, 1) := by decide +kernel
theorem dX6_init_267 : decode cX6_init 267 = .ok (.bipush 26, 2) := by decide +kernel
theorem dX6_init_269 : decode cX6_init 269 = .ok (.ldc 79, 2) := by decide +kernel
theorem dX6_init_271 : decode cX6_init 271 = .ok (.iastore, 1) := by decide +kernel
theorem dX6_init_272 : decode cX6_init 272 = .ok (.dup, 1) := by decide +kernel
theorem dX6_init_273 : decode cX6_init 273 = .ok (.bipush 27, 2) := by decide +kernel
theorem dX6_init_275 : decode cX6_init 275 = .ok (.ldc 80, 2) := by decide +kernel
theorem dX6_init_277 : decode cX6_init 277 = .ok (.iastore, 1) := by decide +kernel
theorem dX6_init_278 : decode cX6_init 278 = .ok (.dup, 1) := by decide +kernel
theorem dX6_init_279 : decode cX6_init 279 = .ok (.bipush 28, 2) := by decide +kernel
theorem dX6_init_281 : decode cX6_init 281 = .ok (.ldc 81, 2) := by decide +kernel
theorem dX6_init_283 : decode cX6_init 283 = .ok (.iastore, 1) := by decide +kernel
theorem dX6_init_284 : decode cX6_init 284 = .ok (.dup, 1) := by decide +kernel
theorem dX6_init_285 : decode cX6_init 285 = .ok (.bipush 29, 2) := by decide +kernel
theorem dX6_init_287 : decode cX6_init 287 = .ok (.ldc 82, 2) := by decide +kernel
theorem dX6_init_289 : decode cX6_init 289 = .ok (.iastore, 1) := by decide +kernel
theorem dX6_init_290 : decode cX6_init 290 = .ok (.dup, 1) := by decide +kernel
theorem dX6_init_291 : decode cX6_init 291 = .ok (.bipush 30, 2) := by decide +kernel
theorem dX6_init_293 : decode cX6_init 293 = .ok (.ldc 83, 2) := by decide +kernel
theorem dX6_init_295 : decode cX6_init 295 = .ok (.iastore, 1) := by decide +kernel
theorem dX6_init_296 : decode cX6_init 296 = .ok (.dup, 1) := by decide +kernel
theorem dX6_init_297 : decode cX6_init 297 = .ok (.bipush 31, 2) := by decide +kernel
theorem dX6_init_299 : decode cX6_init 299 = .ok (.ldc 84, 2) := by decide +kernel
theorem dX6_init_301 : decode cX6_init 301 = .ok (.iastore, 1) := by decide +kernel
theorem dX6_init_302 : decode cX6_init 302 = .ok (.dup, 1) := by decide +kernel
theorem dX6_init_303 : decode cX6_init 303 = .ok (.bipush 32, 2) := by decide +kernel
theorem dX6_init_305 : decode cX6_init 305 = .ok (.ldc 85, 2) := by decide +kernel
theorem dX6_init_307 : decode cX6_init 307 = .ok (.iastore, 1) := by decide +kernel
theorem dX6_init_308 : decode cX6_init 308 = .ok (.dup, 1) := by decide +kernel
theorem dX6_init_309 : decode cX6_init 309 = .ok (.bipush 33, 2) := by decide +kernel
theorem dX6_init_311 : decode cX6_init 311 = .ok (.ldc 86, 2) := by decide +kernel
theorem dX6_init_313 : decode cX6_init 313 = .ok (.iastore, 1) := by decide +kernel
theorem dX6_init_314 : decode cX6_init 314 = .ok (.dup, 1) := by decide +kernel
theorem dX6_init_315 : decode cX6_init 315 = .ok (.bipush 34, 2) := by decide +kernel
theorem dX6_init_317 : decode cX6_init 317 = .ok (.ldc 87, 2) := by decide +kernel
theorem dX6_init_319 : decode cX6_init 319 = .ok (.iastore, 1) := by decide +kernel
theorem dX6_init_320 : decode cX6_init 320 = .ok (.dup, 1) := by decide +kernel
theorem dX6_init_321 : decode cX6_init 321 = .ok (.bipush 35, 2) := by decide +kernel
theorem dX6_init_323 : decode cX6_init 323 = .ok (.ldc 88, 2) := by decide +kernel
theorem dX6_init_325 : decode cX6_init 325 = .ok (.iastore, 1) := by decide +kernel
theorem dX6_init_326 : decode cX6_init 326 = .ok (.dup, 1) := by decide +kernel
theorem dX6_init_327 : decode cX6_init 327 = .ok (.bipush 36, 2) := by decide +kernel
theorem dX6_init_329 : decode cX6_init 329 = .ok (.ldc 89, 2) := by decide +kernel
theorem dX6_init_331 : decode cX6_init 331 = .ok (.iastore, 1) := by decide +kernel
theorem dX6_init_332 : decode cX6_init 332 = .ok (.dup, 1) := by decide +kernel
theorem dX6_init_333 : decode cX6_init 333 = .ok (.bipush 37, 2) := by decide +kernel
theorem dX6_init_335 : decode cX6_init 335 = .ok (.ldc 90, 2) := by decide +kernel
theorem dX6_init_337 : decode cX6_init 337 = .ok (.iastore, 1) := by decide +kernel
theorem dX6_init_338 : decode cX6_init 338 = .ok (.dup, 1) := by decide +kernel
theorem dX6_init_339 : decode cX6_init 339 = .ok (.bipush 38, 2) := by decide +kernel
theorem dX6_init_341 : decode cX6_init 341 = .ok (.ldc 91, 2) := by decide +kernel
theorem dX6_init_343 : decode cX6_init 343 = .ok (.iastore, 1) := by decide +kernel
theorem dX6_init_344 : decode cX6_init 344 = .ok (.dup, 1) := by decide +kernel
theorem dX6_init_345 : decode cX6_init 345 = .ok (.bipush 39, 2) := by decide +kernel
theorem dX6_init_347 : decode cX6_init 347 = .ok (.ldc 92, 2) := by decide +kernel
theorem dX6_init_349 : decode cX6_init 349 = .ok (.iastore, 1) := by decide +kernel
theorem dX6_init_350 : decode cX6_init 350 = .ok (.dup, 1) := by decide +kernel
theorem dX6_init_351 : decode cX6_init 351 = .ok (.bipush 40, 2) := by decide +kernel
theorem dX6_init_353 : decode cX6_init 353 = .ok (.ldc 93, 2) := by decide +kernel
theorem dX6_init_355 : decode cX6_init 355 = .ok (.iastore, 1) := by decide +kernel
theorem dX6_init_356 : decode cX6_init 356 = .ok (.dup, 1) := by decide +kernel
theorem dX6_init_357 : decode cX6_init 357 = .ok (.bipush 41, 2) := by decide +kernel
theorem dX6_init_359 : decode cX6_init 359 = .ok (.ldc 94, 2) := by decide +kernel
theorem dX6_init_361 : decode cX6_init 361 = .ok (.iastore, 1) := by decide +kernel
theorem dX6_init_362 : decode cX6_init 362 = .ok (.dup, 1) := by decide +kernel
theorem dX6_init_363 : decode cX6_init 363 = .ok (.bipush 42, 2) := by decide +kernel
theorem dX6_init_365 : decode cX6_init 365 = .ok (.ldc 95, 2) := by decide +kernel
theorem dX6_init_367 : decode cX6_init 367 = .ok (.iastore, 1) := by decide +kernel
theorem dX6_init_368 : decode cX6_init 368 = .ok (.dup, 1) := by decide +kernel
theorem dX6_init_369 : decode cX6_init 369 = .ok (.bipush 43, 2) := by decide +kernel
theorem dX6_init_371 : decode cX6_init 371 = .ok (.ldc 96, 2) := by decide +kernel
theorem dX6_init_373 : decode cX6_init 373 = .ok (.iastore, 1) := by decide +kernel
theorem dX6_init_374 : decode cX6_init 374 = .ok (.dup, 1) := by decide +kernel
theorem dX6_init_375 : decode cX6_init 375 = .ok (.bipush 44, 2) := by decide +kernel
theorem dX6_init_377 : decode cX6_init 377 = .ok (.ldc 97, 2) := by decide +kernel
theorem dX6_init_379 : decode cX6_init 379 = .ok (.iastore, 1) := by decide +kernel
theorem dX6_init_380 : decode cX6_init 380 = .ok (.dup, 1) := by decide +kernel
theorem dX6_init_381 : decode cX6_init 381 = .ok (.bipush 45, 2) := by decide +kernel
theorem dX6_init_383 : decode cX6_init 383 = .ok (.ldc 98, 2) := by decide +kernel
theorem dX6_init_385 : decode cX6_init 385 = .ok (.iastore, 1) := by decide +kernel
theorem dX6_init_386 : decode cX6_init 386 = .ok (.dup, 1) := by decide +kernel
theorem dX6_init_387 : decode cX6_init 387 = .ok (.bipush 46, 2) := by decide +kernel
theorem dX6_init_389 : decode cX6_init 389 = .ok (.ldc 99, 2) := by decide +kernel
theorem dX6_init_391 : decode cX6_init 391 = .ok (.iastore, 1) := by decide +kernel
theorem dX6_init_392 : decode cX6_init 392 = .ok (.dup, 1) := by decide +kernel
theorem dX6_init_393 : decode cX6_init 393 = .ok (.bipush 47, 2) := by decide +kernel
theorem dX6_init_395 : decode cX6_init 395 = .ok (.ldc 100, 2) := by decide +kernel
theorem dX6_init_397 : decode cX6_init 397 = .ok (.iastore, 1) := by decide +kernel
theorem dX6_init_398 : decode cX6_init 398 = .ok (.dup, 1) := by decide +kernel
theorem dX6_init_399 : decode cX6_init 399 = .ok (.bipush 48, 2) := by decide +kernel
theorem dX6_init_401 : decode cX6_init 401 = .ok (.ldc 101, 2) := by decide +kernel
theorem dX6_init_403 : decode cX6_init 403 = .ok (.iastore, 1) := by decide +kernel
theorem dX6_init_404 : decode cX6_init 404 = .ok (.dup, 1) := by decide +kernel
theorem dX6_init_405 : decode cX6_init 405 = .ok (.bipush 49, 2) := by decide +kernel
theorem dX6_init_407 : decode cX6_init 407 = .ok (.ldc 102, 2) := by decide +kernel
theorem dX6_init_409 : decode cX6_init 409 = .ok (.iastore, 1) := by decide +kernel
theorem dX6_init_410 : decode cX6_init 410 = .ok (.dup, 1) := by decide +kernel
theorem dX6_init_411 : decode cX6_init 411 = .ok (.bipush 50, 2) := by decide +kernel
theorem dX6_init_413 : decode cX6_init 413 = .ok (.ldc 103, 2) := by decide +kernel
theorem dX6_init_415 : decode cX6_init 415 = .ok (.iastore, 1) := by decide +kernel
theorem dX6_init_416 : decode cX6_init 416 = .ok (.dup, 1) := by decide +kernel
theorem dX6_init_417 : decode cX6_init 417 = .ok (.bipush 51, 2) := by decide +kernel
theorem dX6_init_419 : decode cX6_init 419 = .ok (.ldc 104, 2) := by decide +kernel
theorem dX6_init_421 : decode cX6_init 421 = .ok (.iastore, 1) := by decide +kernel
theorem dX6_init_422 : decode cX6_init 422 = .ok (.dup, 1) := by decide +kernel
theorem dX6_init_423 : decode cX6_init 423 = .ok (.bipush 52, 2) := by decide +kernel
theorem dX6_init_425 : decode cX6_init 425 = .ok (.ldc 105, 2) := by decide +kernel
theorem dX6_init_427 : decode cX6_init 427 = .ok (.iastore, 1) := by decide +kernel
theorem dX6_init_428 : decode cX6_init 428 = .ok (.dup, 1) := by decide +kernel
theorem dX6_init_429 : decode cX6_init 429 = .ok (.bipush 53, 2) := by decide +kernel
theorem dX6_init_431 : decode cX6_init 431 = .ok (.ldc 106, 2) := by decide +kernel
theorem dX6_init_433 : decode cX6_init 433 = .ok (.iastore, 1) := by decide +kernel
theorem dX6_init_434 : decode cX6_init 434 = .ok (.dup, 1) := by decide +kernel
theorem dX6_init_435 : decode cX6_init 435 = .ok (.bipush 54, 2) := by decide +kernel
theorem dX6_init_437 : decode cX6_init 437 = .ok (.ldc 107, 2) := by decide +kernel
theorem dX6_init_439 : decode cX6_init 439 = .ok (.iastore, 1) := by decide +kernel
theorem dX6_init_440 : decode cX6_init 440 = .ok (.dup, 1) := by decide +kernel
theorem dX6_init_441 : decode cX6_init 441 = .ok (.bipush 55, 2) := by decide +kernel
theorem dX6_init_443 : decode cX6_init 443 = .ok (.ldc 108, 2) := by decide +kernel
theorem dX6_init_445 : decode cX6_init 445 = .ok (.iastore, 1) := by decide +kernel
theorem dX6_init_446 : decode cX6_init 446 = .ok (.dup, 1) := by decide +kernel
theorem dX6_init_447 : decode cX6_init 447 = .ok (.bipush 56, 2) := by decide +kernel
theorem dX6_init_449 : decode cX6_init 449 = .ok (.ldc 109, 2) := by decide +kernel
theorem dX6_init_451 : decode cX6_init 451 = .ok (.iastore, 1) := by decide +kernel
theorem dX6_init_452 : decode cX6_init 452 = .ok (.dup, 1) := by decide +kernel
theorem dX6_init_453 : decode cX6_init 453 = .ok (.bipush 57, 2) := by decide +kernel
theorem dX6_init_455 : decode cX6_init 455 = .ok (.ldc 110, 2) := by decide +kernel
theorem dX6_init_457 : decode cX6_init 457 = .ok (.iastore, 1) := by decide +kernel
theorem dX6_init_458 : decode cX6_init 458 = .ok (.dup, 1) := by decide +kernel
theorem dX6_init_459 : decode cX6_init 459 = .ok (.bipush 58, 2) := by decide +kernel
theorem dX6_init_461 : decode cX6_init 461 = .ok (.ldc 111, 2) := by decide +kernel
theorem dX6_init_463 : decode cX6_init 463 = .ok (.iastore, 1) := by decide +kernel
theorem dX6_init_464 : decode cX6_init 464 = .ok (.dup, 1) := by decide +kernel
theorem dX6_init_465 : decode cX6_init 465 = .ok (.bipush 59, 2) := by decide +kernel
theorem dX6_init_467 : decode cX6_init 467 = .ok (.ldc 112, 2) := by decide +kernel
theorem dX6_init_469 : decode cX6_init 469 = .ok (.iastore, 1) := by decide +kernel
theorem dX6_init_470 : decode cX6_init 470 = .ok (.dup, 1) := by decide +kernel
theorem dX6_init_471 : decode cX6_init 471 = .ok (.bipush 60, 2) := by decide +kernel
theorem dX6_init_473 : decode cX6_init 473 = .ok (.ldc 113, 2) := by decide +kernel
theorem dX6_init_475 : decode cX6_init 475 = .ok (.iastore, 1) := by decide +kernel
theorem dX6_init_476 : decode cX6_init 476 = .ok (.dup, 1) := by decide +kernel
theorem dX6_init_477 : decode cX6_init 477 = .ok (.bipush 61, 2) := by decide +kernel
theorem dX6_init_479 : decode cX6_init 479 = .ok (.ldc 114, 2) := by decide +kernel
theorem dX6_init_481 : decode cX6_init 481 = .ok (.iastore, 1) := by decide +kernel
theorem dX6_init_482 : decode cX6_init 482 = .ok (.dup, 1) := by decide +kernel
theorem dX6_init_483 : decode cX6_init 483 = .ok (.bipush 62, 2) := by decide +kernel
theorem dX6_init_485 : decode cX6_init 485 = .ok (.ldc 115, 2) := by decide +kernel
theorem dX6_init_487 : decode cX6_init 487 = .ok (.iastore, 1) := by decide +kernel
theorem dX6_init_488 : decode cX6_init 488 = .ok (.dup, 1) := by decide +kernel
theorem dX6_init_489 : decode cX6_init 489 = .ok (.bipush 63, 2) := by decide +kernel
theorem dX6_init_491 : decode cX6_init 491 = .ok (.ldc 116, 2) := by decide +kernel
theorem dX6_init_493 : decode cX6_init 493 = .ok (.iastore, 1) := by decide +kernel
theorem dX6_init_494 : decode cX6_init 494 = .ok (.putfield 117, 3) := by decide +kernel
theorem dX6_init_497 : decode cX6_init 497 = .ok (.aload_n 0, 1) := by decide +kernel
theorem dX6_init_498 : decode cX6_init 498 = .ok (.bipush 16, 2) := by decide +kernel
theorem dX6_init_500 : decode cX6_init 500 = .ok (.newarray .int, 2) := by decide +kernel
theorem dX6_init_502 : decode cX6_init 502 = .ok (.dup, 1) := by decide +kernel
theorem dX6_init_503 : decode cX6_init 503 = .ok (.iconst 0, 1) := by decide +kernel
theorem dX6_init_504 : decode cX6_init 504 = .ok (.bipush 7, 2) := by decide +kernel
theorem dX6_init_506 : decode cX6_init 506 = .ok (.iastore, 1) := by decide +kernel
theorem dX6_init_507 : decode cX6_init 507 = .ok (.dup, 1) := by decide +kernel
theorem dX6_init_508 : decode cX6_init 508 = .ok (.iconst 1, 1) := by decide +kernel
theorem dX6_init_509 : decode cX6_init 509 = .ok (.bipush 12, 2) := by decide +kernel
theorem dX6_init_511 : decode cX6_init 511 = .ok (.iastore, 1) := by decide +kernel
theorem dX6_init_512 : decode cX6_init 512 = .ok (.dup, 1) := by decide +kernel
theorem dX6_init_513 : decode cX6_init 513 = .ok (.iconst 2, 1) := by decide +kernel
theorem dX6_init_514 : decode cX6_init 514 = .ok (.bipush 17, 2) := by decide +kernel
theorem dX6_init_516 : decode cX6_init 516 = .ok (.iastore, 1) := by decide +kernel
theorem dX6_init_517 : decode cX6_init 517 = .ok (.dup, 1) := by decide +kernel
theorem dX6_init_518 : decode cX6_init 518 = .ok (.iconst 3, 1) := by decide +kernel
theorem dX6_init_519 : decode cX6_init 519 = .ok (.bipush 22, 2) := by decide +kernel
theorem dX6_init_521 : decode cX6_init 521 = .ok (.iastore, 1) := by decide +kernel
theorem dX6_init_522 : decode cX6_init 522 = .ok (.dup, 1) := by decide +kernel
theorem dX6_init_523 : decode cX6_init 523 = .ok (.iconst 4, 1) := by decide +kernel
theorem dX6_init_524 : decode cX6_init 524 = .ok (.iconst 5, 1) := by decide +kernel
theorem dX6_init_525 : decode cX6_init 525 = .ok (.iastore, 1) := by decide +kernel
theorem dX6_init_526 : decode cX6_init 526 = .ok (.dup, 1) := by decide +kernel
theorem dX6_init_527 : decode cX6_init 527 = .ok (.iconst 5, 1) := by decide +kernel
theorem dX6_init_528 : decode cX6_init 528 = .ok (.bipush 9, 2) := by decide +kernel
theorem dX6_init_530 : decode cX6_init 530 = .ok (.iastore, 1) := by decide +kernel
theorem dX6_init_531 : decode cX6_init 531 = .ok (.dup, 1) := by decide +kernel
theorem dX6_init_532 : decode cX6_init 532 = .ok (.bipush 6, 2) := by decide +kernel
theorem dX6_init_534 : decode cX6_init 534 = .ok (.bipush 14, 2) := by decide +kernel
theorem dX6_init_536 : decode cX6_init 536 = .ok (.iastore, 1) := by decide +kernel
theorem dX6_init_537 : decode cX6_init 537 = .ok (.dup, 1) := by decide +kernel
theorem dX6_init_538 : decode cX6_init 538 = .ok (.bipush 7, 2) := by decide +kernel
theorem dX6_init_540 : decode cX6_init 540 = .ok (.bipush 20, 2) := by decide +kernel
theorem dX6_init_542 : decode cX6_init 542 = .ok (.iastore, 1) := by decide +kernel
theorem dX6_init_543 : decode cX6_init 543 = .ok (.dup, 1) := by decide +kernel
theorem dX6_init_544 : decode cX6_init 544 = .ok (.bipush 8, 2) := by decide +kernel
theorem dX6_init_546 : decode cX6_init 546 = .ok (.iconst 4, 1) := by decide +kernel
theorem dX6_init_547 : decode cX6_init 547 = .ok (.iastore, 1) := by decide +kernel
theorem dX6_init_548 : decode cX6_init 548 = .ok (.dup, 1) := by decide +kernel
theorem dX6_init_549 : decode cX6_init 549 = .ok (.bipush 9, 2) := by decide +kernel
theorem dX6_init_551 : decode cX6_init 551 = .ok (.bipush 11, 2) := by decide +kernel
theorem dX6_init_553 : decode cX6_init 553 = .ok (.iastore, 1) := by decide +kernel
theorem dX6_init_554 : decode cX6_init 554 = .ok (.dup, 1) := by decide +kernel
theorem dX6_init_555 : decode cX6_init 555 = .ok (.bipush 10, 2) := by decide +kernel
theorem dX6_init_557 : decode cX6_init 557 = .ok (.bipush 16, 2) := by decide +kernel
theorem dX6_init_559 : decode cX6_init 559 = .ok (.iastore, 1) := by decide +kernel
theorem dX6_init_560 : decode cX6_init 560 = .ok (.dup, 1) := by decide +kernel
theorem dX6_init_561 : decode cX6_init 561 = .ok (.bipush 11, 2) := by decide +kernel
theorem dX6_init_563 : decode cX6_init 563 = .ok (.bipush 23, 2) := by decide +kernel
theorem dX6_init_565 : decode cX6_init 565 = .ok (.iastore, 1) := by decide +kernel
theorem dX6_init_566 : decode cX6_init 566 = .ok (.dup, 1) := by decide +kernel
theorem dX6_init_567 : decode cX6_init 567 = .ok (.bipush 12, 2) := by decide +kernel
theorem dX6_init_569 : decode cX6_init 569 = .ok (.bipush 6, 2) := by decide +kernel
theorem dX6_init_571 : decode cX6_init 571 = .ok (.iastore, 1) := by decide +kernel
theorem dX6_init_572 : decode cX6_init 572 = .ok (.dup, 1) := by decide +kernel
theorem dX6_init_573 : decode cX6_init 573 = .ok (.bipush 13, 2) := by decide +kernel
theorem dX6_init_575 : decode cX6_init 575 = .ok (.bipush 10, 2) := by decide +kernel
theorem dX6_init_577 : decode cX6_init 577 = .ok (.iastore, 1) := by decide +kernel
theorem dX6_init_578 : decode cX6_init 578 = .ok (.dup, 1) := by decide +kernel
theorem dX6_init_579 : decode cX6_init 579 = .ok (.bipush 14, 2) := by decide +kernel
theorem dX6_init_581 : decode cX6_init 581 = .ok (.bipush 15, 2) := by decide +kernel
theorem dX6_init_583 : decode cX6_init 583 = .ok (.iastore, 1) := by decide +kernel
theorem dX6_init_584 : decode cX6_init 584 = .ok (.dup, 1) := by decide +kernel
theorem dX6_init_585 : decode cX6_init 585 = .ok (.bipush 15, 2) := by decide +kernel
theorem dX6_init_587 : decode cX6_init 587 = .ok (.bipush 21, 2) := by decide +kernel
theorem dX6_init_589 : decode cX6_init 589 = .ok (.iastore, 1) := by decide +kernel
theorem dX6_init_590 : decode cX6_init 590 = .ok (.putfield 120, 3) := by decide +kernel
theorem dX6_init_593 : decode cX6_init 593 = .ok (.aload_n 0, 1) := by decide +kernel
theorem dX6_init_594 : decode cX6_init 594 = .ok (.bipush 32, 2) := by decide +kernel
theorem dX6_init_596 : decode cX6_init 596 = .ok (.newarray .int, 2) := by decide +kernel
theorem dX6_init_598 : decode cX6_init 598 = .ok (.dup, 1) := by decide +kernel
theorem dX6_init_599 : decode cX6_init 599 = .ok (.iconst 0, 1) := by decide +kernel
theorem dX6_init_600 : decode cX6_init 600 = .ok (.bipush 40, 2) := by decide +kernel
theorem dX6_init_602 : decode cX6_init 602 = .ok (.iastore, 1) := by decide +kernel
theorem dX6_init_603 : decode cX6_init 603 = .ok (.dup, 1) := by decide +kernel
theorem dX6_init_604 : decode cX6_init 604 = .ok (.iconst 1, 1) := by decide +kernel
theorem dX6_init_605 : decode cX6_init 605 = .ok (.sipush 191, 3) := by decide +kernel
theorem dX6_init_608 : decode cX6_init 608 = .ok (.iastore, 1) := by decide +kernel
theorem dX6_init_609 : decode cX6_init 609 = .ok (.dup, 1) := by decide +kernel
theorem dX6_init_610 : decode cX6_init 610 = .ok (.iconst 2, 1) := by decide +kernel
theorem dX6_init_611 : decode cX6_init 611 = .ok (.bipush 78, 2) := by decide +kernel
theorem dX6_init_613 : decode cX6_init 613 = .ok (.iastore, 1) := by decide +kernel
theorem dX6_init_614 : decode cX6_init 614 = .ok (.dup, 1) := by decide +kernel
theorem dX6_init_615 : decode cX6_init 615 = .ok (.iconst 3, 1) := by decide +kernel
theorem dX6_init_616 : decode cX6_init 616 = .ok (.bipush 94, 2) := by decide +kernel
theorem dX6_init_618 : decode cX6_init 618 = .ok (.iastore, 1) := by decide +kernel
theorem dX6_init_619 : decode cX6_init 619 = .ok (.dup, 1) := by decide +kernel
theorem dX6_init_620 : decode cX6_init 620 = .ok (.iconst 4, 1) := by decide +kernel
theorem dX6_init_621 : decode cX6_init 621 = .ok (.bipush 78, 2) := by decide +kernel
theorem dX6_init_623 : decode cX6_init 623 = .ok (.iastore, 1) := by decide +kernel
theorem dX6_init_624 : decode cX6_init 624 = .ok (.dup, 1) := by decide +kernel
theorem dX6_init_625 : decode cX6_init 625 = .ok (.iconst 5, 1) := by decide +kernel
theorem dX6_init_626 : decode cX6_init 626 = .ok (.bipush 117, 2) := by decide +kernel
theorem dX6_init_628 : decode cX6_init 628 = .ok (.iastore, 1) := by decide +kernel
theorem dX6_init_629 : decode cX6_init 629 = .ok (.dup, 1) := by decide +kernel
theorem dX6_init_630 : decode cX6_init 630 = .ok (.bipush 6, 2) := by decide +kernel
theorem dX6_init_632 : decode cX6_init 632 = .ok (.sipush 138, 3) := by decide +kernel
theorem dX6_init_635 : decode cX6_init 635 = .ok (.iastore, 1) := by decide +kernel
theorem dX6_init_636 : decode cX6_init 636 = .ok (.dup, 1) := by decide +kernel
theorem dX6_init_637 : decode cX6_init 637 = .ok (.bipush 7, 2) := by decide +kernel
theorem dX6_init_639 : decode cX6_init 639 = .ok (.bipush 65, 2) := by decide +kernel
theorem dX6_init_641 : decode cX6_init 641 = .ok (.iastore, 1) := by decide +kernel
theorem dX6_init_642 : decode cX6_init 642 = .ok (.dup, 1) := by decide +kernel
theorem dX6_init_643 : decode cX6_init 643 = .ok (.bipush 8, 2) := by decide +kernel
theorem dX6_init_645 : decode cX6_init 645 = .ok (.bipush 100, 2) := by decide +kernel
theorem dX6_init_647 : decode cX6_init 647 = .ok (.iastore, 1) := by decide +kernel
theorem dX6_init_648 : decode cX6_init 648 = .ok (.dup, 1) := by decide +kernel
theorem dX6_init_649 : decode cX6_init 649 = .ok (.bipush 9, 2) := by decide +kernel
theorem dX6_init_651 : decode cX6_init 651 = .ok (.iconst 0, 1) := by decide +kernel
theorem dX6_init_652 : decode cX6_init 652 = .ok (.iastore, 1) := by decide +kernel
theorem dX6_init_653 : decode cX6_init 653 = .ok (.dup, 1) := by decide +kernel
theorem dX6_init_654 : decode cX6_init 654 = .ok (.bipush 10, 2) := by decide +kernel
theorem dX6_init_656 : decode cX6_init 656 = .ok (.bipush 78, 2) := by decide +kernel
theorem dX6_init_658 : decode cX6_init 658 = .ok (.iastore, 1) := by decide +kernel
theorem dX6_init_659 : decode cX6_init 659 = .ok (.dup, 1) := by decide +kernel
theorem dX6_init_660 : decode cX6_init 660 = .ok (.bipush 11, 2) := by decide +kernel
theorem dX6_init_662 : decode cX6_init 662 = .ok (.bipush 86, 2) := by decide +kernel
theorem dX6_init_664 : decode cX6_init 664 = .ok (.iastore, 1) := by decide +kernel
theorem dX6_init_665 : decode cX6_init 665 = .ok (.dup, 1) := by decide +kernel
theorem dX6_init_666 : decode cX6_init 666 = .ok (.bipush 12, 2) := by decide +kernel
theorem dX6_init_668 : decode cX6_init 668 = .ok (.sipush 255, 3) := by decide +kernel
theorem dX6_init_671 : decode cX6_init 671 = .ok (.iastore, 1) := by decide +kernel
theorem dX6_init_672 : decode cX6_init 672 = .ok (.dup, 1) := by decide +kernel
theorem dX6_init_673 : decode cX6_init 673 = .ok (.bipush 13, 2) := by decide +kernel
theorem dX6_init_675 : decode cX6_init 675 = .ok (.sipush 250, 3) := by decide +kernel
theorem dX6_init_678 : decode cX6_init 678 = .ok (.iastore, 1) := by decide +kernel
theorem dX6_init_679 : decode cX6_init 679 = .ok (.dup, 1) := by decide +kernel
theorem dX6_init_680 : decode cX6_init 680 = .ok (.bipush 14, 2) := by decide +kernel
theorem dX6_init_682 : decode cX6_init 682 = .ok (.iconst 1, 1) := by decide +kernel
theorem dX6_init_683 : decode cX6_init 683 = .ok (.iastore, 1) := by decide +kernel
theorem dX6_init_684 : decode cX6_init 684 = .ok (.dup, 1) := by decide +kernel
theorem dX6_init_685 : decode cX6_init 685 = .ok (.bipush 15, 2) := by decide +kernel
theorem dX6_init_687 : decode cX6_init 687 = .ok (.bipush 8, 2) := by decide +kernel
theorem dX6_init_689 : decode cX6_init 689 = .ok (.iastore, 1) := by decide +kernel
theorem dX6_init_690 : decode cX6_init 690 = .ok (.dup, 1) := by decide +kernel
theorem dX6_init_691 : decode cX6_init 691 = .ok (.bipush 16, 2) := by decide +kernel
theorem dX6_init_693 : decode cX6_init 693 = .ok (.bipush 46, 2) := by decide +kernel
theorem dX6_init_695 : decode cX6_init 695 = .ok (.iastore, 1) := by decide +kernel
theorem dX6_init_696 : decode cX6_init 696 = .ok (.dup, 1) := by decide +kernel
theorem dX6_init_697 : decode cX6_init 697 = .ok (.bipush 17, 2) := by decide +kernel
theorem dX6_init_699 : decode cX6_init 699 = .ok (.bipush 46, 2) := by decide +kernel
theorem dX6_init_701 : decode cX6_init 701 = .ok (.iastore, 1) := by decide +kernel
theorem dX6_init_702 : decode cX6_init 702 = .ok (.dup, 1) := by decide +kernel
theorem dX6_init_703 : decode cX6_init 703 = .ok (.bipush 18, 2) := by decide +kernel
theorem dX6_init_705 : decode cX6_init 705 = .ok (.iconst 0, 1) := by decide +kernel
theorem dX6_init_706 : decode cX6_init 706 = .ok (.iastore, 1) := by decide +kernel
theorem dX6_init_707 : decode cX6_init 707 = .ok (.dup, 1) := by decide +kernel
theorem dX6_init_708 : decode cX6_init 708 = .ok (.bipush 19, 2) := by decide +kernel
theorem dX6_init_710 : decode cX6_init 710 = .ok (.sipush 182, 3) := by decide +kernel
theorem dX6_init_713 : decode cX6_init 713 = .ok (.iastore, 1) := by decide +kernel
theorem dX6_init_714 : decode cX6_init 714 = .ok (.dup, 1) := by decide +kernel
theorem dX6_init_715 : decode cX6_init 715 = .ok (.bipush 20, 2) := by decide +kernel
theorem dX6_init_717 : decode cX6_init 717 = .ok (.sipush 208, 3) := by decide +kernel
theorem dX6_init_720 : decode cX6_init 720 = .ok (.iastore, 1) := by decide +kernel
theorem dX6_init_721 : decode cX6_init 721 = .ok (.dup, 1) := by decide +kernel
theorem dX6_init_722 : decode cX6_init 722 = .ok (.bipush 21, 2) := by decide +kernel
theorem dX6_init_724 : decode cX6_init 724 = .ok (.bipush 104, 2) := by decide +kernel
theorem dX6_init_726 : decode cX6_init 726 = .ok (.iastore, 1) := by decide +kernel
theorem dX6_init_727 : decode cX6_init 727 = .ok (.dup, 1) := by decide +kernel
theorem dX6_init_728 : decode cX6_init 728 = .ok (.bipush 22, 2) := by decide +kernel
theorem dX6_init_730 : decode cX6_init 730 = .ok (.bipush 62, 2) := by decide +kernel
theorem dX6_init_732 : decode cX6_init 732 = .ok (.iastore, 1) := by decide +kernel
theorem dX6_init_733 : decode cX6_init 733 = .ok (.dup, 1) := by decide +kernel
theorem dX6_init_734 : decode cX6_init 734 = .ok (.bipush 23, 2) := by decide +kernel
theorem dX6_init_736 : decode cX6_init 736 = .ok (.sipush 128, 3) := by decide +kernel
theorem dX6_init_739 : decode cX6_init 739 = .ok (.iastore, 1) := by decide +kernel
theorem dX6_init_740 : decode cX6_init 740 = .ok (.dup, 1) := by decide +kernel
theorem dX6_init_741 : decode cX6_init 741 = .ok (.bipush 24, 2) := by decide +kernel
theorem dX6_init_743 : decode cX6_init 743 = .ok (.bipush 47, 2) := by decide +kernel
theorem dX6_init_745 : decode cX6_init 745 = .ok (.iastore, 1) := by decide +kernel
theorem dX6_init_746 : decode cX6_init 746 = .ok (.dup, 1) := by decide +kernel
theorem dX6_init_747 : decode cX6_init 747 = .ok (.bipush 25, 2) := by decide +kernel
theorem dX6_init_749 : decode cX6_init 749 = .ok (.bipush 12, 2) := by decide +kernel
theorem dX6_init_751 : decode cX6_init 751 = .ok (.iastore, 1) := by decide +kernel
theorem dX6_init_752 : decode cX6_init 752 = .ok (.dup, 1) := by decide +kernel
theorem dX6_init_753 : decode cX6_init 753 = .ok (.bipush 26, 2) := by decide +kernel
theorem dX6_init_755 : decode cX6_init 755 = .ok (.sipush 169, 3) := by decide +kernel
theorem dX6_init_758 : decode cX6_init 758 = .ok (.iastore, 1) := by decide +kernel
theorem dX6_init_759 : decode cX6_init 759 = .ok (.dup, 1) := by decide +kernel
theorem dX6_init_760 : decode cX6_init 760 = .ok (.bipush 27, 2) := by decide +kernel
theorem dX6_init_762 : decode cX6_init 762 = .ok (.sipush 254, 3) := by decide +kernel
theorem dX6_init_765 : decode cX6_init 765 = .ok (.iastore, 1) := by decide +kernel
theorem dX6_init_766 : decode cX6_init 766 = .ok (.dup, 1) := by decide +kernel
theorem dX6_init_767 : decode cX6_init 767 = .ok (.bipush 28, 2) := by decide +kernel
theorem dX6_init_769 : decode cX6_init 769 = .ok (.bipush 100, 2) := by decide +kernel
theorem dX6_init_771 : decode cX6_init 771 = .ok (.iastore, 1) := by decide +kernel
theorem dX6_init_772 : decode cX6_init 772 = .ok (.dup, 1) := by decide +kernel
theorem dX6_init_773 : decode cX6_init 773 = .ok (.bipush 29, 2) := by decide +kernel
theorem dX6_init_775 : decode cX6_init 775 = .ok (.bipush 83, 2) := by decide +kernel
theorem dX6_init_777 : decode cX6_init 777 = .ok (.iastore, 1) := by decide +kernel
theorem dX6_init_778 : decode cX6_init 778 = .ok (.dup, 1) := by decide +kernel
theorem dX6_init_779 : decode cX6_init 779 = .ok (.bipush 30, 2) := by decide +kernel
theorem dX6_init_781 : decode cX6_init 781 = .ok (.bipush 105, 2) := by decide +kernel
theorem dX6_init_783 : decode cX6_init 783 = .ok (.iastore, 1) := by decide +kernel
theorem dX6_init_784 : decode cX6_init 784 = .ok (.dup, 1) := by decide +kernel
theorem dX6_init_785 : decode cX6_init 785 = .ok (.bipush 31, 2) := by decide +kernel
theorem dX6_init_787 : decode cX6_init 787 = .ok (.bipush 122, 2) := by decide +kernel
theorem dX6_init_789 : decode cX6_init 789 = .ok (.iastore, 1) := by decide +kernel
theorem dX6_init_790 : decode cX6_init 790 = .ok (.putfield 123, 3) := by decide +kernel
theorem dX6_init_793 : decode cX6_init 793 = .ok (.aload_n 0, 1) := by decide +kernel
theorem dX6_init_794 : decode cX6_init 794 = .ok (.bipush 16, 2) := by decide +kernel
theorem dX6_init_796 : decode cX6_init 796 = .ok (.newarray .int, 2) := by decide +kernel
theorem dX6_init_798 : decode cX6_init 798 = .ok (.putfield 126, 3) := by decide +kernel
theorem dX6_init_801 : decode cX6_init 801 = .ok (.aload_n 0, 1) := by decide +kernel
theorem dX6_init_802 : decode cX6_init 802 = .ok (.sipush 256, 3) := by decide +kernel
theorem dX6_init_805 : decode cX6_init 805 = .ok (.newarray .int, 2) := by decide +kernel
theorem dX6_init_807 : decode cX6_init 807 = .ok (.putfield 129, 3) := by decide +kernel
theorem dX6_init_810 : decode cX6_init 810 = .ok (.aload_n 0, 1) := by decide +kernel
theorem dX6_init_811 : decode cX6_init 811 = .ok (.bipush 32, 2) := by decide +kernel
theorem dX6_init_813 : decode cX6_init 813 = .ok (.newarray .int, 2) := by decide +kernel
theorem dX6_init_815 : decode cX6_init 815 = .ok (.putfield 132, 3) := by decide +kernel
theorem dX6_init_818 : decode cX6_init 818 = .ok (.aload_n 0, 1) := by decide +kernel
theorem dX6_init_819 : decode cX6_init 819 = .ok (.bipush 32, 2) := by decide +kernel
theorem dX6_init_821 : decode cX6_init 821 = .ok (.newarray .int, 2) := by decide +kernel
theorem dX6_init_823 : decode cX6_init 823 = .ok (.putfield 135, 3) := by decide +kernel
theorem dX6_init_826 : decode cX6_init 826 = .ok (.aload_n 0, 1) := by decide +kernel
theorem dX6_init_827 : decode cX6_init 827 = .ok (.sipush 176, 3) := by decide +kernel
theorem dX6_init_830 : decode cX6_init 830 = .ok (.newarray .int, 2) := by decide +kernel
theorem dX6_init_832 : decode cX6_init 832 = .ok (.putfield 138, 3) := by decide +kernel
theorem dX6_init_835 : decode cX6_init 835 = .ok (.aload_n 0, 1) := by decide +kernel
theorem dX6_init_836 : decode cX6_init 836 = .ok (.bipush 16, 2) := by decide +kernel
theorem dX6_init_838 : decode cX6_init 838 = .ok (.newarray .int, 2) := by decide +kernel
theorem dX6_init_840 : decode cX6_init 840 = .ok (.putfield 141, 3) := by decide +kernel
theorem dX6_init_843 : decode cX6_init 843 = .ok (.aload_n 0, 1) := by decide +kernel
theorem dX6_init_844 : decode cX6_init 844 = .ok (.bipush 16, 2) := by decide +kernel
theorem dX6_init_846 : decode cX6_init 846 = .ok (.newarray .int, 2) := by decide +kernel
theorem dX6_init_848 : decode cX6_init 848 = .ok (.putfield 144, 3) := by decide +kernel
theorem dX6_init_851 : decode cX6_init 851 = .ok (.aload_n 0, 1) := by decide +kernel
theorem dX6_init_852 : decode cX6_init 852 = .ok (.sipush 256, 3) := by decide +kernel
theorem dX6_init_855 : decode cX6_init 855 = .ok (.newarray .int, 2) := by decide +kernel
theorem dX6_init_857 : decode cX6_init 857 = .ok (.putfield 147, 3) := by decide +kernel
theorem dX6_init_860 : decode cX6_init 860 = .ok (.aload_n 0, 1) := by decide +kernel
theorem dX6_init_861 : decode cX6_init 861 = .ok (.sipush 256, 3) := by decide +kernel
theorem dX6_init_864 : decode cX6_init 864 = .ok (.newarray .int, 2) := by decide +kernel
theorem dX6_init_866 : decode cX6_init 866 = .ok (.putfield 150, 3) := by decide +kernel
theorem dX6_init_869 : decode cX6_init 869 = .ok (.return_, 1) := by decide +kernel
theorem dX6_thrown_0 : decode cX6_thrown 0 = .ok (.aload_n 0, 1) := by decide +kernel
theorem dX6_thrown_1 : decode cX6_thrown 1 = .ok (.getfield 153, 3) := by decide +kernel
theorem dX6_thrown_4 : decode cX6_thrown 4 = .ok (.ireturn, 1) := by decide +kernel
theorem dX6_refused_0 : decode cX6_refused 0 = .ok (.aload_n 0, 1) := by decide +kernel
theorem dX6_refused_1 : decode cX6_refused 1 = .ok (.iload_n 1, 1) := by decide +kernel
theorem dX6_refused_2 : decode cX6_refused 2 = .ok (.putfield 153, 3) := by decide +kernel
theorem dX6_refused_5 : decode cX6_refused 5 = .ok (.iload_n 1, 1) := by decide +kernel
theorem dX6_refused_6 : decode cX6_refused 6 = .ok (.ifCond .le 7, 3) := by decide +kernel
theorem dX6_refused_9 : decode cX6_refused 9 = .ok (.iconst 1, 1) := by decide +kernel
theorem dX6_refused_10 : decode cX6_refused 10 = .ok (.goto 4, 3) := by decide +kernel
theorem dX6_refused_13 : decode cX6_refused 13 = .ok (.iconst 0, 1) := by decide +kernel
theorem dX6_refused_14 : decode cX6_refused 14 = .ok (.ireturn, 1) := by decide +kernel
theorem dX6_feed_0 : decode cX6_feed 0 = .ok (.aload_n 0, 1) := by decide +kernel
theorem dX6_feed_1 : decode cX6_feed 1 = .ok (.iconst 0, 1) := by decide +kernel
theorem dX6_feed_2 : decode cX6_feed 2 = .ok (.putfield 153, 3) := by decide +kernel
theorem dX6_feed_5 : decode cX6_feed 5 = .ok (.aload_n 0, 1) := by decide +kernel
theorem dX6_feed_6 : decode cX6_feed 6 = .ok (.getfield 156, 3) := by decide +kernel
theorem dX6_feed_9 : decode cX6_feed 9 = .ok (.bipush 20, 2) := by decide +kernel
theorem dX6_feed_11 : decode cX6_feed 11 = .ok (.iadd, 1) := by decide +kernel
theorem dX6_feed_12 : decode cX6_feed 12 = .ok (.sipush 16384, 3) := by decide +kernel
theorem dX6_feed_15 : decode cX6_feed 15 = .ok (.if_icmp .le 5, 3) := by decide +kernel
theorem dX6_feed_18 : decode cX6_feed 18 = .ok (.iconst (-1), 1) := by decide +kernel
theorem dX6_feed_19 : decode cX6_feed 19 = .ok (.ireturn, 1) := by decide +kernel
theorem dX6_feed_20 : decode cX6_feed 20 = .ok (.iconst 0, 1) := by decide +kernel
theorem dX6_feed_21 : decode cX6_feed 21 = .ok (.istore 6, 2) := by decide +kernel
theorem dX6_feed_23 : decode cX6_feed 23 = .ok (.iload 6, 2) := by decide +kernel
theorem dX6_feed_25 : decode cX6_feed 25 = .ok (.bipush 20, 2) := by decide +kernel
theorem dX6_feed_27 : decode cX6_feed 27 = .ok (.if_icmp .ge 93, 3) := by decide +kernel
theorem dX6_feed_30 : decode cX6_feed 30 = .ok (.iload 6, 2) := by decide +kernel
theorem dX6_feed_32 : decode cX6_feed 32 = .ok (.iconst 4, 1) := by decide +kernel
theorem dX6_feed_33 : decode cX6_feed 33 = .ok (.if_icmp .ge 7, 3) := by decide +kernel
theorem dX6_feed_36 : decode cX6_feed 36 = .ok (.iload_n 1, 1) := by decide +kernel
theorem dX6_feed_37 : decode cX6_feed 37 = .ok (.goto 39, 3) := by decide +kernel
theorem dX6_feed_40 : decode cX6_feed 40 = .ok (.iload 6, 2) := by decide +kernel
theorem dX6_feed_42 : decode cX6_feed 42 = .ok (.bipush 8, 2) := by decide +kernel
theorem dX6_feed_44 : decode cX6_feed 44 = .ok (.if_icmp .ge 7, 3) := by decide +kernel
theorem dX6_feed_47 : decode cX6_feed 47 = .ok (.iload_n 2, 1) := by decide +kernel
theorem dX6_feed_48 : decode cX6_feed 48 = .ok (.goto 28, 3) := by decide +kernel
theorem dX6_feed_51 : decode cX6_feed 51 = .ok (.iload 6, 2) := by decide +kernel
theorem dX6_feed_53 : decode cX6_feed 53 = .ok (.bipush 12, 2) := by decide +kernel
theorem dX6_feed_55 : decode cX6_feed 55 = .ok (.if_icmp .ge 7, 3) := by decide +kernel
theorem dX6_feed_58 : decode cX6_feed 58 = .ok (.iload_n 3, 1) := by decide +kernel
theorem dX6_feed_59 : decode cX6_feed 59 = .ok (.goto 17, 3) := by decide +kernel
theorem dX6_feed_62 : decode cX6_feed 62 = .ok (.iload 6, 2) := by decide +kernel
theorem dX6_feed_64 : decode cX6_feed 64 = .ok (.bipush 16, 2) := by decide +kernel
theorem dX6_feed_66 : decode cX6_feed 66 = .ok (.if_icmp .ge 8, 3) := by decide +kernel
theorem dX6_feed_69 : decode cX6_feed 69 = .ok (.iload 4, 2) := by decide +kernel
theorem dX6_feed_71 : decode cX6_feed 71 = .ok (.goto 5, 3) := by decide +kernel
theorem dX6_feed_74 : decode cX6_feed 74 = .ok (.iload 5, 2) := by decide +kernel
theorem dX6_feed_76 : decode cX6_feed 76 = .ok (.istore 7, 2) := by decide +kernel
theorem dX6_feed_78 : decode cX6_feed 78 = .ok (.aload_n 0, 1) := by decide +kernel
theorem dX6_feed_79 : decode cX6_feed 79 = .ok (.getfield 7, 3) := by decide +kernel
theorem dX6_feed_82 : decode cX6_feed 82 = .ok (.aload_n 0, 1) := by decide +kernel
theorem dX6_feed_83 : decode cX6_feed 83 = .ok (.getfield 156, 3) := by decide +kernel
theorem dX6_feed_86 : decode cX6_feed 86 = .ok (.iload 7, 2) := by decide +kernel
theorem dX6_feed_88 : decode cX6_feed 88 = .ok (.bipush 24, 2) := by decide +kernel
theorem dX6_feed_90 : decode cX6_feed 90 = .ok (.bipush 8, 2) := by decide +kernel
theorem dX6_feed_92 : decode cX6_feed 92 = .ok (.iload 6, 2) := by decide +kernel
theorem dX6_feed_94 : decode cX6_feed 94 = .ok (.iconst 4, 1) := by decide +kernel
theorem dX6_feed_95 : decode cX6_feed 95 = .ok (.irem, 1) := by decide +kernel
theorem dX6_feed_96 : decode cX6_feed 96 = .ok (.imul, 1) := by decide +kernel
theorem dX6_feed_97 : decode cX6_feed 97 = .ok (.isub, 1) := by decide +kernel
theorem dX6_feed_98 : decode cX6_feed 98 = .ok (.ishr, 1) := by decide +kernel
theorem dX6_feed_99 : decode cX6_feed 99 = .ok (.sipush 255, 3) := by decide +kernel
theorem dX6_feed_102 : decode cX6_feed 102 = .ok (.iand, 1) := by decide +kernel
theorem dX6_feed_103 : decode cX6_feed 103 = .ok (.iastore, 1) := by decide +kernel
theorem dX6_feed_104 : decode cX6_feed 104 = .ok (.aload_n 0, 1) := by decide +kernel
theorem dX6_feed_105 : decode cX6_feed 105 = .ok (.dup, 1) := by decide +kernel
theorem dX6_feed_106 : decode cX6_feed 106 = .ok (.getfield 156, 3) := by decide +kernel
theorem dX6_feed_109 : decode cX6_feed 109 = .ok (.iconst 1, 1) := by decide +kernel
theorem dX6_feed_110 : decode cX6_feed 110 = .ok (.iadd, 1) := by decide +kernel
theorem dX6_feed_111 : decode cX6_feed 111 = .ok (.putfield 156, 3) := by decide +kernel
theorem dX6_feed_114 : decode cX6_feed 114 = .ok (.iinc 6 1, 3) := by decide +kernel
theorem dX6_feed_117 : decode cX6_feed 117 = .ok (.goto (-94), 3) := by decide +kernel
theorem dX6_feed_120 : decode cX6_feed 120 = .ok (.aload_n 0, 1) := by decide +kernel
theorem dX6_feed_121 : decode cX6_feed 121 = .ok (.getfield 156, 3) := by decide +kernel
theorem dX6_feed_124 : decode cX6_feed 124 = .ok (.ireturn, 1) := by decide +kernel
theorem dX6_put_0 : decode cX6_put 0 = .ok (.aload_n 0, 1) := by decide +kernel
theorem dX6_put_1 : decode cX6_put 1 = .ok (.iload_n 1, 1) := by decide +kernel
theorem dX6_put_2 : decode cX6_put 2 = .ok (.ifCond .lt 11, 3) := by decide +kernel
theorem dX6_put_5 : decode cX6_put 5 = .ok (.iload_n 1, 1) := by decide +kernel
theorem dX6_put_6 : decode cX6_put 6 = .ok (.aload_n 0, 1) := by decide +kernel
theorem dX6_put_7 : decode cX6_put 7 = .ok (.getfield 156, 3) := by decide +kernel
theorem dX6_put_10 : decode cX6_put 10 = .ok (.if_icmp .lt 7, 3) := by decide +kernel
theorem dX6_put_13 : decode cX6_put 13 = .ok (.iconst 1, 1) := by decide +kernel
theorem dX6_put_14 : decode cX6_put 14 = .ok (.goto 19, 3) := by decide +kernel
theorem dX6_put_17 : decode cX6_put 17 = .ok (.iload_n 2, 1) := by decide +kernel
theorem dX6_put_18 : decode cX6_put 18 = .ok (.ifCond .lt 10, 3) := by decide +kernel
theorem dX6_put_21 : decode cX6_put 21 = .ok (.iload_n 2, 1) := by decide +kernel
theorem dX6_put_22 : decode cX6_put 22 = .ok (.sipush 255, 3) := by decide +kernel
theorem dX6_put_25 : decode cX6_put 25 = .ok (.if_icmp .le 7, 3) := by decide +kernel
theorem dX6_put_28 : decode cX6_put 28 = .ok (.iconst 2, 1) := by decide +kernel
theorem dX6_put_29 : decode cX6_put 29 = .ok (.goto 4, 3) := by decide +kernel
theorem dX6_put_32 : decode cX6_put 32 = .ok (.iconst 0, 1) := by decide +kernel
theorem dX6_put_33 : decode cX6_put 33 = .ok (.invokevirtual 159, 3) := by decide +kernel
theorem dX6_put_36 : decode cX6_put 36 = .ok (.ifCond .eq 5, 3) := by decide +kernel
theorem dX6_put_39 : decode cX6_put 39 = .ok (.iconst 0, 1) := by decide +kernel
theorem dX6_put_40 : decode cX6_put 40 = .ok (.ireturn, 1) := by decide +kernel
theorem dX6_put_41 : decode cX6_put 41 = .ok (.aload_n 0, 1) := by decide +kernel
theorem dX6_put_42 : decode cX6_put 42 = .ok (.getfield 7, 3) := by decide +kernel
theorem dX6_put_45 : decode cX6_put 45 = .ok (.iload_n 1, 1) := by decide +kernel
theorem dX6_put_46 : decode cX6_put 46 = .ok (.iaload, 1) := by decide +kernel
theorem dX6_put_47 : decode cX6_put 47 = .ok (.istore_n 3, 1) := by decide +kernel
theorem dX6_put_48 : decode cX6_put 48 = .ok (.aload_n 0, 1) := by decide +kernel
theorem dX6_put_49 : decode cX6_put 49 = .ok (.getfield 7, 3) := by decide +kernel
theorem dX6_put_52 : decode cX6_put 52 = .ok (.iload_n 1, 1) := by decide +kernel
theorem dX6_put_53 : decode cX6_put 53 = .ok (.iload_n 2, 1) := by decide +kernel
theorem dX6_put_54 : decode cX6_put 54 = .ok (.iastore, 1) := by decide +kernel
theorem dX6_put_55 : decode cX6_put 55 = .ok (.iload_n 3, 1) := by decide +kernel
theorem dX6_put_56 : decode cX6_put 56 = .ok (.ireturn, 1) := by decide +kernel
theorem dX6_cut_0 : decode cX6_cut 0 = .ok (.aload_n 0, 1) := by decide +kernel
theorem dX6_cut_1 : decode cX6_cut 1 = .ok (.iload_n 1, 1) := by decide +kernel
theorem dX6_cut_2 : decode cX6_cut 2 = .ok (.ifCond .ge 7, 3) := by decide +kernel
theorem dX6_cut_5 : decode cX6_cut 5 = .ok (.iconst 1, 1) := by decide +kernel
theorem dX6_cut_6 : decode cX6_cut 6 = .ok (.goto 4, 3) := by decide +kernel
theorem dX6_cut_9 : decode cX6_cut 9 = .ok (.iconst 0, 1) := by decide +kernel
theorem dX6_cut_10 : decode cX6_cut 10 = .ok (.invokevirtual 159, 3) := by decide +kernel
theorem dX6_cut_13 : decode cX6_cut 13 = .ok (.ifCond .eq 5, 3) := by decide +kernel
theorem dX6_cut_16 : decode cX6_cut 16 = .ok (.iconst 0, 1) := by decide +kernel
theorem dX6_cut_17 : decode cX6_cut 17 = .ok (.ireturn, 1) := by decide +kernel
theorem dX6_cut_18 : decode cX6_cut 18 = .ok (.aload_n 0, 1) := by decide +kernel
theorem dX6_cut_19 : decode cX6_cut 19 = .ok (.getfield 156, 3) := by decide +kernel
theorem dX6_cut_22 : decode cX6_cut 22 = .ok (.iload_n 1, 1) := by decide +kernel
theorem dX6_cut_23 : decode cX6_cut 23 = .ok (.if_icmp .le 12, 3) := by decide +kernel
theorem dX6_cut_26 : decode cX6_cut 26 = .ok (.aload_n 0, 1) := by decide +kernel
theorem dX6_cut_27 : decode cX6_cut 27 = .ok (.getfield 156, 3) := by decide +kernel
theorem dX6_cut_30 : decode cX6_cut 30 = .ok (.iload_n 1, 1) := by decide +kernel
theorem dX6_cut_31 : decode cX6_cut 31 = .ok (.isub, 1) := by decide +kernel
theorem dX6_cut_32 : decode cX6_cut 32 = .ok (.goto 4, 3) := by decide +kernel
theorem dX6_cut_35 : decode cX6_cut 35 = .ok (.iconst 0, 1) := by decide +kernel
theorem dX6_cut_36 : decode cX6_cut 36 = .ok (.istore_n 2, 1) := by decide +kernel
theorem dX6_cut_37 : decode cX6_cut 37 = .ok (.aload_n 0, 1) := by decide +kernel
theorem dX6_cut_38 : decode cX6_cut 38 = .ok (.aload_n 0, 1) := by decide +kernel
theorem dX6_cut_39 : decode cX6_cut 39 = .ok (.getfield 156, 3) := by decide +kernel
theorem dX6_cut_42 : decode cX6_cut 42 = .ok (.iload_n 2, 1) := by decide +kernel
theorem dX6_cut_43 : decode cX6_cut 43 = .ok (.isub, 1) := by decide +kernel
theorem dX6_cut_44 : decode cX6_cut 44 = .ok (.putfield 156, 3) := by decide +kernel
theorem dX6_cut_47 : decode cX6_cut 47 = .ok (.iload_n 2, 1) := by decide +kernel
theorem dX6_cut_48 : decode cX6_cut 48 = .ok (.ireturn, 1) := by decide +kernel
theorem dX6_say_0 : decode cX6_say 0 = .ok (.aload_n 0, 1) := by decide +kernel
theorem dX6_say_1 : decode cX6_say 1 = .ok (.getfield 44, 3) := by decide +kernel
theorem dX6_say_4 : decode cX6_say 4 = .ok (.aload_n 0, 1) := by decide +kernel
theorem dX6_say_5 : decode cX6_say 5 = .ok (.getfield 163, 3) := by decide +kernel
theorem dX6_say_8 : decode cX6_say 8 = .ok (.iload_n 1, 1) := by decide +kernel
theorem dX6_say_9 : decode cX6_say 9 = .ok (.iastore, 1) := by decide +kernel
theorem dX6_say_10 : decode cX6_say 10 = .ok (.aload_n 0, 1) := by decide +kernel
theorem dX6_say_11 : decode cX6_say 11 = .ok (.dup, 1) := by decide +kernel
theorem dX6_say_12 : decode cX6_say 12 = .ok (.getfield 163, 3) := by decide +kernel
theorem dX6_say_15 : decode cX6_say 15 = .ok (.iconst 1, 1) := by decide +kernel
theorem dX6_say_16 : decode cX6_say 16 = .ok (.iadd, 1) := by decide +kernel
theorem dX6_say_17 : decode cX6_say 17 = .ok (.putfield 163, 3) := by decide +kernel
theorem dX6_say_20 : decode cX6_say 20 = .ok (.return_, 1) := by decide +kernel
theorem dX6_turned_0 : decode cX6_turned 0 = .ok (.iload_n 0, 1) := by decide +kernel
theorem dX6_turned_1 : decode cX6_turned 1 = .ok (.iload_n 1, 1) := by decide +kernel
theorem dX6_turned_2 : decode cX6_turned 2 = .ok (.ishl, 1) := by decide +kernel
theorem dX6_turned_3 : decode cX6_turned 3 = .ok (.iload_n 0, 1) := by decide +kernel
theorem dX6_turned_4 : decode cX6_turned 4 = .ok (.bipush 32, 2) := by decide +kernel
theorem dX6_turned_6 : decode cX6_turned 6 = .ok (.iload_n 1, 1) := by decide +kernel
theorem dX6_turned_7 : decode cX6_turned 7 = .ok (.isub, 1) := by decide +kernel
theorem dX6_turned_8 : decode cX6_turned 8 = .ok (.iushr, 1) := by decide +kernel
theorem dX6_turned_9 : decode cX6_turned 9 = .ok (.ior, 1) := by decide +kernel
theorem dX6_turned_10 : decode cX6_turned 10 = .ok (.ireturn, 1) := by decide +kernel
theorem dX6_word_0 : decode cX6_word 0 = .ok (.aload_n 0, 1) := by decide +kernel
theorem dX6_word_1 : decode cX6_word 1 = .ok (.getfield 44, 3) := by decide +kernel
theorem dX6_word_4 : decode cX6_word 4 = .ok (.iload_n 1, 1) := by decide +kernel
theorem dX6_word_5 : decode cX6_word 5 = .ok (.iaload, 1) := by decide +kernel
theorem dX6_word_6 : decode cX6_word 6 = .ok (.aload_n 0, 1) := by decide +kernel
theorem dX6_word_7 : decode cX6_word 7 = .ok (.getfield 44, 3) := by decide +kernel
theorem dX6_word_10 : decode cX6_word 10 = .ok (.iload_n 1, 1) := by decide +kernel
theorem dX6_word_11 : decode cX6_word 11 = .ok (.iconst 1, 1) := by decide +kernel
theorem dX6_word_12 : decode cX6_word 12 = .ok (.iadd, 1) := by decide +kernel
theorem dX6_word_13 : decode cX6_word 13 = .ok (.iaload, 1) := by decide +kernel
theorem dX6_word_14 : decode cX6_word 14 = .ok (.bipush 8, 2) := by decide +kernel
theorem dX6_word_16 : decode cX6_word 16 = .ok (.ishl, 1) := by decide +kernel
theorem dX6_word_17 : decode cX6_word 17 = .ok (.ior, 1) := by decide +kernel
theorem dX6_word_18 : decode cX6_word 18 = .ok (.aload_n 0, 1) := by decide +kernel
theorem dX6_word_19 : decode cX6_word 19 = .ok (.getfield 44, 3) := by decide +kernel
theorem dX6_word_22 : decode cX6_word 22 = .ok (.iload_n 1, 1) := by decide +kernel
theorem dX6_word_23 : decode cX6_word 23 = .ok (.iconst 2, 1) := by decide +kernel
theorem dX6_word_24 : decode cX6_word 24 = .ok (.iadd, 1) := by decide +kernel
theorem dX6_word_25 : decode cX6_word 25 = .ok (.iaload, 1) := by decide +kernel
theorem dX6_word_26 : decode cX6_word 26 = .ok (.bipush 16, 2) := by decide +kernel
theorem dX6_word_28 : decode cX6_word 28 = .ok (.ishl, 1) := by decide +kernel
theorem dX6_word_29 : decode cX6_word 29 = .ok (.ior, 1) := by decide +kernel
theorem dX6_word_30 : decode cX6_word 30 = .ok (.aload_n 0, 1) := by decide +kernel
theorem dX6_word_31 : decode cX6_word 31 = .ok (.getfield 44, 3) := by decide +kernel
theorem dX6_word_34 : decode cX6_word 34 = .ok (.iload_n 1, 1) := by decide +kernel
theorem dX6_word_35 : decode cX6_word 35 = .ok (.iconst 3, 1) := by decide +kernel
theorem dX6_word_36 : decode cX6_word 36 = .ok (.iadd, 1) := by decide +kernel
theorem dX6_word_37 : decode cX6_word 37 = .ok (.iaload, 1) := by decide +kernel
theorem dX6_word_38 : decode cX6_word 38 = .ok (.bipush 24, 2) := by decide +kernel
theorem dX6_word_40 : decode cX6_word 40 = .ok (.ishl, 1) := by decide +kernel
theorem dX6_word_41 : decode cX6_word 41 = .ok (.ior, 1) := by decide +kernel
theorem dX6_word_42 : decode cX6_word 42 = .ok (.ireturn, 1) := by decide +kernel
theorem dX6_digestBlock_0 : decode cX6_digestBlock 0 = .ok (.aload_n 0, 1) := by decide +kernel
theorem dX6_digestBlock_1 : decode cX6_digestBlock 1 = .ok (.getfield 50, 3) := by decide +kernel
theorem dX6_digestBlock_4 : decode cX6_digestBlock 4 = .ok (.iconst 0, 1) := by decide +kernel
theorem dX6_digestBlock_5 : decode cX6_digestBlock 5 = .ok (.iaload, 1) := by decide +kernel
theorem dX6_digestBlock_6 : decode cX6_digestBlock 6 = .ok (.istore_n 2, 1) := by decide +kernel
theorem dX6_digestBlock_7 : decode cX6_digestBlock 7 = .ok (.aload_n 0, 1) := by decide +kernel
theorem dX6_digestBlock_8 : decode cX6_digestBlock 8 = .ok (.getfield 50, 3) := by decide +kernel
theorem dX6_digestBlock_11 : decode cX6_digestBlock 11 = .ok (.iconst 1, 1) := by decide +kernel
theorem dX6_digestBlock_12 : decode cX6_digestBlock 12 = .ok (.iaload, 1) := by decide +kernel
theorem dX6_digestBlock_13 : decode cX6_digestBlock 13 = .ok (.istore_n 3, 1) := by decide +kernel
theorem dX6_digestBlock_14 : decode cX6_digestBlock 14 = .ok (.aload_n 0, 1) := by decide +kernel
theorem dX6_digestBlock_15 : decode cX6_digestBlock 15 = .ok (.getfield 50, 3) := by decide +kernel
theorem dX6_digestBlock_18 : decode cX6_digestBlock 18 = .ok (.iconst 2, 1) := by decide +kernel
theorem dX6_digestBlock_19 : decode cX6_digestBlock 19 = .ok (.iaload, 1) := by decide +kernel
theorem dX6_digestBlock_20 : decode cX6_digestBlock 20 = .ok (.istore 4, 2) := by decide +kernel
theorem dX6_digestBlock_22 : decode cX6_digestBlock 22 = .ok (.aload_n 0, 1) := by decide +kernel
theorem dX6_digestBlock_23 : decode cX6_digestBlock 23 = .ok (.getfield 50, 3) := by decide +kernel
theorem dX6_digestBlock_26 : decode cX6_digestBlock 26 = .ok (.iconst 3, 1) := by decide +kernel
theorem dX6_digestBlock_27 : decode cX6_digestBlock 27 = .ok (.iaload, 1) := by decide +kernel
theorem dX6_digestBlock_28 : decode cX6_digestBlock 28 = .ok (.istore 5, 2) := by decide +kernel
theorem dX6_digestBlock_30 : decode cX6_digestBlock 30 = .ok (.iconst 0, 1) := by decide +kernel
theorem dX6_digestBlock_31 : decode cX6_digestBlock 31 = .ok (.istore 6, 2) := by decide +kernel
theorem dX6_digestBlock_33 : decode cX6_digestBlock 33 = .ok (.iload 6, 2) := by decide +kernel
theorem dX6_digestBlock_35 : decode cX6_digestBlock 35 = .ok (.bipush 64, 2) := by decide +kernel
theorem dX6_digestBlock_37 : decode cX6_digestBlock 37 = .ok (.if_icmp .ge 196, 3) := by decide +kernel
theorem dX6_digestBlock_40 : decode cX6_digestBlock 40 = .ok (.iload 6, 2) := by decide +kernel
theorem dX6_digestBlock_42 : decode cX6_digestBlock 42 = .ok (.bipush 16, 2) := by decide +kernel
theorem dX6_digestBlock_44 : decode cX6_digestBlock 44 = .ok (.idiv, 1) := by decide +kernel
theorem dX6_digestBlock_45 : decode cX6_digestBlock 45 = .ok (.istore 7, 2) := by decide +kernel
theorem dX6_digestBlock_47 : decode cX6_digestBlock 47 = .ok (.iload 7, 2) := by decide +kernel
theorem dX6_digestBlock_49 : decode cX6_digestBlock 49 = .ok (.ifCond .ne 17, 3) := by decide +kernel
theorem dX6_digestBlock_52 : decode cX6_digestBlock 52 = .ok (.iload_n 3, 1) := by decide +kernel
theorem dX6_digestBlock_53 : decode cX6_digestBlock 53 = .ok (.iload 4, 2) := by decide +kernel
theorem dX6_digestBlock_55 : decode cX6_digestBlock 55 = .ok (.iand, 1) := by decide +kernel
theorem dX6_digestBlock_56 : decode cX6_digestBlock 56 = .ok (.iload_n 3, 1) := by decide +kernel
theorem dX6_digestBlock_57 : decode cX6_digestBlock 57 = .ok (.iconst (-1), 1) := by decide +kernel
theorem dX6_digestBlock_58 : decode cX6_digestBlock 58 = .ok (.ixor, 1) := by decide +kernel
theorem dX6_digestBlock_59 : decode cX6_digestBlock 59 = .ok (.iload 5, 2) := by decide +kernel
theorem dX6_digestBlock_61 : decode cX6_digestBlock 61 = .ok (.iand, 1) := by decide +kernel
theorem dX6_digestBlock_62 : decode cX6_digestBlock 62 = .ok (.ior, 1) := by decide +kernel
theorem dX6_digestBlock_63 : decode cX6_digestBlock 63 = .ok (.goto 49, 3) := by decide +kernel
theorem dX6_digestBlock_66 : decode cX6_digestBlock 66 = .ok (.iload 7, 2) := by decide +kernel
theorem dX6_digestBlock_68 : decode cX6_digestBlock 68 = .ok (.iconst 1, 1) := by decide +kernel
theorem dX6_digestBlock_69 : decode cX6_digestBlock 69 = .ok (.if_icmp .ne 18, 3) := by decide +kernel
theorem dX6_digestBlock_72 : decode cX6_digestBlock 72 = .ok (.iload 5, 2) := by decide +kernel
theorem dX6_digestBlock_74 : decode cX6_digestBlock 74 = .ok (.iload_n 3, 1) := by decide +kernel
theorem dX6_digestBlock_75 : decode cX6_digestBlock 75 = .ok (.iand, 1) := by decide +kernel
theorem dX6_digestBlock_76 : decode cX6_digestBlock 76 = .ok (.iload 5, 2) := by decide +kernel
theorem dX6_digestBlock_78 : decode cX6_digestBlock 78 = .ok (.iconst (-1), 1) := by decide +kernel
theorem dX6_digestBlock_79 : decode cX6_digestBlock 79 = .ok (.ixor, 1) := by decide +kernel
theorem dX6_digestBlock_80 : decode cX6_digestBlock 80 = .ok (.iload 4, 2) := by decide +kernel
theorem dX6_digestBlock_82 : decode cX6_digestBlock 82 = .ok (.iand, 1) := by decide +kernel
theorem dX6_digestBlock_83 : decode cX6_digestBlock 83 = .ok (.ior, 1) := by decide +kernel
theorem dX6_digestBlock_84 : decode cX6_digestBlock 84 = .ok (.goto 28, 3) := by decide +kernel
theorem dX6_digestBlock_87 : decode cX6_digestBlock 87 = .ok (.iload 7, 2) := by decide +kernel
theorem dX6_digestBlock_89 : decode cX6_digestBlock 89 = .ok (.iconst 2, 1) := by decide +kernel
theorem dX6_digestBlock_90 : decode cX6_digestBlock 90 = .ok (.if_icmp .ne 13, 3) := by decide +kernel
theorem dX6_digestBlock_93 : decode cX6_digestBlock 93 = .ok (.iload_n 3, 1) := by decide +kernel
theorem dX6_digestBlock_94 : decode cX6_digestBlock 94 = .ok (.iload 4, 2) := by decide +kernel
theorem dX6_digestBlock_96 : decode cX6_digestBlock 96 = .ok (.ixor, 1) := by decide +kernel
theorem dX6_digestBlock_97 : decode cX6_digestBlock 97 = .ok (.iload 5, 2) := by decide +kernel
theorem dX6_digestBlock_99 : decode cX6_digestBlock 99 = .ok (.ixor, 1) := by decide +kernel
theorem dX6_digestBlock_100 : decode cX6_digestBlock 100 = .ok (.goto 12, 3) := by decide +kernel
theorem dX6_digestBlock_103 : decode cX6_digestBlock 103 = .ok (.iload 4, 2) := by decide +kernel
theorem dX6_digestBlock_105 : decode cX6_digestBlock 105 = .ok (.iload_n 3, 1) := by decide +kernel
theorem dX6_digestBlock_106 : decode cX6_digestBlock 106 = .ok (.iload 5, 2) := by decide +kernel
theorem dX6_digestBlock_108 : decode cX6_digestBlock 108 = .ok (.iconst (-1), 1) := by decide +kernel
theorem dX6_digestBlock_109 : decode cX6_digestBlock 109 = .ok (.ixor, 1) := by decide +kernel
theorem dX6_digestBlock_110 : decode cX6_digestBlock 110 = .ok (.ior, 1) := by decide +kernel
theorem dX6_digestBlock_111 : decode cX6_digestBlock 111 = .ok (.ixor, 1) := by decide +kernel
theorem dX6_digestBlock_112 : decode cX6_digestBlock 112 = .ok (.istore 8, 2) := by decide +kernel
theorem dX6_digestBlock_114 : decode cX6_digestBlock 114 = .ok (.iload 7, 2) := by decide +kernel
theorem dX6_digestBlock_116 : decode cX6_digestBlock 116 = .ok (.ifCond .ne 8, 3) := by decide +kernel
theorem dX6_digestBlock_119 : decode cX6_digestBlock 119 = .ok (.iload 6, 2) := by decide +kernel
theorem dX6_digestBlock_121 : decode cX6_digestBlock 121 = .ok (.goto 47, 3) := by decide +kernel
theorem dX6_digestBlock_124 : decode cX6_digestBlock 124 = .ok (.iload 7, 2) := by decide +kernel
theorem dX6_digestBlock_126 : decode cX6_digestBlock 126 = .ok (.iconst 1, 1) := by decide +kernel
theorem dX6_digestBlock_127 : decode cX6_digestBlock 127 = .ok (.if_icmp .ne 15, 3) := by decide +kernel
theorem dX6_digestBlock_130 : decode cX6_digestBlock 130 = .ok (.iconst 5, 1) := by decide +kernel
theorem dX6_digestBlock_131 : decode cX6_digestBlock 131 = .ok (.iload 6, 2) := by decide +kernel
theorem dX6_digestBlock_133 : decode cX6_digestBlock 133 = .ok (.imul, 1) := by decide +kernel
theorem dX6_digestBlock_134 : decode cX6_digestBlock 134 = .ok (.iconst 1, 1) := by decide +kernel
theorem dX6_digestBlock_135 : decode cX6_digestBlock 135 = .ok (.iadd, 1) := by decide +kernel
theorem dX6_digestBlock_136 : decode cX6_digestBlock 136 = .ok (.bipush 16, 2) := by decide +kernel
theorem dX6_digestBlock_138 : decode cX6_digestBlock 138 = .ok (.irem, 1) := by decide +kernel
theorem dX6_digestBlock_139 : decode cX6_digestBlock 139 = .ok (.goto 29, 3) := by decide +kernel
theorem dX6_digestBlock_142 : decode cX6_digestBlock 142 = .ok (.iload 7, 2) := by decide +kernel
theorem dX6_digestBlock_144 : decode cX6_digestBlock 144 = .ok (.iconst 2, 1) := by decide +kernel
theorem dX6_digestBlock_145 : decode cX6_digestBlock 145 = .ok (.if_icmp .ne 15, 3) := by decide +kernel
theorem dX6_digestBlock_148 : decode cX6_digestBlock 148 = .ok (.iconst 3, 1) := by decide +kernel
theorem dX6_digestBlock_149 : decode cX6_digestBlock 149 = .ok (.iload 6, 2) := by decide +kernel
theorem dX6_digestBlock_151 : decode cX6_digestBlock 151 = .ok (.imul, 1) := by decide +kernel
theorem dX6_digestBlock_152 : decode cX6_digestBlock 152 = .ok (.iconst 5, 1) := by decide +kernel
theorem dX6_digestBlock_153 : decode cX6_digestBlock 153 = .ok (.iadd, 1) := by decide +kernel
theorem dX6_digestBlock_154 : decode cX6_digestBlock 154 = .ok (.bipush 16, 2) := by decide +kernel
theorem dX6_digestBlock_156 : decode cX6_digestBlock 156 = .ok (.irem, 1) := by decide +kernel
theorem dX6_digestBlock_157 : decode cX6_digestBlock 157 = .ok (.goto 11, 3) := by decide +kernel
theorem dX6_digestBlock_160 : decode cX6_digestBlock 160 = .ok (.bipush 7, 2) := by decide +kernel
theorem dX6_digestBlock_162 : decode cX6_digestBlock 162 = .ok (.iload 6, 2) := by decide +kernel
theorem dX6_digestBlock_164 : decode cX6_digestBlock 164 = .ok (.imul, 1) := by decide +kernel
theorem dX6_digestBlock_165 : decode cX6_digestBlock 165 = .ok (.bipush 16, 2) := by decide +kernel
theorem dX6_digestBlock_167 : decode cX6_digestBlock 167 = .ok (.irem, 1) := by decide +kernel
theorem dX6_digestBlock_168 : decode cX6_digestBlock 168 = .ok (.istore 9, 2) := by decide +kernel
theorem dX6_digestBlock_170 : decode cX6_digestBlock 170 = .ok (.iload 8, 2) := by decide +kernel
theorem dX6_digestBlock_172 : decode cX6_digestBlock 172 = .ok (.iload_n 2, 1) := by decide +kernel
theorem dX6_digestBlock_173 : decode cX6_digestBlock 173 = .ok (.iadd, 1) := by decide +kernel
theorem dX6_digestBlock_174 : decode cX6_digestBlock 174 = .ok (.aload_n 0, 1) := by decide +kernel
theorem dX6_digestBlock_175 : decode cX6_digestBlock 175 = .ok (.getfield 117, 3) := by decide +kernel
theorem dX6_digestBlock_178 : decode cX6_digestBlock 178 = .ok (.iload 6, 2) := by decide +kernel
theorem dX6_digestBlock_180 : decode cX6_digestBlock 180 = .ok (.iaload, 1) := by decide +kernel
theorem dX6_digestBlock_181 : decode cX6_digestBlock 181 = .ok (.iadd, 1) := by decide +kernel
theorem dX6_digestBlock_182 : decode cX6_digestBlock 182 = .ok (.aload_n 0, 1) := by decide +kernel
theorem dX6_digestBlock_183 : decode cX6_digestBlock 183 = .ok (.iload_n 1, 1) := by decide +kernel
theorem dX6_digestBlock_184 : decode cX6_digestBlock 184 = .ok (.iconst 4, 1) := by decide +kernel
theorem dX6_digestBlock_185 : decode cX6_digestBlock 185 = .ok (.iload 9, 2) := by decide +kernel
theorem dX6_digestBlock_187 : decode cX6_digestBlock 187 = .ok (.imul, 1) := by decide +kernel
theorem dX6_digestBlock_188 : decode cX6_digestBlock 188 = .ok (.iadd, 1) := by decide +kernel
theorem dX6_digestBlock_189 : decode cX6_digestBlock 189 = .ok (.invokevirtual 166, 3) := by decide +kernel
theorem dX6_digestBlock_192 : decode cX6_digestBlock 192 = .ok (.iadd, 1) := by decide +kernel
theorem dX6_digestBlock_193 : decode cX6_digestBlock 193 = .ok (.istore 8, 2) := by decide +kernel
theorem dX6_digestBlock_195 : decode cX6_digestBlock 195 = .ok (.iload 5, 2) := by decide +kernel
theorem dX6_digestBlock_197 : decode cX6_digestBlock 197 = .ok (.istore_n 2, 1) := by decide +kernel
theorem dX6_digestBlock_198 : decode cX6_digestBlock 198 = .ok (.iload 4, 2) := by decide +kernel
theorem dX6_digestBlock_200 : decode cX6_digestBlock 200 = .ok (.istore 5, 2) := by decide +kernel
theorem dX6_digestBlock_202 : decode cX6_digestBlock 202 = .ok (.iload_n 3, 1) := by decide +kernel
theorem dX6_digestBlock_203 : decode cX6_digestBlock 203 = .ok (.istore 4, 2) := by decide +kernel
theorem dX6_digestBlock_205 : decode cX6_digestBlock 205 = .ok (.iload_n 3, 1) := by decide +kernel
theorem dX6_digestBlock_206 : decode cX6_digestBlock 206 = .ok (.iload 8, 2) := by decide +kernel
theorem dX6_digestBlock_208 : decode cX6_digestBlock 208 = .ok (.aload_n 0, 1) := by decide +kernel
theorem dX6_digestBlock_209 : decode cX6_digestBlock 209 = .ok (.getfield 120, 3) := by decide +kernel
theorem dX6_digestBlock_212 : decode cX6_digestBlock 212 = .ok (.iconst 4, 1) := by decide +kernel
theorem dX6_digestBlock_213 : decode cX6_digestBlock 213 = .ok (.iload 7, 2) := by decide +kernel
theorem dX6_digestBlock_215 : decode cX6_digestBlock 215 = .ok (.imul, 1) := by decide +kernel
theorem dX6_digestBlock_216 : decode cX6_digestBlock 216 = .ok (.iload 6, 2) := by decide +kernel
theorem dX6_digestBlock_218 : decode cX6_digestBlock 218 = .ok (.iconst 4, 1) := by decide +kernel
theorem dX6_digestBlock_219 : decode cX6_digestBlock 219 = .ok (.irem, 1) := by decide +kernel
theorem dX6_digestBlock_220 : decode cX6_digestBlock 220 = .ok (.iadd, 1) := by decide +kernel
theorem dX6_digestBlock_221 : decode cX6_digestBlock 221 = .ok (.iaload, 1) := by decide +kernel
theorem dX6_digestBlock_222 : decode cX6_digestBlock 222 = .ok (.invokestatic 170, 3) := by decide +kernel
theorem dX6_digestBlock_225 : decode cX6_digestBlock 225 = .ok (.iadd, 1) := by decide +kernel
theorem dX6_digestBlock_226 : decode cX6_digestBlock 226 = .ok (.istore_n 3, 1) := by decide +kernel
theorem dX6_digestBlock_227 : decode cX6_digestBlock 227 = .ok (.iinc 6 1, 3) := by decide +kernel
theorem dX6_digestBlock_230 : decode cX6_digestBlock 230 = .ok (.goto (-197), 3) := by decide +kernel
theorem dX6_digestBlock_233 : decode cX6_digestBlock 233 = .ok (.aload_n 0, 1) := by decide +kernel
theorem dX6_digestBlock_234 : decode cX6_digestBlock 234 = .ok (.getfield 50, 3) := by decide +kernel
theorem dX6_digestBlock_237 : decode cX6_digestBlock 237 = .ok (.iconst 0, 1) := by decide +kernel
theorem dX6_digestBlock_238 : decode cX6_digestBlock 238 = .ok (.aload_n 0, 1) := by decide +kernel
theorem dX6_digestBlock_239 : decode cX6_digestBlock 239 = .ok (.getfield 50, 3) := by decide +kernel
theorem dX6_digestBlock_242 : decode cX6_digestBlock 242 = .ok (.iconst 0, 1) := by decide +kernel
theorem dX6_digestBlock_243 : decode cX6_digestBlock 243 = .ok (.iaload, 1) := by decide +kernel
theorem dX6_digestBlock_244 : decode cX6_digestBlock 244 = .ok (.iload_n 2, 1) := by decide +kernel
theorem dX6_digestBlock_245 : decode cX6_digestBlock 245 = .ok (.iadd, 1) := by decide +kernel
theorem dX6_digestBlock_246 : decode cX6_digestBlock 246 = .ok (.iastore, 1) := by decide +kernel
theorem dX6_digestBlock_247 : decode cX6_digestBlock 247 = .ok (.aload_n 0, 1) := by decide +kernel
theorem dX6_digestBlock_248 : decode cX6_digestBlock 248 = .ok (.getfield 50, 3) := by decide +kernel
theorem dX6_digestBlock_251 : decode cX6_digestBlock 251 = .ok (.iconst 1, 1) := by decide +kernel
theorem dX6_digestBlock_252 : decode cX6_digestBlock 252 = .ok (.aload_n 0, 1) := by decide +kernel
theorem dX6_digestBlock_253 : decode cX6_digestBlock 253 = .ok (.getfield 50, 3) := by decide +kernel
theorem dX6_digestBlock_256 : decode cX6_digestBlock 256 = .ok (.iconst 1, 1) := by decide +kernel
theorem dX6_digestBlock_257 : decode cX6_digestBlock 257 = .ok (.iaload, 1) := by decide +kernel
theorem dX6_digestBlock_258 : decode cX6_digestBlock 258 = .ok (.iload_n 3, 1) := by decide +kernel
theorem dX6_digestBlock_259 : decode cX6_digestBlock 259 = .ok (.iadd, 1) := by decide +kernel
theorem dX6_digestBlock_260 : decode cX6_digestBlock 260 = .ok (.iastore, 1) := by decide +kernel
theorem dX6_digestBlock_261 : decode cX6_digestBlock 261 = .ok (.aload_n 0, 1) := by decide +kernel
theorem dX6_digestBlock_262 : decode cX6_digestBlock 262 = .ok (.getfield 50, 3) := by decide +kernel
theorem dX6_digestBlock_265 : decode cX6_digestBlock 265 = .ok (.iconst 2, 1) := by decide +kernel
theorem dX6_digestBlock_266 : decode cX6_digestBlock 266 = .ok (.aload_n 0, 1) := by decide +kernel
theorem dX6_digestBlock_267 : decode cX6_digestBlock 267 = .ok (.getfield 50, 3) := by decide +kernel
theorem dX6_digestBlock_270 : decode cX6_digestBlock 270 = .ok (.iconst 2, 1) := by decide +kernel
theorem dX6_digestBlock_271 : decode cX6_digestBlock 271 = .ok (.iaload, 1) := by decide +kernel
theorem dX6_digestBlock_272 : decode cX6_digestBlock 272 = .ok (.iload 4, 2) := by decide +kernel
theorem dX6_digestBlock_274 : decode cX6_digestBlock 274 = .ok (.iadd, 1) := by decide +kernel
theorem dX6_digestBlock_275 : decode cX6_digestBlock 275 = .ok (.iastore, 1) := by decide +kernel
theorem dX6_digestBlock_276 : decode cX6_digestBlock 276 = .ok (.aload_n 0, 1) := by decide +kernel
theorem dX6_digestBlock_277 : decode cX6_digestBlock 277 = .ok (.getfield 50, 3) := by decide +kernel
theorem dX6_digestBlock_280 : decode cX6_digestBlock 280 = .ok (.iconst 3, 1) := by decide +kernel
theorem dX6_digestBlock_281 : decode cX6_digestBlock 281 = .ok (.aload_n 0, 1) := by decide +kernel
theorem dX6_digestBlock_282 : decode cX6_digestBlock 282 = .ok (.getfield 50, 3) := by decide +kernel
theorem dX6_digestBlock_285 : decode cX6_digestBlock 285 = .ok (.iconst 3, 1) := by decide +kernel
theorem dX6_digestBlock_286 : decode cX6_digestBlock 286 = .ok (.iaload, 1) := by decide +kernel
theorem dX6_digestBlock_287 : decode cX6_digestBlock 287 = .ok (.iload 5, 2) := by decide +kernel
theorem dX6_digestBlock_289 : decode cX6_digestBlock 289 = .ok (.iadd, 1) := by decide +kernel
theorem dX6_digestBlock_290 : decode cX6_digestBlock 290 = .ok (.iastore, 1) := by decide +kernel
theorem dX6_digestBlock_291 : decode cX6_digestBlock 291 = .ok (.return_, 1) := by decide +kernel
theorem dX6_finish_0 : decode cX6_finish 0 = .ok (.bipush 8, 2) := by decide +kernel
theorem dX6_finish_2 : decode cX6_finish 2 = .ok (.aload_n 0, 1) := by decide +kernel
theorem dX6_finish_3 : decode cX6_finish 3 = .ok (.getfield 163, 3) := by decide +kernel
theorem dX6_finish_6 : decode cX6_finish 6 = .ok (.imul, 1) := by decide +kernel
theorem dX6_finish_7 : decode cX6_finish 7 = .ok (.istore_n 1, 1) := by decide +kernel
theorem dX6_finish_8 : decode cX6_finish 8 = .ok (.aload_n 0, 1) := by decide +kernel
theorem dX6_finish_9 : decode cX6_finish 9 = .ok (.sipush 128, 3) := by decide +kernel
theorem dX6_finish_12 : decode cX6_finish 12 = .ok (.invokevirtual 174, 3) := by decide +kernel
theorem dX6_finish_15 : decode cX6_finish 15 = .ok (.aload_n 0, 1) := by decide +kernel
theorem dX6_finish_16 : decode cX6_finish 16 = .ok (.getfield 163, 3) := by decide +kernel
theorem dX6_finish_19 : decode cX6_finish 19 = .ok (.bipush 64, 2) := by decide +kernel
theorem dX6_finish_21 : decode cX6_finish 21 = .ok (.irem, 1) := by decide +kernel
theorem dX6_finish_22 : decode cX6_finish 22 = .ok (.bipush 56, 2) := by decide +kernel
theorem dX6_finish_24 : decode cX6_finish 24 = .ok (.if_icmp .eq 11, 3) := by decide +kernel
theorem dX6_finish_27 : decode cX6_finish 27 = .ok (.aload_n 0, 1) := by decide +kernel
theorem dX6_finish_28 : decode cX6_finish 28 = .ok (.iconst 0, 1) := by decide +kernel
theorem dX6_finish_29 : decode cX6_finish 29 = .ok (.invokevirtual 174, 3) := by decide +kernel
theorem dX6_finish_32 : decode cX6_finish 32 = .ok (.goto (-17), 3) := by decide +kernel
theorem dX6_finish_35 : decode cX6_finish 35 = .ok (.iconst 0, 1) := by decide +kernel
theorem dX6_finish_36 : decode cX6_finish 36 = .ok (.istore_n 2, 1) := by decide +kernel
theorem dX6_finish_37 : decode cX6_finish 37 = .ok (.iload_n 2, 1) := by decide +kernel
theorem dX6_finish_38 : decode cX6_finish 38 = .ok (.bipush 8, 2) := by decide +kernel
theorem dX6_finish_40 : decode cX6_finish 40 = .ok (.if_icmp .ge 32, 3) := by decide +kernel
theorem dX6_finish_43 : decode cX6_finish 43 = .ok (.aload_n 0, 1) := by decide +kernel
theorem dX6_finish_44 : decode cX6_finish 44 = .ok (.iload_n 2, 1) := by decide +kernel
theorem dX6_finish_45 : decode cX6_finish 45 = .ok (.iconst 4, 1) := by decide +kernel
theorem dX6_finish_46 : decode cX6_finish 46 = .ok (.if_icmp .ge 16, 3) := by decide +kernel
theorem dX6_finish_49 : decode cX6_finish 49 = .ok (.iload_n 1, 1) := by decide +kernel
theorem dX6_finish_50 : decode cX6_finish 50 = .ok (.bipush 8, 2) := by decide +kernel
theorem dX6_finish_52 : decode cX6_finish 52 = .ok (.iload_n 2, 1) := by decide +kernel
theorem dX6_finish_53 : decode cX6_finish 53 = .ok (.imul, 1) := by decide +kernel
theorem dX6_finish_54 : decode cX6_finish 54 = .ok (.ishr, 1) := by decide +kernel
theorem dX6_finish_55 : decode cX6_finish 55 = .ok (.sipush 255, 3) := by decide +kernel
theorem dX6_finish_58 : decode cX6_finish 58 = .ok (.iand, 1) := by decide +kernel
theorem dX6_finish_59 : decode cX6_finish 59 = .ok (.goto 4, 3) := by decide +kernel
theorem dX6_finish_62 : decode cX6_finish 62 = .ok (.iconst 0, 1) := by decide +kernel
theorem dX6_finish_63 : decode cX6_finish 63 = .ok (.invokevirtual 174, 3) := by decide +kernel
theorem dX6_finish_66 : decode cX6_finish 66 = .ok (.iinc 2 1, 3) := by decide +kernel
theorem dX6_finish_69 : decode cX6_finish 69 = .ok (.goto (-32), 3) := by decide +kernel
theorem dX6_finish_72 : decode cX6_finish 72 = .ok (.aload_n 0, 1) := by decide +kernel
theorem dX6_finish_73 : decode cX6_finish 73 = .ok (.getfield 50, 3) := by decide +kernel
theorem dX6_finish_76 : decode cX6_finish 76 = .ok (.iconst 0, 1) := by decide +kernel
theorem dX6_finish_77 : decode cX6_finish 77 = .ok (.ldc 178, 2) := by decide +kernel
theorem dX6_finish_79 : decode cX6_finish 79 = .ok (.iastore, 1) := by decide +kernel
theorem dX6_finish_80 : decode cX6_finish 80 = .ok (.aload_n 0, 1) := by decide +kernel
theorem dX6_finish_81 : decode cX6_finish 81 = .ok (.getfield 50, 3) := by decide +kernel
theorem dX6_finish_84 : decode cX6_finish 84 = .ok (.iconst 1, 1) := by decide +kernel
theorem dX6_finish_85 : decode cX6_finish 85 = .ok (.ldc 179, 2) := by decide +kernel
theorem dX6_finish_87 : decode cX6_finish 87 = .ok (.iastore, 1) := by decide +kernel
theorem dX6_finish_88 : decode cX6_finish 88 = .ok (.aload_n 0, 1) := by decide +kernel
theorem dX6_finish_89 : decode cX6_finish 89 = .ok (.getfield 50, 3) := by decide +kernel
theorem dX6_finish_92 : decode cX6_finish 92 = .ok (.iconst 2, 1) := by decide +kernel
theorem dX6_finish_93 : decode cX6_finish 93 = .ok (.ldc 180, 2) := by decide +kernel
theorem dX6_finish_95 : decode cX6_finish 95 = .ok (.iastore, 1) := by decide +kernel
theorem dX6_finish_96 : decode cX6_finish 96 = .ok (.aload_n 0, 1) := by decide +kernel
theorem dX6_finish_97 : decode cX6_finish 97 = .ok (.getfield 50, 3) := by decide +kernel
theorem dX6_finish_100 : decode cX6_finish 100 = .ok (.iconst 3, 1) := by decide +kernel
theorem dX6_finish_101 : decode cX6_finish 101 = .ok (.ldc 181, 2) := by decide +kernel
theorem dX6_finish_103 : decode cX6_finish 103 = .ok (.iastore, 1) := by decide +kernel
theorem dX6_finish_104 : decode cX6_finish 104 = .ok (.iconst 0, 1) := by decide +kernel
theorem dX6_finish_105 : decode cX6_finish 105 = .ok (.istore_n 2, 1) := by decide +kernel
theorem dX6_finish_106 : decode cX6_finish 106 = .ok (.iload_n 2, 1) := by decide +kernel
theorem dX6_finish_107 : decode cX6_finish 107 = .ok (.aload_n 0, 1) := by decide +kernel
theorem dX6_finish_108 : decode cX6_finish 108 = .ok (.getfield 163, 3) := by decide +kernel
theorem dX6_finish_111 : decode cX6_finish 111 = .ok (.if_icmp .ge 14, 3) := by decide +kernel
theorem dX6_finish_114 : decode cX6_finish 114 = .ok (.aload_n 0, 1) := by decide +kernel
theorem dX6_finish_115 : decode cX6_finish 115 = .ok (.iload_n 2, 1) := by decide +kernel
theorem dX6_finish_116 : decode cX6_finish 116 = .ok (.invokevirtual 182, 3) := by decide +kernel
theorem dX6_finish_119 : decode cX6_finish 119 = .ok (.iinc 2 64, 3) := by decide +kernel
theorem dX6_finish_122 : decode cX6_finish 122 = .ok (.goto (-16), 3) := by decide +kernel
theorem dX6_finish_125 : decode cX6_finish 125 = .ok (.iconst 0, 1) := by decide +kernel
theorem dX6_finish_126 : decode cX6_finish 126 = .ok (.istore_n 2, 1) := by decide +kernel
theorem dX6_finish_127 : decode cX6_finish 127 = .ok (.iload_n 2, 1) := by decide +kernel
theorem dX6_finish_128 : decode cX6_finish 128 = .ok (.bipush 16, 2) := by decide +kernel
theorem dX6_finish_130 : decode cX6_finish 130 = .ok (.if_icmp .ge 34, 3) := by decide +kernel
theorem dX6_finish_133 : decode cX6_finish 133 = .ok (.aload_n 0, 1) := by decide +kernel
theorem dX6_finish_134 : decode cX6_finish 134 = .ok (.getfield 47, 3) := by decide +kernel
theorem dX6_finish_137 : decode cX6_finish 137 = .ok (.iload_n 2, 1) := by decide +kernel
theorem dX6_finish_138 : decode cX6_finish 138 = .ok (.aload_n 0, 1) := by decide +kernel
theorem dX6_finish_139 : decode cX6_finish 139 = .ok (.getfield 50, 3) := by decide +kernel
theorem dX6_finish_142 : decode cX6_finish 142 = .ok (.iload_n 2, 1) := by decide +kernel
theorem dX6_finish_143 : decode cX6_finish 143 = .ok (.iconst 4, 1) := by decide +kernel
theorem dX6_finish_144 : decode cX6_finish 144 = .ok (.idiv, 1) := by decide +kernel
theorem dX6_finish_145 : decode cX6_finish 145 = .ok (.iaload, 1) := by decide +kernel
theorem dX6_finish_146 : decode cX6_finish 146 = .ok (.bipush 8, 2) := by decide +kernel
theorem dX6_finish_148 : decode cX6_finish 148 = .ok (.iload_n 2, 1) := by decide +kernel
theorem dX6_finish_149 : decode cX6_finish 149 = .ok (.iconst 4, 1) := by decide +kernel
theorem dX6_finish_150 : decode cX6_finish 150 = .ok (.irem, 1) := by decide +kernel
theorem dX6_finish_151 : decode cX6_finish 151 = .ok (.imul, 1) := by decide +kernel
theorem dX6_finish_152 : decode cX6_finish 152 = .ok (.ishr, 1) := by decide +kernel
theorem dX6_finish_153 : decode cX6_finish 153 = .ok (.sipush 255, 3) := by decide +kernel
theorem dX6_finish_156 : decode cX6_finish 156 = .ok (.iand, 1) := by decide +kernel
theorem dX6_finish_157 : decode cX6_finish 157 = .ok (.iastore, 1) := by decide +kernel
theorem dX6_finish_158 : decode cX6_finish 158 = .ok (.iinc 2 1, 3) := by decide +kernel
theorem dX6_finish_161 : decode cX6_finish 161 = .ok (.goto (-34), 3) := by decide +kernel
theorem dX6_finish_164 : decode cX6_finish 164 = .ok (.aload_n 0, 1) := by decide +kernel
theorem dX6_finish_165 : decode cX6_finish 165 = .ok (.iconst 0, 1) := by decide +kernel
theorem dX6_finish_166 : decode cX6_finish 166 = .ok (.putfield 163, 3) := by decide +kernel
theorem dX6_finish_169 : decode cX6_finish 169 = .ok (.return_, 1) := by decide +kernel
theorem dX6_again_0 : decode cX6_again 0 = .ok (.iconst 0, 1) := by decide +kernel
theorem dX6_again_1 : decode cX6_again 1 = .ok (.istore_n 3, 1) := by decide +kernel
theorem dX6_again_2 : decode cX6_again 2 = .ok (.iload_n 3, 1) := by decide +kernel
theorem dX6_again_3 : decode cX6_again 3 = .ok (.iload_n 1, 1) := by decide +kernel
theorem dX6_again_4 : decode cX6_again 4 = .ok (.if_icmp .ge 39, 3) := by decide +kernel
theorem dX6_again_7 : decode cX6_again 7 = .ok (.iconst 0, 1) := by decide +kernel
theorem dX6_again_8 : decode cX6_again 8 = .ok (.istore 4, 2) := by decide +kernel
theorem dX6_again_10 : decode cX6_again 10 = .ok (.iload 4, 2) := by decide +kernel
theorem dX6_again_12 : decode cX6_again 12 = .ok (.iload_n 2, 1) := by decide +kernel
theorem dX6_again_13 : decode cX6_again 13 = .ok (.if_icmp .ge 20, 3) := by decide +kernel
theorem dX6_again_16 : decode cX6_again 16 = .ok (.aload_n 0, 1) := by decide +kernel
theorem dX6_again_17 : decode cX6_again 17 = .ok (.aload_n 0, 1) := by decide +kernel
theorem dX6_again_18 : decode cX6_again 18 = .ok (.getfield 47, 3) := by decide +kernel
theorem dX6_again_21 : decode cX6_again 21 = .ok (.iload 4, 2) := by decide +kernel
theorem dX6_again_23 : decode cX6_again 23 = .ok (.iaload, 1) := by decide +kernel
theorem dX6_again_24 : decode cX6_again 24 = .ok (.invokevirtual 174, 3) := by decide +kernel
theorem dX6_again_27 : decode cX6_again 27 = .ok (.iinc 4 1, 3) := by decide +kernel
theorem dX6_again_30 : decode cX6_again 30 = .ok (.goto (-20), 3) := by decide +kernel
theorem dX6_again_33 : decode cX6_again 33 = .ok (.aload_n 0, 1) := by decide +kernel
theorem dX6_again_34 : decode cX6_again 34 = .ok (.invokevirtual 185, 3) := by decide +kernel
theorem dX6_again_37 : decode cX6_again 37 = .ok (.iinc 3 1, 3) := by decide +kernel
theorem dX6_again_40 : decode cX6_again 40 = .ok (.goto (-38), 3) := by decide +kernel
theorem dX6_again_43 : decode cX6_again 43 = .ok (.return_, 1) := by decide +kernel
theorem dX6_mix_0 : decode cX6_mix 0 = .ok (.iconst 0, 1) := by decide +kernel
theorem dX6_mix_1 : decode cX6_mix 1 = .ok (.istore_n 2, 1) := by decide +kernel
theorem dX6_mix_2 : decode cX6_mix 2 = .ok (.iload_n 2, 1) := by decide +kernel
theorem dX6_mix_3 : decode cX6_mix 3 = .ok (.sipush 256, 3) := by decide +kernel
theorem dX6_mix_6 : decode cX6_mix 6 = .ok (.if_icmp .ge 16, 3) := by decide +kernel
theorem dX6_mix_9 : decode cX6_mix 9 = .ok (.aload_n 0, 1) := by decide +kernel
theorem dX6_mix_10 : decode cX6_mix 10 = .ok (.getfield 129, 3) := by decide +kernel
theorem dX6_mix_13 : decode cX6_mix 13 = .ok (.iload_n 2, 1) := by decide +kernel
theorem dX6_mix_14 : decode cX6_mix 14 = .ok (.iload_n 2, 1) := by decide +kernel
theorem dX6_mix_15 : decode cX6_mix 15 = .ok (.iastore, 1) := by decide +kernel
theorem dX6_mix_16 : decode cX6_mix 16 = .ok (.iinc 2 1, 3) := by decide +kernel
theorem dX6_mix_19 : decode cX6_mix 19 = .ok (.goto (-17), 3) := by decide +kernel
theorem dX6_mix_22 : decode cX6_mix 22 = .ok (.iconst 0, 1) := by decide +kernel
theorem dX6_mix_23 : decode cX6_mix 23 = .ok (.istore_n 2, 1) := by decide +kernel
theorem dX6_mix_24 : decode cX6_mix 24 = .ok (.iconst 0, 1) := by decide +kernel
theorem dX6_mix_25 : decode cX6_mix 25 = .ok (.istore_n 3, 1) := by decide +kernel
theorem dX6_mix_26 : decode cX6_mix 26 = .ok (.iload_n 3, 1) := by decide +kernel
theorem dX6_mix_27 : decode cX6_mix 27 = .ok (.sipush 256, 3) := by decide +kernel
theorem dX6_mix_30 : decode cX6_mix 30 = .ok (.if_icmp .ge 64, 3) := by decide +kernel
theorem dX6_mix_33 : decode cX6_mix 33 = .ok (.iload_n 2, 1) := by decide +kernel
theorem dX6_mix_34 : decode cX6_mix 34 = .ok (.aload_n 0, 1) := by decide +kernel
theorem dX6_mix_35 : decode cX6_mix 35 = .ok (.getfield 129, 3) := by decide +kernel
theorem dX6_mix_38 : decode cX6_mix 38 = .ok (.iload_n 3, 1) := by decide +kernel
theorem dX6_mix_39 : decode cX6_mix 39 = .ok (.iaload, 1) := by decide +kernel
theorem dX6_mix_40 : decode cX6_mix 40 = .ok (.iadd, 1) := by decide +kernel
theorem dX6_mix_41 : decode cX6_mix 41 = .ok (.aload_n 0, 1) := by decide +kernel
theorem dX6_mix_42 : decode cX6_mix 42 = .ok (.getfield 126, 3) := by decide +kernel
theorem dX6_mix_45 : decode cX6_mix 45 = .ok (.iload_n 3, 1) := by decide +kernel
theorem dX6_mix_46 : decode cX6_mix 46 = .ok (.aload_n 0, 1) := by decide +kernel
theorem dX6_mix_47 : decode cX6_mix 47 = .ok (.getfield 188, 3) := by decide +kernel
theorem dX6_mix_50 : decode cX6_mix 50 = .ok (.irem, 1) := by decide +kernel
theorem dX6_mix_51 : decode cX6_mix 51 = .ok (.iaload, 1) := by decide +kernel
theorem dX6_mix_52 : decode cX6_mix 52 = .ok (.iload_n 1, 1) := by decide +kernel
theorem dX6_mix_53 : decode cX6_mix 53 = .ok (.ixor, 1) := by decide +kernel
theorem dX6_mix_54 : decode cX6_mix 54 = .ok (.iadd, 1) := by decide +kernel
theorem dX6_mix_55 : decode cX6_mix 55 = .ok (.sipush 256, 3) := by decide +kernel
theorem dX6_mix_58 : decode cX6_mix 58 = .ok (.irem, 1) := by decide +kernel
theorem dX6_mix_59 : decode cX6_mix 59 = .ok (.istore_n 2, 1) := by decide +kernel
theorem dX6_mix_60 : decode cX6_mix 60 = .ok (.aload_n 0, 1) := by decide +kernel
theorem dX6_mix_61 : decode cX6_mix 61 = .ok (.getfield 129, 3) := by decide +kernel
theorem dX6_mix_64 : decode cX6_mix 64 = .ok (.iload_n 3, 1) := by decide +kernel
theorem dX6_mix_65 : decode cX6_mix 65 = .ok (.iaload, 1) := by decide +kernel
theorem dX6_mix_66 : decode cX6_mix 66 = .ok (.istore 4, 2) := by decide +kernel
theorem dX6_mix_68 : decode cX6_mix 68 = .ok (.aload_n 0, 1) := by decide +kernel
theorem dX6_mix_69 : decode cX6_mix 69 = .ok (.getfield 129, 3) := by decide +kernel
theorem dX6_mix_72 : decode cX6_mix 72 = .ok (.iload_n 3, 1) := by decide +kernel
theorem dX6_mix_73 : decode cX6_mix 73 = .ok (.aload_n 0, 1) := by decide +kernel
theorem dX6_mix_74 : decode cX6_mix 74 = .ok (.getfield 129, 3) := by decide +kernel
theorem dX6_mix_77 : decode cX6_mix 77 = .ok (.iload_n 2, 1) := by decide +kernel
theorem dX6_mix_78 : decode cX6_mix 78 = .ok (.iaload, 1) := by decide +kernel
theorem dX6_mix_79 : decode cX6_mix 79 = .ok (.iastore, 1) := by decide +kernel
theorem dX6_mix_80 : decode cX6_mix 80 = .ok (.aload_n 0, 1) := by decide +kernel
theorem dX6_mix_81 : decode cX6_mix 81 = .ok (.getfield 129, 3) := by decide +kernel
theorem dX6_mix_84 : decode cX6_mix 84 = .ok (.iload_n 2, 1) := by decide +kernel
theorem dX6_mix_85 : decode cX6_mix 85 = .ok (.iload 4, 2) := by decide +kernel
theorem dX6_mix_87 : decode cX6_mix 87 = .ok (.iastore, 1) := by decide +kernel
theorem dX6_mix_88 : decode cX6_mix 88 = .ok (.iinc 3 1, 3) := by decide +kernel
theorem dX6_mix_91 : decode cX6_mix 91 = .ok (.goto (-65), 3) := by decide +kernel
theorem dX6_mix_94 : decode cX6_mix 94 = .ok (.return_, 1) := by decide +kernel
theorem dX6_stream_0 : decode cX6_stream 0 = .ok (.aload_n 0, 1) := by decide +kernel
theorem dX6_stream_1 : decode cX6_stream 1 = .ok (.iload_n 1, 1) := by decide +kernel
theorem dX6_stream_2 : decode cX6_stream 2 = .ok (.invokevirtual 191, 3) := by decide +kernel
theorem dX6_stream_5 : decode cX6_stream 5 = .ok (.iconst 0, 1) := by decide +kernel
theorem dX6_stream_6 : decode cX6_stream 6 = .ok (.istore_n 3, 1) := by decide +kernel
theorem dX6_stream_7 : decode cX6_stream 7 = .ok (.iconst 0, 1) := by decide +kernel
theorem dX6_stream_8 : decode cX6_stream 8 = .ok (.istore 4, 2) := by decide +kernel
theorem dX6_stream_10 : decode cX6_stream 10 = .ok (.iconst 0, 1) := by decide +kernel
theorem dX6_stream_11 : decode cX6_stream 11 = .ok (.istore 5, 2) := by decide +kernel
theorem dX6_stream_13 : decode cX6_stream 13 = .ok (.iload 5, 2) := by decide +kernel
theorem dX6_stream_15 : decode cX6_stream 15 = .ok (.iload_n 2, 1) := by decide +kernel
theorem dX6_stream_16 : decode cX6_stream 16 = .ok (.if_icmp .ge 100, 3) := by decide +kernel
theorem dX6_stream_19 : decode cX6_stream 19 = .ok (.iload_n 3, 1) := by decide +kernel
theorem dX6_stream_20 : decode cX6_stream 20 = .ok (.iconst 1, 1) := by decide +kernel
theorem dX6_stream_21 : decode cX6_stream 21 = .ok (.iadd, 1) := by decide +kernel
theorem dX6_stream_22 : decode cX6_stream 22 = .ok (.sipush 256, 3) := by decide +kernel
theorem dX6_stream_25 : decode cX6_stream 25 = .ok (.irem, 1) := by decide +kernel
theorem dX6_stream_26 : decode cX6_stream 26 = .ok (.istore_n 3, 1) := by decide +kernel
theorem dX6_stream_27 : decode cX6_stream 27 = .ok (.iload 4, 2) := by decide +kernel
theorem dX6_stream_29 : decode cX6_stream 29 = .ok (.aload_n 0, 1) := by decide +kernel
theorem dX6_stream_30 : decode cX6_stream 30 = .ok (.getfield 129, 3) := by decide +kernel
theorem dX6_stream_33 : decode cX6_stream 33 = .ok (.iload_n 3, 1) := by decide +kernel
theorem dX6_stream_34 : decode cX6_stream 34 = .ok (.iaload, 1) := by decide +kernel
theorem dX6_stream_35 : decode cX6_stream 35 = .ok (.iadd, 1) := by decide +kernel
theorem dX6_stream_36 : decode cX6_stream 36 = .ok (.sipush 256, 3) := by decide +kernel
theorem dX6_stream_39 : decode cX6_stream 39 = .ok (.irem, 1) := by decide +kernel
theorem dX6_stream_40 : decode cX6_stream 40 = .ok (.istore 4, 2) := by decide +kernel
theorem dX6_stream_42 : decode cX6_stream 42 = .ok (.aload_n 0, 1) := by decide +kernel
theorem dX6_stream_43 : decode cX6_stream 43 = .ok (.getfield 129, 3) := by decide +kernel
theorem dX6_stream_46 : decode cX6_stream 46 = .ok (.iload_n 3, 1) := by decide +kernel
theorem dX6_stream_47 : decode cX6_stream 47 = .ok (.iaload, 1) := by decide +kernel
theorem dX6_stream_48 : decode cX6_stream 48 = .ok (.istore 6, 2) := by decide +kernel
theorem dX6_stream_50 : decode cX6_stream 50 = .ok (.aload_n 0, 1) := by decide +kernel
theorem dX6_stream_51 : decode cX6_stream 51 = .ok (.getfield 129, 3) := by decide +kernel
theorem dX6_stream_54 : decode cX6_stream 54 = .ok (.iload_n 3, 1) := by decide +kernel
theorem dX6_stream_55 : decode cX6_stream 55 = .ok (.aload_n 0, 1) := by decide +kernel
theorem dX6_stream_56 : decode cX6_stream 56 = .ok (.getfield 129, 3) := by decide +kernel
theorem dX6_stream_59 : decode cX6_stream 59 = .ok (.iload 4, 2) := by decide +kernel
theorem dX6_stream_61 : decode cX6_stream 61 = .ok (.iaload, 1) := by decide +kernel
theorem dX6_stream_62 : decode cX6_stream 62 = .ok (.iastore, 1) := by decide +kernel
theorem dX6_stream_63 : decode cX6_stream 63 = .ok (.aload_n 0, 1) := by decide +kernel
theorem dX6_stream_64 : decode cX6_stream 64 = .ok (.getfield 129, 3) := by decide +kernel
theorem dX6_stream_67 : decode cX6_stream 67 = .ok (.iload 4, 2) := by decide +kernel
theorem dX6_stream_69 : decode cX6_stream 69 = .ok (.iload 6, 2) := by decide +kernel
theorem dX6_stream_71 : decode cX6_stream 71 = .ok (.iastore, 1) := by decide +kernel
theorem dX6_stream_72 : decode cX6_stream 72 = .ok (.aload_n 0, 1) := by decide +kernel
theorem dX6_stream_73 : decode cX6_stream 73 = .ok (.getfield 132, 3) := by decide +kernel
theorem dX6_stream_76 : decode cX6_stream 76 = .ok (.iload 5, 2) := by decide +kernel
theorem dX6_stream_78 : decode cX6_stream 78 = .ok (.aload_n 0, 1) := by decide +kernel
theorem dX6_stream_79 : decode cX6_stream 79 = .ok (.getfield 132, 3) := by decide +kernel
theorem dX6_stream_82 : decode cX6_stream 82 = .ok (.iload 5, 2) := by decide +kernel
theorem dX6_stream_84 : decode cX6_stream 84 = .ok (.iaload, 1) := by decide +kernel
theorem dX6_stream_85 : decode cX6_stream 85 = .ok (.aload_n 0, 1) := by decide +kernel
theorem dX6_stream_86 : decode cX6_stream 86 = .ok (.getfield 129, 3) := by decide +kernel
theorem dX6_stream_89 : decode cX6_stream 89 = .ok (.aload_n 0, 1) := by decide +kernel
theorem dX6_stream_90 : decode cX6_stream 90 = .ok (.getfield 129, 3) := by decide +kernel
theorem dX6_stream_93 : decode cX6_stream 93 = .ok (.iload_n 3, 1) := by decide +kernel
theorem dX6_stream_94 : decode cX6_stream 94 = .ok (.iaload, 1) := by decide +kernel
theorem dX6_stream_95 : decode cX6_stream 95 = .ok (.aload_n 0, 1) := by decide +kernel
theorem dX6_stream_96 : decode cX6_stream 96 = .ok (.getfield 129, 3) := by decide +kernel
theorem dX6_stream_99 : decode cX6_stream 99 = .ok (.iload 4, 2) := by decide +kernel
theorem dX6_stream_101 : decode cX6_stream 101 = .ok (.iaload, 1) := by decide +kernel
theorem dX6_stream_102 : decode cX6_stream 102 = .ok (.iadd, 1) := by decide +kernel
theorem dX6_stream_103 : decode cX6_stream 103 = .ok (.sipush 256, 3) := by decide +kernel
theorem dX6_stream_106 : decode cX6_stream 106 = .ok (.irem, 1) := by decide +kernel
theorem dX6_stream_107 : decode cX6_stream 107 = .ok (.iaload, 1) := by decide +kernel
theorem dX6_stream_108 : decode cX6_stream 108 = .ok (.ixor, 1) := by decide +kernel
theorem dX6_stream_109 : decode cX6_stream 109 = .ok (.iastore, 1) := by decide +kernel
theorem dX6_stream_110 : decode cX6_stream 110 = .ok (.iinc 5 1, 3) := by decide +kernel
theorem dX6_stream_113 : decode cX6_stream 113 = .ok (.goto (-100), 3) := by decide +kernel
theorem dX6_stream_116 : decode cX6_stream 116 = .ok (.return_, 1) := by decide +kernel
theorem dX6_streamRow_0 : decode cX6_streamRow 0 = .ok (.aload_n 0, 1) := by decide +kernel
theorem dX6_streamRow_1 : decode cX6_streamRow 1 = .ok (.iconst 0, 1) := by decide +kernel
theorem dX6_streamRow_2 : decode cX6_streamRow 2 = .ok (.invokevirtual 191, 3) := by decide +kernel
theorem dX6_streamRow_5 : decode cX6_streamRow 5 = .ok (.iconst 0, 1) := by decide +kernel
theorem dX6_streamRow_6 : decode cX6_streamRow 6 = .ok (.istore_n 1, 1) := by decide +kernel
theorem dX6_streamRow_7 : decode cX6_streamRow 7 = .ok (.iconst 0, 1) := by decide +kernel
theorem dX6_streamRow_8 : decode cX6_streamRow 8 = .ok (.istore_n 2, 1) := by decide +kernel
theorem dX6_streamRow_9 : decode cX6_streamRow 9 = .ok (.iconst 0, 1) := by decide +kernel
theorem dX6_streamRow_10 : decode cX6_streamRow 10 = .ok (.istore_n 3, 1) := by decide +kernel
theorem dX6_streamRow_11 : decode cX6_streamRow 11 = .ok (.iload_n 3, 1) := by decide +kernel
theorem dX6_streamRow_12 : decode cX6_streamRow 12 = .ok (.aload_n 0, 1) := by decide +kernel
theorem dX6_streamRow_13 : decode cX6_streamRow 13 = .ok (.getfield 156, 3) := by decide +kernel
theorem dX6_streamRow_16 : decode cX6_streamRow 16 = .ok (.if_icmp .ge 93, 3) := by decide +kernel
theorem dX6_streamRow_19 : decode cX6_streamRow 19 = .ok (.iload_n 1, 1) := by decide +kernel
theorem dX6_streamRow_20 : decode cX6_streamRow 20 = .ok (.iconst 1, 1) := by decide +kernel
theorem dX6_streamRow_21 : decode cX6_streamRow 21 = .ok (.iadd, 1) := by decide +kernel
theorem dX6_streamRow_22 : decode cX6_streamRow 22 = .ok (.sipush 256, 3) := by decide +kernel
theorem dX6_streamRow_25 : decode cX6_streamRow 25 = .ok (.irem, 1) := by decide +kernel
theorem dX6_streamRow_26 : decode cX6_streamRow 26 = .ok (.istore_n 1, 1) := by decide +kernel
theorem dX6_streamRow_27 : decode cX6_streamRow 27 = .ok (.iload_n 2, 1) := by decide +kernel
theorem dX6_streamRow_28 : decode cX6_streamRow 28 = .ok (.aload_n 0, 1) := by decide +kernel
theorem dX6_streamRow_29 : decode cX6_streamRow 29 = .ok (.getfield 129, 3) := by decide +kernel
theorem dX6_streamRow_32 : decode cX6_streamRow 32 = .ok (.iload_n 1, 1) := by decide +kernel
theorem dX6_streamRow_33 : decode cX6_streamRow 33 = .ok (.iaload, 1) := by decide +kernel
theorem dX6_streamRow_34 : decode cX6_streamRow 34 = .ok (.iadd, 1) := by decide +kernel
theorem dX6_streamRow_35 : decode cX6_streamRow 35 = .ok (.sipush 256, 3) := by decide +kernel
theorem dX6_streamRow_38 : decode cX6_streamRow 38 = .ok (.irem, 1) := by decide +kernel
theorem dX6_streamRow_39 : decode cX6_streamRow 39 = .ok (.istore_n 2, 1) := by decide +kernel
theorem dX6_streamRow_40 : decode cX6_streamRow 40 = .ok (.aload_n 0, 1) := by decide +kernel
theorem dX6_streamRow_41 : decode cX6_streamRow 41 = .ok (.getfield 129, 3) := by decide +kernel
theorem dX6_streamRow_44 : decode cX6_streamRow 44 = .ok (.iload_n 1, 1) := by decide +kernel
theorem dX6_streamRow_45 : decode cX6_streamRow 45 = .ok (.iaload, 1) := by decide +kernel
theorem dX6_streamRow_46 : decode cX6_streamRow 46 = .ok (.istore 4, 2) := by decide +kernel
theorem dX6_streamRow_48 : decode cX6_streamRow 48 = .ok (.aload_n 0, 1) := by decide +kernel
theorem dX6_streamRow_49 : decode cX6_streamRow 49 = .ok (.getfield 129, 3) := by decide +kernel
theorem dX6_streamRow_52 : decode cX6_streamRow 52 = .ok (.iload_n 1, 1) := by decide +kernel
theorem dX6_streamRow_53 : decode cX6_streamRow 53 = .ok (.aload_n 0, 1) := by decide +kernel
theorem dX6_streamRow_54 : decode cX6_streamRow 54 = .ok (.getfield 129, 3) := by decide +kernel
theorem dX6_streamRow_57 : decode cX6_streamRow 57 = .ok (.iload_n 2, 1) := by decide +kernel
theorem dX6_streamRow_58 : decode cX6_streamRow 58 = .ok (.iaload, 1) := by decide +kernel
theorem dX6_streamRow_59 : decode cX6_streamRow 59 = .ok (.iastore, 1) := by decide +kernel
theorem dX6_streamRow_60 : decode cX6_streamRow 60 = .ok (.aload_n 0, 1) := by decide +kernel
theorem dX6_streamRow_61 : decode cX6_streamRow 61 = .ok (.getfield 129, 3) := by decide +kernel
theorem dX6_streamRow_64 : decode cX6_streamRow 64 = .ok (.iload_n 2, 1) := by decide +kernel
theorem dX6_streamRow_65 : decode cX6_streamRow 65 = .ok (.iload 4, 2) := by decide +kernel
theorem dX6_streamRow_67 : decode cX6_streamRow 67 = .ok (.iastore, 1) := by decide +kernel
theorem dX6_streamRow_68 : decode cX6_streamRow 68 = .ok (.aload_n 0, 1) := by decide +kernel
theorem dX6_streamRow_69 : decode cX6_streamRow 69 = .ok (.getfield 13, 3) := by decide +kernel
theorem dX6_streamRow_72 : decode cX6_streamRow 72 = .ok (.iload_n 3, 1) := by decide +kernel
theorem dX6_streamRow_73 : decode cX6_streamRow 73 = .ok (.aload_n 0, 1) := by decide +kernel
theorem dX6_streamRow_74 : decode cX6_streamRow 74 = .ok (.getfield 7, 3) := by decide +kernel
theorem dX6_streamRow_77 : decode cX6_streamRow 77 = .ok (.iload_n 3, 1) := by decide +kernel
theorem dX6_streamRow_78 : decode cX6_streamRow 78 = .ok (.iaload, 1) := by decide +kernel
theorem dX6_streamRow_79 : decode cX6_streamRow 79 = .ok (.aload_n 0, 1) := by decide +kernel
theorem dX6_streamRow_80 : decode cX6_streamRow 80 = .ok (.getfield 129, 3) := by decide +kernel
theorem dX6_streamRow_83 : decode cX6_streamRow 83 = .ok (.aload_n 0, 1) := by decide +kernel
theorem dX6_streamRow_84 : decode cX6_streamRow 84 = .ok (.getfield 129, 3) := by decide +kernel
theorem dX6_streamRow_87 : decode cX6_streamRow 87 = .ok (.iload_n 1, 1) := by decide +kernel
theorem dX6_streamRow_88 : decode cX6_streamRow 88 = .ok (.iaload, 1) := by decide +kernel
theorem dX6_streamRow_89 : decode cX6_streamRow 89 = .ok (.aload_n 0, 1) := by decide +kernel
theorem dX6_streamRow_90 : decode cX6_streamRow 90 = .ok (.getfield 129, 3) := by decide +kernel
theorem dX6_streamRow_93 : decode cX6_streamRow 93 = .ok (.iload_n 2, 1) := by decide +kernel
theorem dX6_streamRow_94 : decode cX6_streamRow 94 = .ok (.iaload, 1) := by decide +kernel
theorem dX6_streamRow_95 : decode cX6_streamRow 95 = .ok (.iadd, 1) := by decide +kernel
theorem dX6_streamRow_96 : decode cX6_streamRow 96 = .ok (.sipush 256, 3) := by decide +kernel
theorem dX6_streamRow_99 : decode cX6_streamRow 99 = .ok (.irem, 1) := by decide +kernel
theorem dX6_streamRow_100 : decode cX6_streamRow 100 = .ok (.iaload, 1) := by decide +kernel
theorem dX6_streamRow_101 : decode cX6_streamRow 101 = .ok (.ixor, 1) := by decide +kernel
theorem dX6_streamRow_102 : decode cX6_streamRow 102 = .ok (.iastore, 1) := by decide +kernel
theorem dX6_streamRow_103 : decode cX6_streamRow 103 = .ok (.iinc 3 1, 3) := by decide +kernel
theorem dX6_streamRow_106 : decode cX6_streamRow 106 = .ok (.goto (-95), 3) := by decide +kernel
theorem dX6_streamRow_109 : decode cX6_streamRow 109 = .ok (.aload_n 0, 1) := by decide +kernel
theorem dX6_streamRow_110 : decode cX6_streamRow 110 = .ok (.aload_n 0, 1) := by decide +kernel
theorem dX6_streamRow_111 : decode cX6_streamRow 111 = .ok (.getfield 156, 3) := by decide +kernel
theorem dX6_streamRow_114 : decode cX6_streamRow 114 = .ok (.putfield 194, 3) := by decide +kernel
theorem dX6_streamRow_117 : decode cX6_streamRow 117 = .ok (.return_, 1) := by decide +kernel
theorem dX6_padWord_0 : decode cX6_padWord 0 = .ok (.iload_n 1, 1) := by decide +kernel
theorem dX6_padWord_1 : decode cX6_padWord 1 = .ok (.ifCond .ne 10, 3) := by decide +kernel
theorem dX6_padWord_4 : decode cX6_padWord 4 = .ok (.aload_n 0, 1) := by decide +kernel
theorem dX6_padWord_5 : decode cX6_padWord 5 = .ok (.getfield 156, 3) := by decide +kernel
theorem dX6_padWord_8 : decode cX6_padWord 8 = .ok (.goto 29, 3) := by decide +kernel
theorem dX6_padWord_11 : decode cX6_padWord 11 = .ok (.iload_n 1, 1) := by decide +kernel
theorem dX6_padWord_12 : decode cX6_padWord 12 = .ok (.iconst 1, 1) := by decide +kernel
theorem dX6_padWord_13 : decode cX6_padWord 13 = .ok (.if_icmp .ne 10, 3) := by decide +kernel
theorem dX6_padWord_16 : decode cX6_padWord 16 = .ok (.aload_n 0, 1) := by decide +kernel
theorem dX6_padWord_17 : decode cX6_padWord 17 = .ok (.getfield 197, 3) := by decide +kernel
theorem dX6_padWord_20 : decode cX6_padWord 20 = .ok (.goto 17, 3) := by decide +kernel
theorem dX6_padWord_23 : decode cX6_padWord 23 = .ok (.iload_n 1, 1) := by decide +kernel
theorem dX6_padWord_24 : decode cX6_padWord 24 = .ok (.iconst 2, 1) := by decide +kernel
theorem dX6_padWord_25 : decode cX6_padWord 25 = .ok (.if_icmp .ne 10, 3) := by decide +kernel
theorem dX6_padWord_28 : decode cX6_padWord 28 = .ok (.aload_n 0, 1) := by decide +kernel
theorem dX6_padWord_29 : decode cX6_padWord 29 = .ok (.getfield 200, 3) := by decide +kernel
theorem dX6_padWord_32 : decode cX6_padWord 32 = .ok (.goto 5, 3) := by decide +kernel
theorem dX6_padWord_35 : decode cX6_padWord 35 = .ok (.bipush 32, 2) := by decide +kernel
theorem dX6_padWord_37 : decode cX6_padWord 37 = .ok (.istore_n 2, 1) := by decide +kernel
theorem dX6_padWord_38 : decode cX6_padWord 38 = .ok (.iload_n 2, 1) := by decide +kernel
theorem dX6_padWord_39 : decode cX6_padWord 39 = .ok (.bipush 32, 2) := by decide +kernel
theorem dX6_padWord_41 : decode cX6_padWord 41 = .ok (.if_icmp .le 8, 3) := by decide +kernel
theorem dX6_padWord_44 : decode cX6_padWord 44 = .ok (.bipush 32, 2) := by decide +kernel
theorem dX6_padWord_46 : decode cX6_padWord 46 = .ok (.goto 4, 3) := by decide +kernel
theorem dX6_padWord_49 : decode cX6_padWord 49 = .ok (.iload_n 2, 1) := by decide +kernel
theorem dX6_padWord_50 : decode cX6_padWord 50 = .ok (.istore_n 2, 1) := by decide +kernel
theorem dX6_padWord_51 : decode cX6_padWord 51 = .ok (.iconst 0, 1) := by decide +kernel
theorem dX6_padWord_52 : decode cX6_padWord 52 = .ok (.istore_n 3, 1) := by decide +kernel
theorem dX6_padWord_53 : decode cX6_padWord 53 = .ok (.iload_n 3, 1) := by decide +kernel
theorem dX6_padWord_54 : decode cX6_padWord 54 = .ok (.bipush 32, 2) := by decide +kernel
theorem dX6_padWord_56 : decode cX6_padWord 56 = .ok (.if_icmp .ge 78, 3) := by decide +kernel
theorem dX6_padWord_59 : decode cX6_padWord 59 = .ok (.aload_n 0, 1) := by decide +kernel
theorem dX6_padWord_60 : decode cX6_padWord 60 = .ok (.getfield 135, 3) := by decide +kernel
theorem dX6_padWord_63 : decode cX6_padWord 63 = .ok (.iload_n 3, 1) := by decide +kernel
theorem dX6_padWord_64 : decode cX6_padWord 64 = .ok (.iload_n 3, 1) := by decide +kernel
theorem dX6_padWord_65 : decode cX6_padWord 65 = .ok (.iload_n 2, 1) := by decide +kernel
theorem dX6_padWord_66 : decode cX6_padWord 66 = .ok (.if_icmp .lt 14, 3) := by decide +kernel
theorem dX6_padWord_69 : decode cX6_padWord 69 = .ok (.aload_n 0, 1) := by decide +kernel
theorem dX6_padWord_70 : decode cX6_padWord 70 = .ok (.getfield 123, 3) := by decide +kernel
theorem dX6_padWord_73 : decode cX6_padWord 73 = .ok (.iload_n 3, 1) := by decide +kernel
theorem dX6_padWord_74 : decode cX6_padWord 74 = .ok (.iload_n 2, 1) := by decide +kernel
theorem dX6_padWord_75 : decode cX6_padWord 75 = .ok (.isub, 1) := by decide +kernel
theorem dX6_padWord_76 : decode cX6_padWord 76 = .ok (.iaload, 1) := by decide +kernel
theorem dX6_padWord_77 : decode cX6_padWord 77 = .ok (.goto 50, 3) := by decide +kernel
theorem dX6_padWord_80 : decode cX6_padWord 80 = .ok (.iload_n 1, 1) := by decide +kernel
theorem dX6_padWord_81 : decode cX6_padWord 81 = .ok (.ifCond .ne 12, 3) := by decide +kernel
theorem dX6_padWord_84 : decode cX6_padWord 84 = .ok (.aload_n 0, 1) := by decide +kernel
theorem dX6_padWord_85 : decode cX6_padWord 85 = .ok (.getfield 7, 3) := by decide +kernel
theorem dX6_padWord_88 : decode cX6_padWord 88 = .ok (.iload_n 3, 1) := by decide +kernel
theorem dX6_padWord_89 : decode cX6_padWord 89 = .ok (.iaload, 1) := by decide +kernel
theorem dX6_padWord_90 : decode cX6_padWord 90 = .ok (.goto 37, 3) := by decide +kernel
theorem dX6_padWord_93 : decode cX6_padWord 93 = .ok (.iload_n 1, 1) := by decide +kernel
theorem dX6_padWord_94 : decode cX6_padWord 94 = .ok (.iconst 1, 1) := by decide +kernel
theorem dX6_padWord_95 : decode cX6_padWord 95 = .ok (.if_icmp .ne 12, 3) := by decide +kernel
theorem dX6_padWord_98 : decode cX6_padWord 98 = .ok (.aload_n 0, 1) := by decide +kernel
theorem dX6_padWord_99 : decode cX6_padWord 99 = .ok (.getfield 35, 3) := by decide +kernel
theorem dX6_padWord_102 : decode cX6_padWord 102 = .ok (.iload_n 3, 1) := by decide +kernel
theorem dX6_padWord_103 : decode cX6_padWord 103 = .ok (.iaload, 1) := by decide +kernel
theorem dX6_padWord_104 : decode cX6_padWord 104 = .ok (.goto 23, 3) := by decide +kernel
theorem dX6_padWord_107 : decode cX6_padWord 107 = .ok (.iload_n 1, 1) := by decide +kernel
theorem dX6_padWord_108 : decode cX6_padWord 108 = .ok (.iconst 2, 1) := by decide +kernel
theorem dX6_padWord_109 : decode cX6_padWord 109 = .ok (.if_icmp .ne 12, 3) := by decide +kernel
theorem dX6_padWord_112 : decode cX6_padWord 112 = .ok (.aload_n 0, 1) := by decide +kernel
theorem dX6_padWord_113 : decode cX6_padWord 113 = .ok (.getfield 38, 3) := by decide +kernel
theorem dX6_padWord_116 : decode cX6_padWord 116 = .ok (.iload_n 3, 1) := by decide +kernel
theorem dX6_padWord_117 : decode cX6_padWord 117 = .ok (.iaload, 1) := by decide +kernel
theorem dX6_padWord_118 : decode cX6_padWord 118 = .ok (.goto 9, 3) := by decide +kernel
theorem dX6_padWord_121 : decode cX6_padWord 121 = .ok (.aload_n 0, 1) := by decide +kernel
theorem dX6_padWord_122 : decode cX6_padWord 122 = .ok (.getfield 132, 3) := by decide +kernel
theorem dX6_padWord_125 : decode cX6_padWord 125 = .ok (.iload_n 3, 1) := by decide +kernel
theorem dX6_padWord_126 : decode cX6_padWord 126 = .ok (.iaload, 1) := by decide +kernel
theorem dX6_padWord_127 : decode cX6_padWord 127 = .ok (.iastore, 1) := by decide +kernel
theorem dX6_padWord_128 : decode cX6_padWord 128 = .ok (.iinc 3 1, 3) := by decide +kernel
theorem dX6_padWord_131 : decode cX6_padWord 131 = .ok (.goto (-78), 3) := by decide +kernel
theorem dX6_padWord_134 : decode cX6_padWord 134 = .ok (.return_, 1) := by decide +kernel
theorem dX6_makeKey_0 : decode cX6_makeKey 0 = .ok (.iconst 0, 1) := by decide +kernel
theorem dX6_makeKey_1 : decode cX6_makeKey 1 = .ok (.istore_n 1, 1) := by decide +kernel
theorem dX6_makeKey_2 : decode cX6_makeKey 2 = .ok (.iload_n 1, 1) := by decide +kernel
theorem dX6_makeKey_3 : decode cX6_makeKey 3 = .ok (.bipush 32, 2) := by decide +kernel
theorem dX6_makeKey_5 : decode cX6_makeKey 5 = .ok (.if_icmp .ge 19, 3) := by decide +kernel
theorem dX6_makeKey_8 : decode cX6_makeKey 8 = .ok (.aload_n 0, 1) := by decide +kernel
theorem dX6_makeKey_9 : decode cX6_makeKey 9 = .ok (.aload_n 0, 1) := by decide +kernel
theorem dX6_makeKey_10 : decode cX6_makeKey 10 = .ok (.getfield 135, 3) := by decide +kernel
theorem dX6_makeKey_13 : decode cX6_makeKey 13 = .ok (.iload_n 1, 1) := by decide +kernel
theorem dX6_makeKey_14 : decode cX6_makeKey 14 = .ok (.iaload, 1) := by decide +kernel
theorem dX6_makeKey_15 : decode cX6_makeKey 15 = .ok (.invokevirtual 174, 3) := by decide +kernel
theorem dX6_makeKey_18 : decode cX6_makeKey 18 = .ok (.iinc 1 1, 3) := by decide +kernel
theorem dX6_makeKey_21 : decode cX6_makeKey 21 = .ok (.goto (-19), 3) := by decide +kernel
theorem dX6_makeKey_24 : decode cX6_makeKey 24 = .ok (.iconst 0, 1) := by decide +kernel
theorem dX6_makeKey_25 : decode cX6_makeKey 25 = .ok (.istore_n 1, 1) := by decide +kernel
theorem dX6_makeKey_26 : decode cX6_makeKey 26 = .ok (.iload_n 1, 1) := by decide +kernel
theorem dX6_makeKey_27 : decode cX6_makeKey 27 = .ok (.bipush 32, 2) := by decide +kernel
theorem dX6_makeKey_29 : decode cX6_makeKey 29 = .ok (.if_icmp .ge 19, 3) := by decide +kernel
theorem dX6_makeKey_32 : decode cX6_makeKey 32 = .ok (.aload_n 0, 1) := by decide +kernel
theorem dX6_makeKey_33 : decode cX6_makeKey 33 = .ok (.aload_n 0, 1) := by decide +kernel
theorem dX6_makeKey_34 : decode cX6_makeKey 34 = .ok (.getfield 26, 3) := by decide +kernel
theorem dX6_makeKey_37 : decode cX6_makeKey 37 = .ok (.iload_n 1, 1) := by decide +kernel
theorem dX6_makeKey_38 : decode cX6_makeKey 38 = .ok (.iaload, 1) := by decide +kernel
theorem dX6_makeKey_39 : decode cX6_makeKey 39 = .ok (.invokevirtual 174, 3) := by decide +kernel
theorem dX6_makeKey_42 : decode cX6_makeKey 42 = .ok (.iinc 1 1, 3) := by decide +kernel
theorem dX6_makeKey_45 : decode cX6_makeKey 45 = .ok (.goto (-19), 3) := by decide +kernel
theorem dX6_makeKey_48 : decode cX6_makeKey 48 = .ok (.iconst 0, 1) := by decide +kernel
theorem dX6_makeKey_49 : decode cX6_makeKey 49 = .ok (.istore_n 1, 1) := by decide +kernel
theorem dX6_makeKey_50 : decode cX6_makeKey 50 = .ok (.iload_n 1, 1) := by decide +kernel
theorem dX6_makeKey_51 : decode cX6_makeKey 51 = .ok (.iconst 4, 1) := by decide +kernel
theorem dX6_makeKey_52 : decode cX6_makeKey 52 = .ok (.if_icmp .ge 26, 3) := by decide +kernel
theorem dX6_makeKey_55 : decode cX6_makeKey 55 = .ok (.aload_n 0, 1) := by decide +kernel
theorem dX6_makeKey_56 : decode cX6_makeKey 56 = .ok (.aload_n 0, 1) := by decide +kernel
theorem dX6_makeKey_57 : decode cX6_makeKey 57 = .ok (.getfield 23, 3) := by decide +kernel
theorem dX6_makeKey_60 : decode cX6_makeKey 60 = .ok (.bipush 8, 2) := by decide +kernel
theorem dX6_makeKey_62 : decode cX6_makeKey 62 = .ok (.iload_n 1, 1) := by decide +kernel
theorem dX6_makeKey_63 : decode cX6_makeKey 63 = .ok (.imul, 1) := by decide +kernel
theorem dX6_makeKey_64 : decode cX6_makeKey 64 = .ok (.ishr, 1) := by decide +kernel
theorem dX6_makeKey_65 : decode cX6_makeKey 65 = .ok (.sipush 255, 3) := by decide +kernel
theorem dX6_makeKey_68 : decode cX6_makeKey 68 = .ok (.iand, 1) := by decide +kernel
theorem dX6_makeKey_69 : decode cX6_makeKey 69 = .ok (.invokevirtual 174, 3) := by decide +kernel
theorem dX6_makeKey_72 : decode cX6_makeKey 72 = .ok (.iinc 1 1, 3) := by decide +kernel
theorem dX6_makeKey_75 : decode cX6_makeKey 75 = .ok (.goto (-25), 3) := by decide +kernel
theorem dX6_makeKey_78 : decode cX6_makeKey 78 = .ok (.iconst 0, 1) := by decide +kernel
theorem dX6_makeKey_79 : decode cX6_makeKey 79 = .ok (.istore_n 1, 1) := by decide +kernel
theorem dX6_makeKey_80 : decode cX6_makeKey 80 = .ok (.iload_n 1, 1) := by decide +kernel
theorem dX6_makeKey_81 : decode cX6_makeKey 81 = .ok (.aload_n 0, 1) := by decide +kernel
theorem dX6_makeKey_82 : decode cX6_makeKey 82 = .ok (.getfield 203, 3) := by decide +kernel
theorem dX6_makeKey_85 : decode cX6_makeKey 85 = .ok (.if_icmp .ge 19, 3) := by decide +kernel
theorem dX6_makeKey_88 : decode cX6_makeKey 88 = .ok (.aload_n 0, 1) := by decide +kernel
theorem dX6_makeKey_89 : decode cX6_makeKey 89 = .ok (.aload_n 0, 1) := by decide +kernel
theorem dX6_makeKey_90 : decode cX6_makeKey 90 = .ok (.getfield 32, 3) := by decide +kernel
theorem dX6_makeKey_93 : decode cX6_makeKey 93 = .ok (.iload_n 1, 1) := by decide +kernel
theorem dX6_makeKey_94 : decode cX6_makeKey 94 = .ok (.iaload, 1) := by decide +kernel
theorem dX6_makeKey_95 : decode cX6_makeKey 95 = .ok (.invokevirtual 174, 3) := by decide +kernel
theorem dX6_makeKey_98 : decode cX6_makeKey 98 = .ok (.iinc 1 1, 3) := by decide +kernel
theorem dX6_makeKey_101 : decode cX6_makeKey 101 = .ok (.goto (-21), 3) := by decide +kernel
theorem dX6_makeKey_104 : decode cX6_makeKey 104 = .ok (.iconst 0, 1) := by decide +kernel
theorem dX6_makeKey_105 : decode cX6_makeKey 105 = .ok (.istore_n 1, 1) := by decide +kernel
theorem dX6_makeKey_106 : decode cX6_makeKey 106 = .ok (.iload_n 1, 1) := by decide +kernel
theorem dX6_makeKey_107 : decode cX6_makeKey 107 = .ok (.iconst 4, 1) := by decide +kernel
theorem dX6_makeKey_108 : decode cX6_makeKey 108 = .ok (.if_icmp .ge 31, 3) := by decide +kernel
theorem dX6_makeKey_111 : decode cX6_makeKey 111 = .ok (.aload_n 0, 1) := by decide +kernel
theorem dX6_makeKey_112 : decode cX6_makeKey 112 = .ok (.getfield 16, 3) := by decide +kernel
theorem dX6_makeKey_115 : decode cX6_makeKey 115 = .ok (.iconst 4, 1) := by decide +kernel
theorem dX6_makeKey_116 : decode cX6_makeKey 116 = .ok (.if_icmp .ne 23, 3) := by decide +kernel
theorem dX6_makeKey_119 : decode cX6_makeKey 119 = .ok (.aload_n 0, 1) := by decide +kernel
theorem dX6_makeKey_120 : decode cX6_makeKey 120 = .ok (.getfield 206, 3) := by decide +kernel
theorem dX6_makeKey_123 : decode cX6_makeKey 123 = .ok (.ifCond .eq 16, 3) := by decide +kernel
theorem dX6_makeKey_126 : decode cX6_makeKey 126 = .ok (.aload_n 0, 1) := by decide +kernel
theorem dX6_makeKey_127 : decode cX6_makeKey 127 = .ok (.sipush 255, 3) := by decide +kernel
theorem dX6_makeKey_130 : decode cX6_makeKey 130 = .ok (.invokevirtual 174, 3) := by decide +kernel
theorem dX6_makeKey_133 : decode cX6_makeKey 133 = .ok (.iinc 1 1, 3) := by decide +kernel
theorem dX6_makeKey_136 : decode cX6_makeKey 136 = .ok (.goto (-30), 3) := by decide +kernel
theorem dX6_makeKey_139 : decode cX6_makeKey 139 = .ok (.aload_n 0, 1) := by decide +kernel
theorem dX6_makeKey_140 : decode cX6_makeKey 140 = .ok (.invokevirtual 185, 3) := by decide +kernel
theorem dX6_makeKey_143 : decode cX6_makeKey 143 = .ok (.aload_n 0, 1) := by decide +kernel
theorem dX6_makeKey_144 : decode cX6_makeKey 144 = .ok (.aload_n 0, 1) := by decide +kernel
theorem dX6_makeKey_145 : decode cX6_makeKey 145 = .ok (.getfield 16, 3) := by decide +kernel
theorem dX6_makeKey_148 : decode cX6_makeKey 148 = .ok (.iconst 2, 1) := by decide +kernel
theorem dX6_makeKey_149 : decode cX6_makeKey 149 = .ok (.if_icmp .le 8, 3) := by decide +kernel
theorem dX6_makeKey_152 : decode cX6_makeKey 152 = .ok (.bipush 50, 2) := by decide +kernel
theorem dX6_makeKey_154 : decode cX6_makeKey 154 = .ok (.goto 4, 3) := by decide +kernel
theorem dX6_makeKey_157 : decode cX6_makeKey 157 = .ok (.iconst 0, 1) := by decide +kernel
theorem dX6_makeKey_158 : decode cX6_makeKey 158 = .ok (.aload_n 0, 1) := by decide +kernel
theorem dX6_makeKey_159 : decode cX6_makeKey 159 = .ok (.getfield 20, 3) := by decide +kernel
theorem dX6_makeKey_162 : decode cX6_makeKey 162 = .ok (.invokevirtual 210, 3) := by decide +kernel
theorem dX6_makeKey_165 : decode cX6_makeKey 165 = .ok (.aload_n 0, 1) := by decide +kernel
theorem dX6_makeKey_166 : decode cX6_makeKey 166 = .ok (.aload_n 0, 1) := by decide +kernel
theorem dX6_makeKey_167 : decode cX6_makeKey 167 = .ok (.getfield 20, 3) := by decide +kernel
theorem dX6_makeKey_170 : decode cX6_makeKey 170 = .ok (.invokevirtual 214, 3) := by decide +kernel
theorem dX6_makeKey_173 : decode cX6_makeKey 173 = .ok (.return_, 1) := by decide +kernel
theorem dX6_takeHand_0 : decode cX6_takeHand 0 = .ok (.aload_n 0, 1) := by decide +kernel
theorem dX6_takeHand_1 : decode cX6_takeHand 1 = .ok (.iload_n 1, 1) := by decide +kernel
theorem dX6_takeHand_2 : decode cX6_takeHand 2 = .ok (.putfield 188, 3) := by decide +kernel
theorem dX6_takeHand_5 : decode cX6_takeHand 5 = .ok (.iconst 0, 1) := by decide +kernel
theorem dX6_takeHand_6 : decode cX6_takeHand 6 = .ok (.istore_n 2, 1) := by decide +kernel
theorem dX6_takeHand_7 : decode cX6_takeHand 7 = .ok (.iload_n 2, 1) := by decide +kernel
theorem dX6_takeHand_8 : decode cX6_takeHand 8 = .ok (.iload_n 1, 1) := by decide +kernel
theorem dX6_takeHand_9 : decode cX6_takeHand 9 = .ok (.if_icmp .ge 21, 3) := by decide +kernel
theorem dX6_takeHand_12 : decode cX6_takeHand 12 = .ok (.aload_n 0, 1) := by decide +kernel
theorem dX6_takeHand_13 : decode cX6_takeHand 13 = .ok (.getfield 126, 3) := by decide +kernel
theorem dX6_takeHand_16 : decode cX6_takeHand 16 = .ok (.iload_n 2, 1) := by decide +kernel
theorem dX6_takeHand_17 : decode cX6_takeHand 17 = .ok (.aload_n 0, 1) := by decide +kernel
theorem dX6_takeHand_18 : decode cX6_takeHand 18 = .ok (.getfield 47, 3) := by decide +kernel
theorem dX6_takeHand_21 : decode cX6_takeHand 21 = .ok (.iload_n 2, 1) := by decide +kernel
theorem dX6_takeHand_22 : decode cX6_takeHand 22 = .ok (.iaload, 1) := by decide +kernel
theorem dX6_takeHand_23 : decode cX6_takeHand 23 = .ok (.iastore, 1) := by decide +kernel
theorem dX6_takeHand_24 : decode cX6_takeHand 24 = .ok (.iinc 2 1, 3) := by decide +kernel
theorem dX6_takeHand_27 : decode cX6_takeHand 27 = .ok (.goto (-20), 3) := by decide +kernel
theorem dX6_takeHand_30 : decode cX6_takeHand 30 = .ok (.return_, 1) := by decide +kernel
theorem dX6_makeOwnerKey_0 : decode cX6_makeOwnerKey 0 = .ok (.iconst 0, 1) := by decide +kernel
theorem dX6_makeOwnerKey_1 : decode cX6_makeOwnerKey 1 = .ok (.istore_n 1, 1) := by decide +kernel
theorem dX6_makeOwnerKey_2 : decode cX6_makeOwnerKey 2 = .ok (.iload_n 1, 1) := by decide +kernel
theorem dX6_makeOwnerKey_3 : decode cX6_makeOwnerKey 3 = .ok (.bipush 32, 2) := by decide +kernel
theorem dX6_makeOwnerKey_5 : decode cX6_makeOwnerKey 5 = .ok (.if_icmp .ge 19, 3) := by decide +kernel
theorem dX6_makeOwnerKey_8 : decode cX6_makeOwnerKey 8 = .ok (.aload_n 0, 1) := by decide +kernel
theorem dX6_makeOwnerKey_9 : decode cX6_makeOwnerKey 9 = .ok (.aload_n 0, 1) := by decide +kernel
theorem dX6_makeOwnerKey_10 : decode cX6_makeOwnerKey 10 = .ok (.getfield 135, 3) := by decide +kernel
theorem dX6_makeOwnerKey_13 : decode cX6_makeOwnerKey 13 = .ok (.iload_n 1, 1) := by decide +kernel
theorem dX6_makeOwnerKey_14 : decode cX6_makeOwnerKey 14 = .ok (.iaload, 1) := by decide +kernel
theorem dX6_makeOwnerKey_15 : decode cX6_makeOwnerKey 15 = .ok (.invokevirtual 174, 3) := by decide +kernel
theorem dX6_makeOwnerKey_18 : decode cX6_makeOwnerKey 18 = .ok (.iinc 1 1, 3) := by decide +kernel
theorem dX6_makeOwnerKey_21 : decode cX6_makeOwnerKey 21 = .ok (.goto (-19), 3) := by decide +kernel
theorem dX6_makeOwnerKey_24 : decode cX6_makeOwnerKey 24 = .ok (.aload_n 0, 1) := by decide +kernel
theorem dX6_makeOwnerKey_25 : decode cX6_makeOwnerKey 25 = .ok (.invokevirtual 185, 3) := by decide +kernel
theorem dX6_makeOwnerKey_28 : decode cX6_makeOwnerKey 28 = .ok (.aload_n 0, 1) := by decide +kernel
theorem dX6_makeOwnerKey_29 : decode cX6_makeOwnerKey 29 = .ok (.aload_n 0, 1) := by decide +kernel
theorem dX6_makeOwnerKey_30 : decode cX6_makeOwnerKey 30 = .ok (.getfield 16, 3) := by decide +kernel
theorem dX6_makeOwnerKey_33 : decode cX6_makeOwnerKey 33 = .ok (.iconst 2, 1) := by decide +kernel
theorem dX6_makeOwnerKey_34 : decode cX6_makeOwnerKey 34 = .ok (.if_icmp .le 8, 3) := by decide +kernel
theorem dX6_makeOwnerKey_37 : decode cX6_makeOwnerKey 37 = .ok (.bipush 50, 2) := by decide +kernel
theorem dX6_makeOwnerKey_39 : decode cX6_makeOwnerKey 39 = .ok (.goto 4, 3) := by decide +kernel
theorem dX6_makeOwnerKey_42 : decode cX6_makeOwnerKey 42 = .ok (.iconst 0, 1) := by decide +kernel
theorem dX6_makeOwnerKey_43 : decode cX6_makeOwnerKey 43 = .ok (.bipush 16, 2) := by decide +kernel
theorem dX6_makeOwnerKey_45 : decode cX6_makeOwnerKey 45 = .ok (.invokevirtual 210, 3) := by decide +kernel
theorem dX6_makeOwnerKey_48 : decode cX6_makeOwnerKey 48 = .ok (.aload_n 0, 1) := by decide +kernel
theorem dX6_makeOwnerKey_49 : decode cX6_makeOwnerKey 49 = .ok (.aload_n 0, 1) := by decide +kernel
theorem dX6_makeOwnerKey_50 : decode cX6_makeOwnerKey 50 = .ok (.getfield 20, 3) := by decide +kernel
theorem dX6_makeOwnerKey_53 : decode cX6_makeOwnerKey 53 = .ok (.invokevirtual 214, 3) := by decide +kernel
theorem dX6_makeOwnerKey_56 : decode cX6_makeOwnerKey 56 = .ok (.return_, 1) := by decide +kernel
theorem dX6_makeUserEntry_0 : decode cX6_makeUserEntry 0 = .ok (.iconst 0, 1) := by decide +kernel
theorem dX6_makeUserEntry_1 : decode cX6_makeUserEntry 1 = .ok (.istore_n 1, 1) := by decide +kernel
theorem dX6_makeUserEntry_2 : decode cX6_makeUserEntry 2 = .ok (.iload_n 1, 1) := by decide +kernel
theorem dX6_makeUserEntry_3 : decode cX6_makeUserEntry 3 = .ok (.bipush 32, 2) := by decide +kernel
theorem dX6_makeUserEntry_5 : decode cX6_makeUserEntry 5 = .ok (.if_icmp .ge 21, 3) := by decide +kernel
theorem dX6_makeUserEntry_8 : decode cX6_makeUserEntry 8 = .ok (.aload_n 0, 1) := by decide +kernel
theorem dX6_makeUserEntry_9 : decode cX6_makeUserEntry 9 = .ok (.getfield 132, 3) := by decide +kernel
theorem dX6_makeUserEntry_12 : decode cX6_makeUserEntry 12 = .ok (.iload_n 1, 1) := by decide +kernel
theorem dX6_makeUserEntry_13 : decode cX6_makeUserEntry 13 = .ok (.aload_n 0, 1) := by decide +kernel
theorem dX6_makeUserEntry_14 : decode cX6_makeUserEntry 14 = .ok (.getfield 123, 3) := by decide +kernel
theorem dX6_makeUserEntry_17 : decode cX6_makeUserEntry 17 = .ok (.iload_n 1, 1) := by decide +kernel
theorem dX6_makeUserEntry_18 : decode cX6_makeUserEntry 18 = .ok (.iaload, 1) := by decide +kernel
theorem dX6_makeUserEntry_19 : decode cX6_makeUserEntry 19 = .ok (.iastore, 1) := by decide +kernel
theorem dX6_makeUserEntry_20 : decode cX6_makeUserEntry 20 = .ok (.iinc 1 1, 3) := by decide +kernel
theorem dX6_makeUserEntry_23 : decode cX6_makeUserEntry 23 = .ok (.goto (-21), 3) := by decide +kernel
theorem dX6_makeUserEntry_26 : decode cX6_makeUserEntry 26 = .ok (.aload_n 0, 1) := by decide +kernel
theorem dX6_makeUserEntry_27 : decode cX6_makeUserEntry 27 = .ok (.getfield 16, 3) := by decide +kernel
theorem dX6_makeUserEntry_30 : decode cX6_makeUserEntry 30 = .ok (.iconst 2, 1) := by decide +kernel
theorem dX6_makeUserEntry_31 : decode cX6_makeUserEntry 31 = .ok (.if_icmp .ne 11, 3) := by decide +kernel
theorem dX6_makeUserEntry_34 : decode cX6_makeUserEntry 34 = .ok (.aload_n 0, 1) := by decide +kernel
theorem dX6_makeUserEntry_35 : decode cX6_makeUserEntry 35 = .ok (.iconst 0, 1) := by decide +kernel
theorem dX6_makeUserEntry_36 : decode cX6_makeUserEntry 36 = .ok (.bipush 32, 2) := by decide +kernel
theorem dX6_makeUserEntry_38 : decode cX6_makeUserEntry 38 = .ok (.invokevirtual 217, 3) := by decide +kernel
theorem dX6_makeUserEntry_41 : decode cX6_makeUserEntry 41 = .ok (.return_, 1) := by decide +kernel
theorem dX6_makeUserEntry_42 : decode cX6_makeUserEntry 42 = .ok (.iconst 0, 1) := by decide +kernel
theorem dX6_makeUserEntry_43 : decode cX6_makeUserEntry 43 = .ok (.istore_n 1, 1) := by decide +kernel
theorem dX6_makeUserEntry_44 : decode cX6_makeUserEntry 44 = .ok (.iload_n 1, 1) := by decide +kernel
theorem dX6_makeUserEntry_45 : decode cX6_makeUserEntry 45 = .ok (.bipush 32, 2) := by decide +kernel
theorem dX6_makeUserEntry_47 : decode cX6_makeUserEntry 47 = .ok (.if_icmp .ge 19, 3) := by decide +kernel
theorem dX6_makeUserEntry_50 : decode cX6_makeUserEntry 50 = .ok (.aload_n 0, 1) := by decide +kernel
theorem dX6_makeUserEntry_51 : decode cX6_makeUserEntry 51 = .ok (.aload_n 0, 1) := by decide +kernel
theorem dX6_makeUserEntry_52 : decode cX6_makeUserEntry 52 = .ok (.getfield 123, 3) := by decide +kernel
theorem dX6_makeUserEntry_55 : decode cX6_makeUserEntry 55 = .ok (.iload_n 1, 1) := by decide +kernel
theorem dX6_makeUserEntry_56 : decode cX6_makeUserEntry 56 = .ok (.iaload, 1) := by decide +kernel
theorem dX6_makeUserEntry_57 : decode cX6_makeUserEntry 57 = .ok (.invokevirtual 174, 3) := by decide +kernel
theorem dX6_makeUserEntry_60 : decode cX6_makeUserEntry 60 = .ok (.iinc 1 1, 3) := by decide +kernel
theorem dX6_makeUserEntry_63 : decode cX6_makeUserEntry 63 = .ok (.goto (-19), 3) := by decide +kernel
theorem dX6_makeUserEntry_66 : decode cX6_makeUserEntry 66 = .ok (.iconst 0, 1) := by decide +kernel
theorem dX6_makeUserEntry_67 : decode cX6_makeUserEntry 67 = .ok (.istore_n 1, 1) := by decide +kernel
theorem dX6_makeUserEntry_68 : decode cX6_makeUserEntry 68 = .ok (.iload_n 1, 1) := by decide +kernel
theorem dX6_makeUserEntry_69 : decode cX6_makeUserEntry 69 = .ok (.aload_n 0, 1) := by decide +kernel
theorem dX6_makeUserEntry_70 : decode cX6_makeUserEntry 70 = .ok (.getfield 203, 3) := by decide +kernel
theorem dX6_makeUserEntry_73 : decode cX6_makeUserEntry 73 = .ok (.if_icmp .ge 19, 3) := by decide +kernel
theorem dX6_makeUserEntry_76 : decode cX6_makeUserEntry 76 = .ok (.aload_n 0, 1) := by decide +kernel
theorem dX6_makeUserEntry_77 : decode cX6_makeUserEntry 77 = .ok (.aload_n 0, 1) := by decide +kernel
theorem dX6_makeUserEntry_78 : decode cX6_makeUserEntry 78 = .ok (.getfield 32, 3) := by decide +kernel
theorem dX6_makeUserEntry_81 : decode cX6_makeUserEntry 81 = .ok (.iload_n 1, 1) := by decide +kernel
theorem dX6_makeUserEntry_82 : decode cX6_makeUserEntry 82 = .ok (.iaload, 1) := by decide +kernel
theorem dX6_makeUserEntry_83 : decode cX6_makeUserEntry 83 = .ok (.invokevirtual 174, 3) := by decide +kernel
theorem dX6_makeUserEntry_86 : decode cX6_makeUserEntry 86 = .ok (.iinc 1 1, 3) := by decide +kernel
theorem dX6_makeUserEntry_89 : decode cX6_makeUserEntry 89 = .ok (.goto (-21), 3) := by decide +kernel
theorem dX6_makeUserEntry_92 : decode cX6_makeUserEntry 92 = .ok (.aload_n 0, 1) := by decide +kernel
theorem dX6_makeUserEntry_93 : decode cX6_makeUserEntry 93 = .ok (.invokevirtual 185, 3) := by decide +kernel
theorem dX6_makeUserEntry_96 : decode cX6_makeUserEntry 96 = .ok (.iconst 0, 1) := by decide +kernel
theorem dX6_makeUserEntry_97 : decode cX6_makeUserEntry 97 = .ok (.istore_n 1, 1) := by decide +kernel
theorem dX6_makeUserEntry_98 : decode cX6_makeUserEntry 98 = .ok (.iload_n 1, 1) := by decide +kernel
theorem dX6_makeUserEntry_99 : decode cX6_makeUserEntry 99 = .ok (.bipush 32, 2) := by decide +kernel
theorem dX6_makeUserEntry_101 : decode cX6_makeUserEntry 101 = .ok (.if_icmp .ge 31, 3) := by decide +kernel
theorem dX6_makeUserEntry_104 : decode cX6_makeUserEntry 104 = .ok (.aload_n 0, 1) := by decide +kernel
theorem dX6_makeUserEntry_105 : decode cX6_makeUserEntry 105 = .ok (.getfield 132, 3) := by decide +kernel
theorem dX6_makeUserEntry_108 : decode cX6_makeUserEntry 108 = .ok (.iload_n 1, 1) := by decide +kernel
theorem dX6_makeUserEntry_109 : decode cX6_makeUserEntry 109 = .ok (.iload_n 1, 1) := by decide +kernel
theorem dX6_makeUserEntry_110 : decode cX6_makeUserEntry 110 = .ok (.bipush 16, 2) := by decide +kernel
theorem dX6_makeUserEntry_112 : decode cX6_makeUserEntry 112 = .ok (.if_icmp .ge 12, 3) := by decide +kernel
theorem dX6_makeUserEntry_115 : decode cX6_makeUserEntry 115 = .ok (.aload_n 0, 1) := by decide +kernel
theorem dX6_makeUserEntry_116 : decode cX6_makeUserEntry 116 = .ok (.getfield 47, 3) := by decide +kernel
theorem dX6_makeUserEntry_119 : decode cX6_makeUserEntry 119 = .ok (.iload_n 1, 1) := by decide +kernel
theorem dX6_makeUserEntry_120 : decode cX6_makeUserEntry 120 = .ok (.iaload, 1) := by decide +kernel
theorem dX6_makeUserEntry_121 : decode cX6_makeUserEntry 121 = .ok (.goto 4, 3) := by decide +kernel
theorem dX6_makeUserEntry_124 : decode cX6_makeUserEntry 124 = .ok (.iconst 0, 1) := by decide +kernel
theorem dX6_makeUserEntry_125 : decode cX6_makeUserEntry 125 = .ok (.iastore, 1) := by decide +kernel
theorem dX6_makeUserEntry_126 : decode cX6_makeUserEntry 126 = .ok (.iinc 1 1, 3) := by decide +kernel
theorem dX6_makeUserEntry_129 : decode cX6_makeUserEntry 129 = .ok (.goto (-31), 3) := by decide +kernel
theorem dX6_makeUserEntry_132 : decode cX6_makeUserEntry 132 = .ok (.iconst 0, 1) := by decide +kernel
theorem dX6_makeUserEntry_133 : decode cX6_makeUserEntry 133 = .ok (.istore_n 1, 1) := by decide +kernel
theorem dX6_makeUserEntry_134 : decode cX6_makeUserEntry 134 = .ok (.iload_n 1, 1) := by decide +kernel
