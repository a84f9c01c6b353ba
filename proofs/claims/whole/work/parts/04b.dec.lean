theorem dX12_init_0 : decode cX12_init 0 = .ok (.aload_n 0, 1) := by decide +kernel
theorem dX12_init_1 : decode cX12_init 1 = .ok (.invokespecial 1, 3) := by decide +kernel
theorem dX12_init_4 : decode cX12_init 4 = .ok (.aload_n 0, 1) := by decide +kernel
theorem dX12_init_5 : decode cX12_init 5 = .ok (.sipush 500, 3) := by decide +kernel
theorem dX12_init_8 : decode cX12_init 8 = .ok (.newarray .int, 2) := by decide +kernel
theorem dX12_init_10 : decode cX12_init 10 = .ok (.putfield 7, 3) := by decide +kernel
theorem dX12_init_13 : decode cX12_init 13 = .ok (.aload_n 0, 1) := by decide +kernel
theorem dX12_init_14 : decode cX12_init 14 = .ok (.bipush 100, 2) := by decide +kernel
theorem dX12_init_16 : decode cX12_init 16 = .ok (.putfield 13, 3) := by decide +kernel
theorem dX12_init_19 : decode cX12_init 19 = .ok (.aload_n 0, 1) := by decide +kernel
theorem dX12_init_20 : decode cX12_init 20 = .ok (.bipush 100, 2) := by decide +kernel
theorem dX12_init_22 : decode cX12_init 22 = .ok (.putfield 17, 3) := by decide +kernel
theorem dX12_init_25 : decode cX12_init 25 = .ok (.aload_n 0, 1) := by decide +kernel
theorem dX12_init_26 : decode cX12_init 26 = .ok (.iconst 4, 1) := by decide +kernel
theorem dX12_init_27 : decode cX12_init 27 = .ok (.putfield 20, 3) := by decide +kernel
theorem dX12_init_30 : decode cX12_init 30 = .ok (.aload_n 0, 1) := by decide +kernel
theorem dX12_init_31 : decode cX12_init 31 = .ok (.iconst 1, 1) := by decide +kernel
theorem dX12_init_32 : decode cX12_init 32 = .ok (.putfield 23, 3) := by decide +kernel
theorem dX12_init_35 : decode cX12_init 35 = .ok (.aload_n 0, 1) := by decide +kernel
theorem dX12_init_36 : decode cX12_init 36 = .ok (.sipush 9999, 3) := by decide +kernel
theorem dX12_init_39 : decode cX12_init 39 = .ok (.putfield 26, 3) := by decide +kernel
theorem dX12_init_42 : decode cX12_init 42 = .ok (.aload_n 0, 1) := by decide +kernel
theorem dX12_init_43 : decode cX12_init 43 = .ok (.bipush 34, 2) := by decide +kernel
theorem dX12_init_45 : decode cX12_init 45 = .ok (.newarray .int, 2) := by decide +kernel
theorem dX12_init_47 : decode cX12_init 47 = .ok (.dup, 1) := by decide +kernel
theorem dX12_init_48 : decode cX12_init 48 = .ok (.iconst 0, 1) := by decide +kernel
theorem dX12_init_49 : decode cX12_init 49 = .ok (.bipush 102, 2) := by decide +kernel
theorem dX12_init_51 : decode cX12_init 51 = .ok (.iastore, 1) := by decide +kernel
theorem dX12_init_52 : decode cX12_init 52 = .ok (.dup, 1) := by decide +kernel
theorem dX12_init_53 : decode cX12_init 53 = .ok (.iconst 1, 1) := by decide +kernel
theorem dX12_init_54 : decode cX12_init 54 = .ok (.bipush 111, 2) := by decide +kernel
theorem dX12_init_56 : decode cX12_init 56 = .ok (.iastore, 1) := by decide +kernel
theorem dX12_init_57 : decode cX12_init 57 = .ok (.dup, 1) := by decide +kernel
theorem dX12_init_58 : decode cX12_init 58 = .ok (.iconst 2, 1) := by decide +kernel
theorem dX12_init_59 : decode cX12_init 59 = .ok (.bipush 114, 2) := by decide +kernel
theorem dX12_init_61 : decode cX12_init 61 = .ok (.iastore, 1) := by decide +kernel
theorem dX12_init_62 : decode cX12_init 62 = .ok (.dup, 1) := by decide +kernel
theorem dX12_init_63 : decode cX12_init 63 = .ok (.iconst 3, 1) := by decide +kernel
theorem dX12_init_64 : decode cX12_init 64 = .ok (.bipush 109, 2) := by decide +kernel
theorem dX12_init_66 : decode cX12_init 66 = .ok (.iastore, 1) := by decide +kernel
theorem dX12_init_67 : decode cX12_init 67 = .ok (.dup, 1) := by decide +kernel
theorem dX12_init_68 : decode cX12_init 68 = .ok (.iconst 4, 1) := by decide +kernel
theorem dX12_init_69 : decode cX12_init 69 = .ok (.bipush 32, 2) := by decide +kernel
theorem dX12_init_71 : decode cX12_init 71 = .ok (.iastore, 1) := by decide +kernel
theorem dX12_init_72 : decode cX12_init 72 = .ok (.dup, 1) := by decide +kernel
theorem dX12_init_73 : decode cX12_init 73 = .ok (.iconst 5, 1) := by decide +kernel
theorem dX12_init_74 : decode cX12_init 74 = .ok (.bipush 112, 2) := by decide +kernel
theorem dX12_init_76 : decode cX12_init 76 = .ok (.iastore, 1) := by decide +kernel
theorem dX12_init_77 : decode cX12_init 77 = .ok (.dup, 1) := by decide +kernel
theorem dX12_init_78 : decode cX12_init 78 = .ok (.bipush 6, 2) := by decide +kernel
theorem dX12_init_80 : decode cX12_init 80 = .ok (.bipush 117, 2) := by decide +kernel
theorem dX12_init_82 : decode cX12_init 82 = .ok (.iastore, 1) := by decide +kernel
theorem dX12_init_83 : decode cX12_init 83 = .ok (.dup, 1) := by decide +kernel
theorem dX12_init_84 : decode cX12_init 84 = .ok (.bipush 7, 2) := by decide +kernel
theorem dX12_init_86 : decode cX12_init 86 = .ok (.bipush 116, 2) := by decide +kernel
theorem dX12_init_88 : decode cX12_init 88 = .ok (.iastore, 1) := by decide +kernel
theorem dX12_init_89 : decode cX12_init 89 = .ok (.dup, 1) := by decide +kernel
theorem dX12_init_90 : decode cX12_init 90 = .ok (.bipush 8, 2) := by decide +kernel
theorem dX12_init_92 : decode cX12_init 92 = .ok (.bipush 32, 2) := by decide +kernel
theorem dX12_init_94 : decode cX12_init 94 = .ok (.iastore, 1) := by decide +kernel
theorem dX12_init_95 : decode cX12_init 95 = .ok (.dup, 1) := by decide +kernel
theorem dX12_init_96 : decode cX12_init 96 = .ok (.bipush 9, 2) := by decide +kernel
theorem dX12_init_98 : decode cX12_init 98 = .ok (.bipush 108, 2) := by decide +kernel
theorem dX12_init_100 : decode cX12_init 100 = .ok (.iastore, 1) := by decide +kernel
theorem dX12_init_101 : decode cX12_init 101 = .ok (.dup, 1) := by decide +kernel
theorem dX12_init_102 : decode cX12_init 102 = .ok (.bipush 10, 2) := by decide +kernel
theorem dX12_init_104 : decode cX12_init 104 = .ok (.bipush 105, 2) := by decide +kernel
theorem dX12_init_106 : decode cX12_init 106 = .ok (.iastore, 1) := by decide +kernel
theorem dX12_init_107 : decode cX12_init 107 = .ok (.dup, 1) := by decide +kernel
theorem dX12_init_108 : decode cX12_init 108 = .ok (.bipush 11, 2) := by decide +kernel
theorem dX12_init_110 : decode cX12_init 110 = .ok (.bipush 110, 2) := by decide +kernel
theorem dX12_init_112 : decode cX12_init 112 = .ok (.iastore, 1) := by decide +kernel
theorem dX12_init_113 : decode cX12_init 113 = .ok (.dup, 1) := by decide +kernel
theorem dX12_init_114 : decode cX12_init 114 = .ok (.bipush 12, 2) := by decide +kernel
theorem dX12_init_116 : decode cX12_init 116 = .ok (.bipush 101, 2) := by decide +kernel
theorem dX12_init_118 : decode cX12_init 118 = .ok (.iastore, 1) := by decide +kernel
theorem dX12_init_119 : decode cX12_init 119 = .ok (.dup, 1) := by decide +kernel
theorem dX12_init_120 : decode cX12_init 120 = .ok (.bipush 13, 2) := by decide +kernel
theorem dX12_init_122 : decode cX12_init 122 = .ok (.bipush 32, 2) := by decide +kernel
theorem dX12_init_124 : decode cX12_init 124 = .ok (.iastore, 1) := by decide +kernel
theorem dX12_init_125 : decode cX12_init 125 = .ok (.dup, 1) := by decide +kernel
theorem dX12_init_126 : decode cX12_init 126 = .ok (.bipush 14, 2) := by decide +kernel
theorem dX12_init_128 : decode cX12_init 128 = .ok (.bipush 116, 2) := by decide +kernel
theorem dX12_init_130 : decode cX12_init 130 = .ok (.iastore, 1) := by decide +kernel
theorem dX12_init_131 : decode cX12_init 131 = .ok (.dup, 1) := by decide +kernel
theorem dX12_init_132 : decode cX12_init 132 = .ok (.bipush 15, 2) := by decide +kernel
theorem dX12_init_134 : decode cX12_init 134 = .ok (.bipush 111, 2) := by decide +kernel
theorem dX12_init_136 : decode cX12_init 136 = .ok (.iastore, 1) := by decide +kernel
theorem dX12_init_137 : decode cX12_init 137 = .ok (.dup, 1) := by decide +kernel
theorem dX12_init_138 : decode cX12_init 138 = .ok (.bipush 16, 2) := by decide +kernel
theorem dX12_init_140 : decode cX12_init 140 = .ok (.bipush 32, 2) := by decide +kernel
theorem dX12_init_142 : decode cX12_init 142 = .ok (.iastore, 1) := by decide +kernel
theorem dX12_init_143 : decode cX12_init 143 = .ok (.dup, 1) := by decide +kernel
theorem dX12_init_144 : decode cX12_init 144 = .ok (.bipush 17, 2) := by decide +kernel
theorem dX12_init_146 : decode cX12_init 146 = .ok (.bipush 104, 2) := by decide +kernel
theorem dX12_init_148 : decode cX12_init 148 = .ok (.iastore, 1) := by decide +kernel
theorem dX12_init_149 : decode cX12_init 149 = .ok (.dup, 1) := by decide +kernel
theorem dX12_init_150 : decode cX12_init 150 = .ok (.bipush 18, 2) := by decide +kernel
theorem dX12_init_152 : decode cX12_init 152 = .ok (.bipush 97, 2) := by decide +kernel
theorem dX12_init_154 : decode cX12_init 154 = .ok (.iastore, 1) := by decide +kernel
theorem dX12_init_155 : decode cX12_init 155 = .ok (.dup, 1) := by decide +kernel
theorem dX12_init_156 : decode cX12_init 156 = .ok (.bipush 19, 2) := by decide +kernel
theorem dX12_init_158 : decode cX12_init 158 = .ok (.bipush 116, 2) := by decide +kernel
theorem dX12_init_160 : decode cX12_init 160 = .ok (.iastore, 1) := by decide +kernel
theorem dX12_init_161 : decode cX12_init 161 = .ok (.dup, 1) := by decide +kernel
theorem dX12_init_162 : decode cX12_init 162 = .ok (.bipush 20, 2) := by decide +kernel
theorem dX12_init_164 : decode cX12_init 164 = .ok (.bipush 99, 2) := by decide +kernel
theorem dX12_init_166 : decode cX12_init 166 = .ok (.iastore, 1) := by decide +kernel
theorem dX12_init_167 : decode cX12_init 167 = .ok (.dup, 1) := by decide +kernel
theorem dX12_init_168 : decode cX12_init 168 = .ok (.bipush 21, 2) := by decide +kernel
theorem dX12_init_170 : decode cX12_init 170 = .ok (.bipush 104, 2) := by decide +kernel
theorem dX12_init_172 : decode cX12_init 172 = .ok (.iastore, 1) := by decide +kernel
theorem dX12_init_173 : decode cX12_init 173 = .ok (.dup, 1) := by decide +kernel
theorem dX12_init_174 : decode cX12_init 174 = .ok (.bipush 22, 2) := by decide +kernel
theorem dX12_init_176 : decode cX12_init 176 = .ok (.bipush 32, 2) := by decide +kernel
theorem dX12_init_178 : decode cX12_init 178 = .ok (.iastore, 1) := by decide +kernel
theorem dX12_init_179 : decode cX12_init 179 = .ok (.dup, 1) := by decide +kernel
theorem dX12_init_180 : decode cX12_init 180 = .ok (.bipush 23, 2) := by decide +kernel
theorem dX12_init_182 : decode cX12_init 182 = .ok (.bipush 99, 2) := by decide +kernel
theorem dX12_init_184 : decode cX12_init 184 = .ok (.iastore, 1) := by decide +kernel
theorem dX12_init_185 : decode cX12_init 185 = .ok (.dup, 1) := by decide +kernel
theorem dX12_init_186 : decode cX12_init 186 = .ok (.bipush 24, 2) := by decide +kernel
theorem dX12_init_188 : decode cX12_init 188 = .ok (.bipush 108, 2) := by decide +kernel
theorem dX12_init_190 : decode cX12_init 190 = .ok (.iastore, 1) := by decide +kernel
theorem dX12_init_191 : decode cX12_init 191 = .ok (.dup, 1) := by decide +kernel
theorem dX12_init_192 : decode cX12_init 192 = .ok (.bipush 25, 2) := by decide +kernel
theorem dX12_init_194 : decode cX12_init 194 = .ok (.bipush 105, 2) := by decide +kernel
theorem dX12_init_196 : decode cX12_init 196 = .ok (.iastore, 1) := by decide +kernel
theorem dX12_init_197 : decode cX12_init 197 = .ok (.dup, 1) := by decide +kernel
theorem dX12_init_198 : decode cX12_init 198 = .ok (.bipush 26, 2) := by decide +kernel
theorem dX12_init_200 : decode cX12_init 200 = .ok (.bipush 112, 2) := by decide +kernel
theorem dX12_init_202 : decode cX12_init 202 = .ok (.iastore, 1) := by decide +kernel
theorem dX12_init_203 : decode cX12_init 203 = .ok (.dup, 1) := by decide +kernel
theorem dX12_init_204 : decode cX12_init 204 = .ok (.bipush 27, 2) := by decide +kernel
theorem dX12_init_206 : decode cX12_init 206 = .ok (.bipush 32, 2) := by decide +kernel
theorem dX12_init_208 : decode cX12_init 208 = .ok (.iastore, 1) := by decide +kernel
theorem dX12_init_209 : decode cX12_init 209 = .ok (.dup, 1) := by decide +kernel
theorem dX12_init_210 : decode cX12_init 210 = .ok (.bipush 28, 2) := by decide +kernel
theorem dX12_init_212 : decode cX12_init 212 = .ok (.bipush 97, 2) := by decide +kernel
theorem dX12_init_214 : decode cX12_init 214 = .ok (.iastore, 1) := by decide +kernel
theorem dX12_init_215 : decode cX12_init 215 = .ok (.dup, 1) := by decide +kernel
theorem dX12_init_216 : decode cX12_init 216 = .ok (.bipush 29, 2) := by decide +kernel
theorem dX12_init_218 : decode cX12_init 218 = .ok (.bipush 103, 2) := by decide +kernel
theorem dX12_init_220 : decode cX12_init 220 = .ok (.iastore, 1) := by decide +kernel
theorem dX12_init_221 : decode cX12_init 221 = .ok (.dup, 1) := by decide +kernel
theorem dX12_init_222 : decode cX12_init 222 = .ok (.bipush 30, 2) := by decide +kernel
theorem dX12_init_224 : decode cX12_init 224 = .ok (.bipush 97, 2) := by decide +kernel
theorem dX12_init_226 : decode cX12_init 226 = .ok (.iastore, 1) := by decide +kernel
theorem dX12_init_227 : decode cX12_init 227 = .ok (.dup, 1) := by decide +kernel
theorem dX12_init_228 : decode cX12_init 228 = .ok (.bipush 31, 2) := by decide +kernel
theorem dX12_init_230 : decode cX12_init 230 = .ok (.bipush 105, 2) := by decide +kernel
theorem dX12_init_232 : decode cX12_init 232 = .ok (.iastore, 1) := by decide +kernel
theorem dX12_init_233 : decode cX12_init 233 = .ok (.dup, 1) := by decide +kernel
theorem dX12_init_234 : decode cX12_init 234 = .ok (.bipush 32, 2) := by decide +kernel
theorem dX12_init_236 : decode cX12_init 236 = .ok (.bipush 110, 2) := by decide +kernel
theorem dX12_init_238 : decode cX12_init 238 = .ok (.iastore, 1) := by decide +kernel
theorem dX12_init_239 : decode cX12_init 239 = .ok (.dup, 1) := by decide +kernel
theorem dX12_init_240 : decode cX12_init 240 = .ok (.bipush 33, 2) := by decide +kernel
theorem dX12_init_242 : decode cX12_init 242 = .ok (.bipush 32, 2) := by decide +kernel
theorem dX12_init_244 : decode cX12_init 244 = .ok (.iastore, 1) := by decide +kernel
theorem dX12_init_245 : decode cX12_init 245 = .ok (.putfield 29, 3) := by decide +kernel
theorem dX12_init_248 : decode cX12_init 248 = .ok (.aload_n 0, 1) := by decide +kernel
theorem dX12_init_249 : decode cX12_init 249 = .ok (.iconst (-1), 1) := by decide +kernel
theorem dX12_init_250 : decode cX12_init 250 = .ok (.putfield 32, 3) := by decide +kernel
theorem dX12_init_253 : decode cX12_init 253 = .ok (.aload_n 0, 1) := by decide +kernel
theorem dX12_init_254 : decode cX12_init 254 = .ok (.bipush 60, 2) := by decide +kernel
theorem dX12_init_256 : decode cX12_init 256 = .ok (.newarray .int, 2) := by decide +kernel
theorem dX12_init_258 : decode cX12_init 258 = .ok (.putfield 35, 3) := by decide +kernel
theorem dX12_init_261 : decode cX12_init 261 = .ok (.aload_n 0, 1) := by decide +kernel
theorem dX12_init_262 : decode cX12_init 262 = .ok (.sipush 300, 3) := by decide +kernel
theorem dX12_init_265 : decode cX12_init 265 = .ok (.newarray .int, 2) := by decide +kernel
theorem dX12_init_267 : decode cX12_init 267 = .ok (.putfield 38, 3) := by decide +kernel
theorem dX12_init_270 : decode cX12_init 270 = .ok (.aload_n 0, 1) := by decide +kernel
theorem dX12_init_271 : decode cX12_init 271 = .ok (.bipush 60, 2) := by decide +kernel
theorem dX12_init_273 : decode cX12_init 273 = .ok (.newarray .int, 2) := by decide +kernel
theorem dX12_init_275 : decode cX12_init 275 = .ok (.putfield 41, 3) := by decide +kernel
theorem dX12_init_278 : decode cX12_init 278 = .ok (.aload_n 0, 1) := by decide +kernel
theorem dX12_init_279 : decode cX12_init 279 = .ok (.iconst 5, 1) := by decide +kernel
theorem dX12_init_280 : decode cX12_init 280 = .ok (.newarray .int, 2) := by decide +kernel
theorem dX12_init_282 : decode cX12_init 282 = .ok (.putfield 44, 3) := by decide +kernel
theorem dX12_init_285 : decode cX12_init 285 = .ok (.aload_n 0, 1) := by decide +kernel
theorem dX12_init_286 : decode cX12_init 286 = .ok (.bipush 8, 2) := by decide +kernel
theorem dX12_init_288 : decode cX12_init 288 = .ok (.newarray .int, 2) := by decide +kernel
theorem dX12_init_290 : decode cX12_init 290 = .ok (.putfield 47, 3) := by decide +kernel
theorem dX12_init_293 : decode cX12_init 293 = .ok (.aload_n 0, 1) := by decide +kernel
theorem dX12_init_294 : decode cX12_init 294 = .ok (.bipush 8, 2) := by decide +kernel
theorem dX12_init_296 : decode cX12_init 296 = .ok (.newarray .int, 2) := by decide +kernel
theorem dX12_init_298 : decode cX12_init 298 = .ok (.putfield 50, 3) := by decide +kernel
theorem dX12_init_301 : decode cX12_init 301 = .ok (.aload_n 0, 1) := by decide +kernel
theorem dX12_init_302 : decode cX12_init 302 = .ok (.bipush 96, 2) := by decide +kernel
theorem dX12_init_304 : decode cX12_init 304 = .ok (.newarray .int, 2) := by decide +kernel
theorem dX12_init_306 : decode cX12_init 306 = .ok (.putfield 53, 3) := by decide +kernel
theorem dX12_init_309 : decode cX12_init 309 = .ok (.aload_n 0, 1) := by decide +kernel
theorem dX12_init_310 : decode cX12_init 310 = .ok (.bipush 96, 2) := by decide +kernel
theorem dX12_init_312 : decode cX12_init 312 = .ok (.newarray .int, 2) := by decide +kernel
theorem dX12_init_314 : decode cX12_init 314 = .ok (.putfield 56, 3) := by decide +kernel
theorem dX12_init_317 : decode cX12_init 317 = .ok (.aload_n 0, 1) := by decide +kernel
theorem dX12_init_318 : decode cX12_init 318 = .ok (.sipush 302, 3) := by decide +kernel
theorem dX12_init_321 : decode cX12_init 321 = .ok (.newarray .int, 2) := by decide +kernel
theorem dX12_init_323 : decode cX12_init 323 = .ok (.putfield 59, 3) := by decide +kernel
theorem dX12_init_326 : decode cX12_init 326 = .ok (.aload_n 0, 1) := by decide +kernel
theorem dX12_init_327 : decode cX12_init 327 = .ok (.sipush 302, 3) := by decide +kernel
theorem dX12_init_330 : decode cX12_init 330 = .ok (.newarray .int, 2) := by decide +kernel
theorem dX12_init_332 : decode cX12_init 332 = .ok (.putfield 62, 3) := by decide +kernel
theorem dX12_init_335 : decode cX12_init 335 = .ok (.aload_n 0, 1) := by decide +kernel
theorem dX12_init_336 : decode cX12_init 336 = .ok (.sipush 302, 3) := by decide +kernel
theorem dX12_init_339 : decode cX12_init 339 = .ok (.newarray .boolean, 2) := by decide +kernel
theorem dX12_init_341 : decode cX12_init 341 = .ok (.putfield 65, 3) := by decide +kernel
theorem dX12_init_344 : decode cX12_init 344 = .ok (.aload_n 0, 1) := by decide +kernel
theorem dX12_init_345 : decode cX12_init 345 = .ok (.iconst 4, 1) := by decide +kernel
theorem dX12_init_346 : decode cX12_init 346 = .ok (.newarray .int, 2) := by decide +kernel
theorem dX12_init_348 : decode cX12_init 348 = .ok (.putfield 69, 3) := by decide +kernel
theorem dX12_init_351 : decode cX12_init 351 = .ok (.aload_n 0, 1) := by decide +kernel
theorem dX12_init_352 : decode cX12_init 352 = .ok (.iconst 5, 1) := by decide +kernel
theorem dX12_init_353 : decode cX12_init 353 = .ok (.newarray .int, 2) := by decide +kernel
theorem dX12_init_355 : decode cX12_init 355 = .ok (.putfield 72, 3) := by decide +kernel
theorem dX12_init_358 : decode cX12_init 358 = .ok (.aload_n 0, 1) := by decide +kernel
theorem dX12_init_359 : decode cX12_init 359 = .ok (.iconst 5, 1) := by decide +kernel
theorem dX12_init_360 : decode cX12_init 360 = .ok (.newarray .int, 2) := by decide +kernel
theorem dX12_init_362 : decode cX12_init 362 = .ok (.putfield 75, 3) := by decide +kernel
theorem dX12_init_365 : decode cX12_init 365 = .ok (.aload_n 0, 1) := by decide +kernel
theorem dX12_init_366 : decode cX12_init 366 = .ok (.bipush 30, 2) := by decide +kernel
theorem dX12_init_368 : decode cX12_init 368 = .ok (.newarray .int, 2) := by decide +kernel
theorem dX12_init_370 : decode cX12_init 370 = .ok (.putfield 78, 3) := by decide +kernel
theorem dX12_init_373 : decode cX12_init 373 = .ok (.aload_n 0, 1) := by decide +kernel
theorem dX12_init_374 : decode cX12_init 374 = .ok (.iconst 2, 1) := by decide +kernel
theorem dX12_init_375 : decode cX12_init 375 = .ok (.newarray .long, 2) := by decide +kernel
theorem dX12_init_377 : decode cX12_init 377 = .ok (.putfield 81, 3) := by decide +kernel
theorem dX12_init_380 : decode cX12_init 380 = .ok (.aload_n 0, 1) := by decide +kernel
theorem dX12_init_381 : decode cX12_init 381 = .ok (.iconst 2, 1) := by decide +kernel
theorem dX12_init_382 : decode cX12_init 382 = .ok (.newarray .long, 2) := by decide +kernel
theorem dX12_init_384 : decode cX12_init 384 = .ok (.putfield 85, 3) := by decide +kernel
theorem dX12_init_387 : decode cX12_init 387 = .ok (.aload_n 0, 1) := by decide +kernel
theorem dX12_init_388 : decode cX12_init 388 = .ok (.sipush 300, 3) := by decide +kernel
theorem dX12_init_391 : decode cX12_init 391 = .ok (.newarray .int, 2) := by decide +kernel
theorem dX12_init_393 : decode cX12_init 393 = .ok (.putfield 88, 3) := by decide +kernel
theorem dX12_init_396 : decode cX12_init 396 = .ok (.aload_n 0, 1) := by decide +kernel
theorem dX12_init_397 : decode cX12_init 397 = .ok (.bipush 12, 2) := by decide +kernel
theorem dX12_init_399 : decode cX12_init 399 = .ok (.newarray .int, 2) := by decide +kernel
theorem dX12_init_401 : decode cX12_init 401 = .ok (.putfield 91, 3) := by decide +kernel
theorem dX12_init_404 : decode cX12_init 404 = .ok (.aload_n 0, 1) := by decide +kernel
theorem dX12_init_405 : decode cX12_init 405 = .ok (.bipush 12, 2) := by decide +kernel
theorem dX12_init_407 : decode cX12_init 407 = .ok (.newarray .int, 2) := by decide +kernel
theorem dX12_init_409 : decode cX12_init 409 = .ok (.putfield 94, 3) := by decide +kernel
theorem dX12_init_412 : decode cX12_init 412 = .ok (.aload_n 0, 1) := by decide +kernel
theorem dX12_init_413 : decode cX12_init 413 = .ok (.bipush 12, 2) := by decide +kernel
theorem dX12_init_415 : decode cX12_init 415 = .ok (.newarray .int, 2) := by decide +kernel
theorem dX12_init_417 : decode cX12_init 417 = .ok (.putfield 97, 3) := by decide +kernel
theorem dX12_init_420 : decode cX12_init 420 = .ok (.aload_n 0, 1) := by decide +kernel
theorem dX12_init_421 : decode cX12_init 421 = .ok (.sipush 2028, 3) := by decide +kernel
theorem dX12_init_424 : decode cX12_init 424 = .ok (.newarray .int, 2) := by decide +kernel
theorem dX12_init_426 : decode cX12_init 426 = .ok (.putfield 100, 3) := by decide +kernel
theorem dX12_init_429 : decode cX12_init 429 = .ok (.aload_n 0, 1) := by decide +kernel
theorem dX12_init_430 : decode cX12_init 430 = .ok (.bipush 12, 2) := by decide +kernel
theorem dX12_init_432 : decode cX12_init 432 = .ok (.newarray .int, 2) := by decide +kernel
theorem dX12_init_434 : decode cX12_init 434 = .ok (.putfield 103, 3) := by decide +kernel
theorem dX12_init_437 : decode cX12_init 437 = .ok (.aload_n 0, 1) := by decide +kernel
theorem dX12_init_438 : decode cX12_init 438 = .ok (.bipush 12, 2) := by decide +kernel
theorem dX12_init_440 : decode cX12_init 440 = .ok (.newarray .int, 2) := by decide +kernel
theorem dX12_init_442 : decode cX12_init 442 = .ok (.putfield 106, 3) := by decide +kernel
theorem dX12_init_445 : decode cX12_init 445 = .ok (.aload_n 0, 1) := by decide +kernel
theorem dX12_init_446 : decode cX12_init 446 = .ok (.sipush 22801, 3) := by decide +kernel
theorem dX12_init_449 : decode cX12_init 449 = .ok (.newarray .int, 2) := by decide +kernel
theorem dX12_init_451 : decode cX12_init 451 = .ok (.putfield 109, 3) := by decide +kernel
theorem dX12_init_454 : decode cX12_init 454 = .ok (.aload_n 0, 1) := by decide +kernel
theorem dX12_init_455 : decode cX12_init 455 = .ok (.sipush 151, 3) := by decide +kernel
theorem dX12_init_458 : decode cX12_init 458 = .ok (.newarray .int, 2) := by decide +kernel
theorem dX12_init_460 : decode cX12_init 460 = .ok (.putfield 112, 3) := by decide +kernel
theorem dX12_init_463 : decode cX12_init 463 = .ok (.aload_n 0, 1) := by decide +kernel
theorem dX12_init_464 : decode cX12_init 464 = .ok (.sipush 151, 3) := by decide +kernel
theorem dX12_init_467 : decode cX12_init 467 = .ok (.newarray .int, 2) := by decide +kernel
theorem dX12_init_469 : decode cX12_init 469 = .ok (.putfield 115, 3) := by decide +kernel
theorem dX12_init_472 : decode cX12_init 472 = .ok (.aload_n 0, 1) := by decide +kernel
theorem dX12_init_473 : decode cX12_init 473 = .ok (.sipush 600, 3) := by decide +kernel
theorem dX12_init_476 : decode cX12_init 476 = .ok (.newarray .int, 2) := by decide +kernel
theorem dX12_init_478 : decode cX12_init 478 = .ok (.putfield 118, 3) := by decide +kernel
theorem dX12_init_481 : decode cX12_init 481 = .ok (.aload_n 0, 1) := by decide +kernel
theorem dX12_init_482 : decode cX12_init 482 = .ok (.bipush 80, 2) := by decide +kernel
theorem dX12_init_484 : decode cX12_init 484 = .ok (.newarray .int, 2) := by decide +kernel
theorem dX12_init_486 : decode cX12_init 486 = .ok (.putfield 121, 3) := by decide +kernel
theorem dX12_init_489 : decode cX12_init 489 = .ok (.aload_n 0, 1) := by decide +kernel
theorem dX12_init_490 : decode cX12_init 490 = .ok (.invokevirtual 124, 3) := by decide +kernel
theorem dX12_init_493 : decode cX12_init 493 = .ok (.return_, 1) := by decide +kernel
theorem dX12_thrown_0 : decode cX12_thrown 0 = .ok (.aload_n 0, 1) := by decide +kernel
theorem dX12_thrown_1 : decode cX12_thrown 1 = .ok (.getfield 127, 3) := by decide +kernel
theorem dX12_thrown_4 : decode cX12_thrown 4 = .ok (.ireturn, 1) := by decide +kernel
theorem dX12_feed_0 : decode cX12_feed 0 = .ok (.aload_n 0, 1) := by decide +kernel
theorem dX12_feed_1 : decode cX12_feed 1 = .ok (.iconst 0, 1) := by decide +kernel
theorem dX12_feed_2 : decode cX12_feed 2 = .ok (.putfield 127, 3) := by decide +kernel
theorem dX12_feed_5 : decode cX12_feed 5 = .ok (.aload_n 0, 1) := by decide +kernel
theorem dX12_feed_6 : decode cX12_feed 6 = .ok (.getfield 130, 3) := by decide +kernel
theorem dX12_feed_9 : decode cX12_feed 9 = .ok (.bipush 20, 2) := by decide +kernel
theorem dX12_feed_11 : decode cX12_feed 11 = .ok (.iadd, 1) := by decide +kernel
theorem dX12_feed_12 : decode cX12_feed 12 = .ok (.sipush 500, 3) := by decide +kernel
theorem dX12_feed_15 : decode cX12_feed 15 = .ok (.if_icmp .le 5, 3) := by decide +kernel
theorem dX12_feed_18 : decode cX12_feed 18 = .ok (.iconst (-1), 1) := by decide +kernel
theorem dX12_feed_19 : decode cX12_feed 19 = .ok (.ireturn, 1) := by decide +kernel
theorem dX12_feed_20 : decode cX12_feed 20 = .ok (.iconst 0, 1) := by decide +kernel
theorem dX12_feed_21 : decode cX12_feed 21 = .ok (.istore 6, 2) := by decide +kernel
theorem dX12_feed_23 : decode cX12_feed 23 = .ok (.iload 6, 2) := by decide +kernel
theorem dX12_feed_25 : decode cX12_feed 25 = .ok (.bipush 20, 2) := by decide +kernel
theorem dX12_feed_27 : decode cX12_feed 27 = .ok (.if_icmp .ge 86, 3) := by decide +kernel
theorem dX12_feed_30 : decode cX12_feed 30 = .ok (.iload 6, 2) := by decide +kernel
theorem dX12_feed_32 : decode cX12_feed 32 = .ok (.iconst 4, 1) := by decide +kernel
theorem dX12_feed_33 : decode cX12_feed 33 = .ok (.if_icmp .ge 7, 3) := by decide +kernel
theorem dX12_feed_36 : decode cX12_feed 36 = .ok (.iload_n 1, 1) := by decide +kernel
theorem dX12_feed_37 : decode cX12_feed 37 = .ok (.goto 39, 3) := by decide +kernel
theorem dX12_feed_40 : decode cX12_feed 40 = .ok (.iload 6, 2) := by decide +kernel
theorem dX12_feed_42 : decode cX12_feed 42 = .ok (.bipush 8, 2) := by decide +kernel
theorem dX12_feed_44 : decode cX12_feed 44 = .ok (.if_icmp .ge 7, 3) := by decide +kernel
theorem dX12_feed_47 : decode cX12_feed 47 = .ok (.iload_n 2, 1) := by decide +kernel
theorem dX12_feed_48 : decode cX12_feed 48 = .ok (.goto 28, 3) := by decide +kernel
theorem dX12_feed_51 : decode cX12_feed 51 = .ok (.iload 6, 2) := by decide +kernel
theorem dX12_feed_53 : decode cX12_feed 53 = .ok (.bipush 12, 2) := by decide +kernel
theorem dX12_feed_55 : decode cX12_feed 55 = .ok (.if_icmp .ge 7, 3) := by decide +kernel
theorem dX12_feed_58 : decode cX12_feed 58 = .ok (.iload_n 3, 1) := by decide +kernel
theorem dX12_feed_59 : decode cX12_feed 59 = .ok (.goto 17, 3) := by decide +kernel
theorem dX12_feed_62 : decode cX12_feed 62 = .ok (.iload 6, 2) := by decide +kernel
theorem dX12_feed_64 : decode cX12_feed 64 = .ok (.bipush 16, 2) := by decide +kernel
theorem dX12_feed_66 : decode cX12_feed 66 = .ok (.if_icmp .ge 8, 3) := by decide +kernel
theorem dX12_feed_69 : decode cX12_feed 69 = .ok (.iload 4, 2) := by decide +kernel
theorem dX12_feed_71 : decode cX12_feed 71 = .ok (.goto 5, 3) := by decide +kernel
theorem dX12_feed_74 : decode cX12_feed 74 = .ok (.iload 5, 2) := by decide +kernel
theorem dX12_feed_76 : decode cX12_feed 76 = .ok (.istore 7, 2) := by decide +kernel
theorem dX12_feed_78 : decode cX12_feed 78 = .ok (.aload_n 0, 1) := by decide +kernel
theorem dX12_feed_79 : decode cX12_feed 79 = .ok (.getfield 7, 3) := by decide +kernel
theorem dX12_feed_82 : decode cX12_feed 82 = .ok (.aload_n 0, 1) := by decide +kernel
theorem dX12_feed_83 : decode cX12_feed 83 = .ok (.getfield 130, 3) := by decide +kernel
theorem dX12_feed_86 : decode cX12_feed 86 = .ok (.iload 6, 2) := by decide +kernel
theorem dX12_feed_88 : decode cX12_feed 88 = .ok (.iadd, 1) := by decide +kernel
theorem dX12_feed_89 : decode cX12_feed 89 = .ok (.iload 7, 2) := by decide +kernel
theorem dX12_feed_91 : decode cX12_feed 91 = .ok (.bipush 24, 2) := by decide +kernel
theorem dX12_feed_93 : decode cX12_feed 93 = .ok (.bipush 8, 2) := by decide +kernel
theorem dX12_feed_95 : decode cX12_feed 95 = .ok (.iload 6, 2) := by decide +kernel
theorem dX12_feed_97 : decode cX12_feed 97 = .ok (.iconst 4, 1) := by decide +kernel
theorem dX12_feed_98 : decode cX12_feed 98 = .ok (.irem, 1) := by decide +kernel
theorem dX12_feed_99 : decode cX12_feed 99 = .ok (.imul, 1) := by decide +kernel
theorem dX12_feed_100 : decode cX12_feed 100 = .ok (.isub, 1) := by decide +kernel
theorem dX12_feed_101 : decode cX12_feed 101 = .ok (.ishr, 1) := by decide +kernel
theorem dX12_feed_102 : decode cX12_feed 102 = .ok (.sipush 255, 3) := by decide +kernel
theorem dX12_feed_105 : decode cX12_feed 105 = .ok (.iand, 1) := by decide +kernel
theorem dX12_feed_106 : decode cX12_feed 106 = .ok (.iastore, 1) := by decide +kernel
theorem dX12_feed_107 : decode cX12_feed 107 = .ok (.iinc 6 1, 3) := by decide +kernel
theorem dX12_feed_110 : decode cX12_feed 110 = .ok (.goto (-87), 3) := by decide +kernel
theorem dX12_feed_113 : decode cX12_feed 113 = .ok (.aload_n 0, 1) := by decide +kernel
theorem dX12_feed_114 : decode cX12_feed 114 = .ok (.dup, 1) := by decide +kernel
theorem dX12_feed_115 : decode cX12_feed 115 = .ok (.getfield 130, 3) := by decide +kernel
theorem dX12_feed_118 : decode cX12_feed 118 = .ok (.bipush 20, 2) := by decide +kernel
theorem dX12_feed_120 : decode cX12_feed 120 = .ok (.iadd, 1) := by decide +kernel
theorem dX12_feed_121 : decode cX12_feed 121 = .ok (.putfield 130, 3) := by decide +kernel
theorem dX12_feed_124 : decode cX12_feed 124 = .ok (.aload_n 0, 1) := by decide +kernel
theorem dX12_feed_125 : decode cX12_feed 125 = .ok (.getfield 130, 3) := by decide +kernel
theorem dX12_feed_128 : decode cX12_feed 128 = .ok (.ireturn, 1) := by decide +kernel
theorem dX12_isIn_0 : decode cX12_isIn 0 = .ok (.iload_n 0, 1) := by decide +kernel
theorem dX12_isIn_1 : decode cX12_isIn 1 = .ok (.iload_n 1, 1) := by decide +kernel
theorem dX12_isIn_2 : decode cX12_isIn 2 = .ok (.if_icmp .lt 12, 3) := by decide +kernel
theorem dX12_isIn_5 : decode cX12_isIn 5 = .ok (.iload_n 0, 1) := by decide +kernel
theorem dX12_isIn_6 : decode cX12_isIn 6 = .ok (.iload_n 2, 1) := by decide +kernel
theorem dX12_isIn_7 : decode cX12_isIn 7 = .ok (.if_icmp .gt 7, 3) := by decide +kernel
theorem dX12_isIn_10 : decode cX12_isIn 10 = .ok (.iconst 1, 1) := by decide +kernel
theorem dX12_isIn_11 : decode cX12_isIn 11 = .ok (.goto 4, 3) := by decide +kernel
theorem dX12_isIn_14 : decode cX12_isIn 14 = .ok (.iconst 0, 1) := by decide +kernel
theorem dX12_isIn_15 : decode cX12_isIn 15 = .ok (.ireturn, 1) := by decide +kernel
theorem dX12_sizeOf_0 : decode cX12_sizeOf 0 = .ok (.iload_n 0, 1) := by decide +kernel
theorem dX12_sizeOf_1 : decode cX12_sizeOf 1 = .ok (.ifCond .ge 8, 3) := by decide +kernel
theorem dX12_sizeOf_4 : decode cX12_sizeOf 4 = .ok (.iload_n 0, 1) := by decide +kernel
theorem dX12_sizeOf_5 : decode cX12_sizeOf 5 = .ok (.ineg, 1) := by decide +kernel
theorem dX12_sizeOf_6 : decode cX12_sizeOf 6 = .ok (.goto 4, 3) := by decide +kernel
theorem dX12_sizeOf_9 : decode cX12_sizeOf 9 = .ok (.iload_n 0, 1) := by decide +kernel
theorem dX12_sizeOf_10 : decode cX12_sizeOf 10 = .ok (.ireturn, 1) := by decide +kernel
theorem dX12_root_0 : decode cX12_root 0 = .ok (.lconst 0, 1) := by decide +kernel
theorem dX12_root_1 : decode cX12_root 1 = .ok (.lstore_n 2, 1) := by decide +kernel
theorem dX12_root_2 : decode cX12_root 2 = .ok (.ldc2_w 133, 3) := by decide +kernel
theorem dX12_root_5 : decode cX12_root 5 = .ok (.lstore 4, 2) := by decide +kernel
theorem dX12_root_7 : decode cX12_root 7 = .ok (.lload 4, 2) := by decide +kernel
theorem dX12_root_9 : decode cX12_root 9 = .ok (.lconst 0, 1) := by decide +kernel
theorem dX12_root_10 : decode cX12_root 10 = .ok (.lcmp, 1) := by decide +kernel
theorem dX12_root_11 : decode cX12_root 11 = .ok (.ifCond .le 31, 3) := by decide +kernel
theorem dX12_root_14 : decode cX12_root 14 = .ok (.lload_n 2, 1) := by decide +kernel
theorem dX12_root_15 : decode cX12_root 15 = .ok (.lload 4, 2) := by decide +kernel
theorem dX12_root_17 : decode cX12_root 17 = .ok (.lor, 1) := by decide +kernel
theorem dX12_root_18 : decode cX12_root 18 = .ok (.lstore 6, 2) := by decide +kernel
theorem dX12_root_20 : decode cX12_root 20 = .ok (.lload 6, 2) := by decide +kernel
theorem dX12_root_22 : decode cX12_root 22 = .ok (.lload 6, 2) := by decide +kernel
theorem dX12_root_24 : decode cX12_root 24 = .ok (.lmul, 1) := by decide +kernel
theorem dX12_root_25 : decode cX12_root 25 = .ok (.lload_n 0, 1) := by decide +kernel
theorem dX12_root_26 : decode cX12_root 26 = .ok (.lcmp, 1) := by decide +kernel
theorem dX12_root_27 : decode cX12_root 27 = .ok (.ifCond .gt 6, 3) := by decide +kernel
theorem dX12_root_30 : decode cX12_root 30 = .ok (.lload 6, 2) := by decide +kernel
theorem dX12_root_32 : decode cX12_root 32 = .ok (.lstore_n 2, 1) := by decide +kernel
theorem dX12_root_33 : decode cX12_root 33 = .ok (.lload 4, 2) := by decide +kernel
theorem dX12_root_35 : decode cX12_root 35 = .ok (.iconst 1, 1) := by decide +kernel
theorem dX12_root_36 : decode cX12_root 36 = .ok (.lshr, 1) := by decide +kernel
theorem dX12_root_37 : decode cX12_root 37 = .ok (.lstore 4, 2) := by decide +kernel
theorem dX12_root_39 : decode cX12_root 39 = .ok (.goto (-32), 3) := by decide +kernel
theorem dX12_root_42 : decode cX12_root 42 = .ok (.lload_n 2, 1) := by decide +kernel
theorem dX12_root_43 : decode cX12_root 43 = .ok (.lreturn, 1) := by decide +kernel
theorem dX12_hung_0 : decode cX12_hung 0 = .ok (.iload_n 1, 1) := by decide +kernel
theorem dX12_hung_1 : decode cX12_hung 1 = .ok (.i2l, 1) := by decide +kernel
theorem dX12_hung_2 : decode cX12_hung 2 = .ok (.iload_n 1, 1) := by decide +kernel
theorem dX12_hung_3 : decode cX12_hung 3 = .ok (.i2l, 1) := by decide +kernel
theorem dX12_hung_4 : decode cX12_hung 4 = .ok (.aload_n 0, 1) := by decide +kernel
theorem dX12_hung_5 : decode cX12_hung 5 = .ok (.getfield 135, 3) := by decide +kernel
theorem dX12_hung_8 : decode cX12_hung 8 = .ok (.i2l, 1) := by decide +kernel
theorem dX12_hung_9 : decode cX12_hung 9 = .ok (.lmul, 1) := by decide +kernel
theorem dX12_hung_10 : decode cX12_hung 10 = .ok (.ldc2_w 138, 3) := by decide +kernel
theorem dX12_hung_13 : decode cX12_hung 13 = .ok (.ldiv, 1) := by decide +kernel
theorem dX12_hung_14 : decode cX12_hung 14 = .ok (.ladd, 1) := by decide +kernel
theorem dX12_hung_15 : decode cX12_hung 15 = .ok (.lreturn, 1) := by decide +kernel
theorem dX12_stepsFor_0 : decode cX12_stepsFor 0 = .ok (.aload_n 0, 1) := by decide +kernel
theorem dX12_stepsFor_1 : decode cX12_stepsFor 1 = .ok (.getfield 20, 3) := by decide +kernel
theorem dX12_stepsFor_4 : decode cX12_stepsFor 4 = .ok (.i2l, 1) := by decide +kernel
theorem dX12_stepsFor_5 : decode cX12_stepsFor 5 = .ok (.aload_n 0, 1) := by decide +kernel
theorem dX12_stepsFor_6 : decode cX12_stepsFor 6 = .ok (.getfield 20, 3) := by decide +kernel
theorem dX12_stepsFor_9 : decode cX12_stepsFor 9 = .ok (.i2l, 1) := by decide +kernel
theorem dX12_stepsFor_10 : decode cX12_stepsFor 10 = .ok (.lmul, 1) := by decide +kernel
theorem dX12_stepsFor_11 : decode cX12_stepsFor 11 = .ok (.lload_n 1, 1) := by decide +kernel
theorem dX12_stepsFor_12 : decode cX12_stepsFor 12 = .ok (.lload_n 1, 1) := by decide +kernel
theorem dX12_stepsFor_13 : decode cX12_stepsFor 13 = .ok (.lmul, 1) := by decide +kernel
theorem dX12_stepsFor_14 : decode cX12_stepsFor 14 = .ok (.lload_n 3, 1) := by decide +kernel
theorem dX12_stepsFor_15 : decode cX12_stepsFor 15 = .ok (.lload_n 3, 1) := by decide +kernel
theorem dX12_stepsFor_16 : decode cX12_stepsFor 16 = .ok (.lmul, 1) := by decide +kernel
theorem dX12_stepsFor_17 : decode cX12_stepsFor 17 = .ok (.ladd, 1) := by decide +kernel
theorem dX12_stepsFor_18 : decode cX12_stepsFor 18 = .ok (.lmul, 1) := by decide +kernel
theorem dX12_stepsFor_19 : decode cX12_stepsFor 19 = .ok (.invokestatic 140, 3) := by decide +kernel
theorem dX12_stepsFor_22 : decode cX12_stepsFor 22 = .ok (.ldc2_w 144, 3) := by decide +kernel
theorem dX12_stepsFor_25 : decode cX12_stepsFor 25 = .ok (.ldiv, 1) := by decide +kernel
theorem dX12_stepsFor_26 : decode cX12_stepsFor 26 = .ok (.lstore 5, 2) := by decide +kernel
theorem dX12_stepsFor_28 : decode cX12_stepsFor 28 = .ok (.lload 5, 2) := by decide +kernel
theorem dX12_stepsFor_30 : decode cX12_stepsFor 30 = .ok (.ldc2_w 138, 3) := by decide +kernel
theorem dX12_stepsFor_33 : decode cX12_stepsFor 33 = .ok (.lmul, 1) := by decide +kernel
theorem dX12_stepsFor_34 : decode cX12_stepsFor 34 = .ok (.ldc2_w 138, 3) := by decide +kernel
theorem dX12_stepsFor_37 : decode cX12_stepsFor 37 = .ok (.aload_n 0, 1) := by decide +kernel
theorem dX12_stepsFor_38 : decode cX12_stepsFor 38 = .ok (.getfield 135, 3) := by decide +kernel
theorem dX12_stepsFor_41 : decode cX12_stepsFor 41 = .ok (.i2l, 1) := by decide +kernel
theorem dX12_stepsFor_42 : decode cX12_stepsFor 42 = .ok (.ladd, 1) := by decide +kernel
theorem dX12_stepsFor_43 : decode cX12_stepsFor 43 = .ok (.ldiv, 1) := by decide +kernel
theorem dX12_stepsFor_44 : decode cX12_stepsFor 44 = .ok (.l2i, 1) := by decide +kernel
theorem dX12_stepsFor_45 : decode cX12_stepsFor 45 = .ok (.istore 7, 2) := by decide +kernel
theorem dX12_stepsFor_47 : decode cX12_stepsFor 47 = .ok (.aload_n 0, 1) := by decide +kernel
theorem dX12_stepsFor_48 : decode cX12_stepsFor 48 = .ok (.iload 7, 2) := by decide +kernel
theorem dX12_stepsFor_50 : decode cX12_stepsFor 50 = .ok (.iconst 1, 1) := by decide +kernel
theorem dX12_stepsFor_51 : decode cX12_stepsFor 51 = .ok (.iadd, 1) := by decide +kernel
theorem dX12_stepsFor_52 : decode cX12_stepsFor 52 = .ok (.invokevirtual 146, 3) := by decide +kernel
theorem dX12_stepsFor_55 : decode cX12_stepsFor 55 = .ok (.lload 5, 2) := by decide +kernel
theorem dX12_stepsFor_57 : decode cX12_stepsFor 57 = .ok (.lcmp, 1) := by decide +kernel
theorem dX12_stepsFor_58 : decode cX12_stepsFor 58 = .ok (.ifCond .gt 9, 3) := by decide +kernel
theorem dX12_stepsFor_61 : decode cX12_stepsFor 61 = .ok (.iinc 7 1, 3) := by decide +kernel
theorem dX12_stepsFor_64 : decode cX12_stepsFor 64 = .ok (.goto (-17), 3) := by decide +kernel
theorem dX12_stepsFor_67 : decode cX12_stepsFor 67 = .ok (.aload_n 0, 1) := by decide +kernel
theorem dX12_stepsFor_68 : decode cX12_stepsFor 68 = .ok (.iload 7, 2) := by decide +kernel
theorem dX12_stepsFor_70 : decode cX12_stepsFor 70 = .ok (.invokevirtual 146, 3) := by decide +kernel
theorem dX12_stepsFor_73 : decode cX12_stepsFor 73 = .ok (.lload 5, 2) := by decide +kernel
theorem dX12_stepsFor_75 : decode cX12_stepsFor 75 = .ok (.lcmp, 1) := by decide +kernel
theorem dX12_stepsFor_76 : decode cX12_stepsFor 76 = .ok (.ifCond .le 9, 3) := by decide +kernel
theorem dX12_stepsFor_79 : decode cX12_stepsFor 79 = .ok (.iinc 7 (-1), 3) := by decide +kernel
theorem dX12_stepsFor_82 : decode cX12_stepsFor 82 = .ok (.goto (-15), 3) := by decide +kernel
theorem dX12_stepsFor_85 : decode cX12_stepsFor 85 = .ok (.iload 7, 2) := by decide +kernel
theorem dX12_stepsFor_87 : decode cX12_stepsFor 87 = .ok (.ireturn, 1) := by decide +kernel
theorem dX12_leftOf_0 : decode cX12_leftOf 0 = .ok (.aload_n 0, 1) := by decide +kernel
theorem dX12_leftOf_1 : decode cX12_leftOf 1 = .ok (.iload_n 1, 1) := by decide +kernel
theorem dX12_leftOf_2 : decode cX12_leftOf 2 = .ok (.i2l, 1) := by decide +kernel
theorem dX12_leftOf_3 : decode cX12_leftOf 3 = .ok (.iload_n 2, 1) := by decide +kernel
theorem dX12_leftOf_4 : decode cX12_leftOf 4 = .ok (.i2l, 1) := by decide +kernel
theorem dX12_leftOf_5 : decode cX12_leftOf 5 = .ok (.invokevirtual 150, 3) := by decide +kernel
theorem dX12_leftOf_8 : decode cX12_leftOf 8 = .ok (.ireturn, 1) := by decide +kernel
theorem dX12_rightOf_0 : decode cX12_rightOf 0 = .ok (.aload_n 0, 1) := by decide +kernel
theorem dX12_rightOf_1 : decode cX12_rightOf 1 = .ok (.bipush 100, 2) := by decide +kernel
theorem dX12_rightOf_3 : decode cX12_rightOf 3 = .ok (.aload_n 0, 1) := by decide +kernel
theorem dX12_rightOf_4 : decode cX12_rightOf 4 = .ok (.getfield 13, 3) := by decide +kernel
theorem dX12_rightOf_7 : decode cX12_rightOf 7 = .ok (.imul, 1) := by decide +kernel
theorem dX12_rightOf_8 : decode cX12_rightOf 8 = .ok (.iload_n 1, 1) := by decide +kernel
theorem dX12_rightOf_9 : decode cX12_rightOf 9 = .ok (.isub, 1) := by decide +kernel
theorem dX12_rightOf_10 : decode cX12_rightOf 10 = .ok (.i2l, 1) := by decide +kernel
theorem dX12_rightOf_11 : decode cX12_rightOf 11 = .ok (.iload_n 2, 1) := by decide +kernel
theorem dX12_rightOf_12 : decode cX12_rightOf 12 = .ok (.i2l, 1) := by decide +kernel
theorem dX12_rightOf_13 : decode cX12_rightOf 13 = .ok (.invokevirtual 150, 3) := by decide +kernel
theorem dX12_rightOf_16 : decode cX12_rightOf 16 = .ok (.ireturn, 1) := by decide +kernel
theorem dX12_placeX_0 : decode cX12_placeX 0 = .ok (.aload_n 0, 1) := by decide +kernel
theorem dX12_placeX_1 : decode cX12_placeX 1 = .ok (.iload_n 1, 1) := by decide +kernel
theorem dX12_placeX_2 : decode cX12_placeX 2 = .ok (.invokevirtual 146, 3) := by decide +kernel
theorem dX12_placeX_5 : decode cX12_placeX 5 = .ok (.lstore_n 3, 1) := by decide +kernel
theorem dX12_placeX_6 : decode cX12_placeX 6 = .ok (.aload_n 0, 1) := by decide +kernel
theorem dX12_placeX_7 : decode cX12_placeX 7 = .ok (.iload_n 2, 1) := by decide +kernel
theorem dX12_placeX_8 : decode cX12_placeX 8 = .ok (.invokevirtual 146, 3) := by decide +kernel
theorem dX12_placeX_11 : decode cX12_placeX 11 = .ok (.lstore 5, 2) := by decide +kernel
theorem dX12_placeX_13 : decode cX12_placeX 13 = .ok (.aload_n 0, 1) := by decide +kernel
theorem dX12_placeX_14 : decode cX12_placeX 14 = .ok (.getfield 20, 3) := by decide +kernel
theorem dX12_placeX_17 : decode cX12_placeX 17 = .ok (.i2l, 1) := by decide +kernel
theorem dX12_placeX_18 : decode cX12_placeX 18 = .ok (.aload_n 0, 1) := by decide +kernel
theorem dX12_placeX_19 : decode cX12_placeX 19 = .ok (.getfield 20, 3) := by decide +kernel
theorem dX12_placeX_22 : decode cX12_placeX 22 = .ok (.i2l, 1) := by decide +kernel
theorem dX12_placeX_23 : decode cX12_placeX 23 = .ok (.lmul, 1) := by decide +kernel
theorem dX12_placeX_24 : decode cX12_placeX 24 = .ok (.lstore 7, 2) := by decide +kernel
theorem dX12_placeX_26 : decode cX12_placeX 26 = .ok (.ldc2_w 144, 3) := by decide +kernel
theorem dX12_placeX_29 : decode cX12_placeX 29 = .ok (.lload_n 3, 1) := by decide +kernel
theorem dX12_placeX_30 : decode cX12_placeX 30 = .ok (.lload_n 3, 1) := by decide +kernel
theorem dX12_placeX_31 : decode cX12_placeX 31 = .ok (.lmul, 1) := by decide +kernel
theorem dX12_placeX_32 : decode cX12_placeX 32 = .ok (.lload 5, 2) := by decide +kernel
theorem dX12_placeX_34 : decode cX12_placeX 34 = .ok (.lload 5, 2) := by decide +kernel
theorem dX12_placeX_36 : decode cX12_placeX 36 = .ok (.lmul, 1) := by decide +kernel
theorem dX12_placeX_37 : decode cX12_placeX 37 = .ok (.lsub, 1) := by decide +kernel
theorem dX12_placeX_38 : decode cX12_placeX 38 = .ok (.lload 7, 2) := by decide +kernel
theorem dX12_placeX_40 : decode cX12_placeX 40 = .ok (.aload_n 0, 1) := by decide +kernel
theorem dX12_placeX_41 : decode cX12_placeX 41 = .ok (.getfield 13, 3) := by decide +kernel
theorem dX12_placeX_44 : decode cX12_placeX 44 = .ok (.i2l, 1) := by decide +kernel
theorem dX12_placeX_45 : decode cX12_placeX 45 = .ok (.lmul, 1) := by decide +kernel
theorem dX12_placeX_46 : decode cX12_placeX 46 = .ok (.aload_n 0, 1) := by decide +kernel
theorem dX12_placeX_47 : decode cX12_placeX 47 = .ok (.getfield 13, 3) := by decide +kernel
theorem dX12_placeX_50 : decode cX12_placeX 50 = .ok (.i2l, 1) := by decide +kernel
theorem dX12_placeX_51 : decode cX12_placeX 51 = .ok (.lmul, 1) := by decide +kernel
theorem dX12_placeX_52 : decode cX12_placeX 52 = .ok (.ladd, 1) := by decide +kernel
theorem dX12_placeX_53 : decode cX12_placeX 53 = .ok (.lmul, 1) := by decide +kernel
theorem dX12_placeX_54 : decode cX12_placeX 54 = .ok (.ldc2_w 154, 3) := by decide +kernel
theorem dX12_placeX_57 : decode cX12_placeX 57 = .ok (.lload 7, 2) := by decide +kernel
theorem dX12_placeX_59 : decode cX12_placeX 59 = .ok (.lmul, 1) := by decide +kernel
theorem dX12_placeX_60 : decode cX12_placeX 60 = .ok (.aload_n 0, 1) := by decide +kernel
theorem dX12_placeX_61 : decode cX12_placeX 61 = .ok (.getfield 13, 3) := by decide +kernel
theorem dX12_placeX_64 : decode cX12_placeX 64 = .ok (.i2l, 1) := by decide +kernel
theorem dX12_placeX_65 : decode cX12_placeX 65 = .ok (.lmul, 1) := by decide +kernel
theorem dX12_placeX_66 : decode cX12_placeX 66 = .ok (.ldiv, 1) := by decide +kernel
theorem dX12_placeX_67 : decode cX12_placeX 67 = .ok (.l2i, 1) := by decide +kernel
theorem dX12_placeX_68 : decode cX12_placeX 68 = .ok (.ireturn, 1) := by decide +kernel
theorem dX12_placeY_0 : decode cX12_placeY 0 = .ok (.aload_n 0, 1) := by decide +kernel
theorem dX12_placeY_1 : decode cX12_placeY 1 = .ok (.iload_n 1, 1) := by decide +kernel
theorem dX12_placeY_2 : decode cX12_placeY 2 = .ok (.invokevirtual 146, 3) := by decide +kernel
theorem dX12_placeY_5 : decode cX12_placeY 5 = .ok (.lstore_n 3, 1) := by decide +kernel
theorem dX12_placeY_6 : decode cX12_placeY 6 = .ok (.aload_n 0, 1) := by decide +kernel
theorem dX12_placeY_7 : decode cX12_placeY 7 = .ok (.iload_n 1, 1) := by decide +kernel
theorem dX12_placeY_8 : decode cX12_placeY 8 = .ok (.iload_n 2, 1) := by decide +kernel
theorem dX12_placeY_9 : decode cX12_placeY 9 = .ok (.invokevirtual 156, 3) := by decide +kernel
theorem dX12_placeY_12 : decode cX12_placeY 12 = .ok (.i2l, 1) := by decide +kernel
theorem dX12_placeY_13 : decode cX12_placeY 13 = .ok (.lstore 5, 2) := by decide +kernel
theorem dX12_placeY_15 : decode cX12_placeY 15 = .ok (.ldc2_w 138, 3) := by decide +kernel
theorem dX12_placeY_18 : decode cX12_placeY 18 = .ok (.lload_n 3, 1) := by decide +kernel
theorem dX12_placeY_19 : decode cX12_placeY 19 = .ok (.lmul, 1) := by decide +kernel
theorem dX12_placeY_20 : decode cX12_placeY 20 = .ok (.lload_n 3, 1) := by decide +kernel
theorem dX12_placeY_21 : decode cX12_placeY 21 = .ok (.lmul, 1) := by decide +kernel
theorem dX12_placeY_22 : decode cX12_placeY 22 = .ok (.aload_n 0, 1) := by decide +kernel
theorem dX12_placeY_23 : decode cX12_placeY 23 = .ok (.getfield 20, 3) := by decide +kernel
theorem dX12_placeY_26 : decode cX12_placeY 26 = .ok (.i2l, 1) := by decide +kernel
theorem dX12_placeY_27 : decode cX12_placeY 27 = .ok (.aload_n 0, 1) := by decide +kernel
theorem dX12_placeY_28 : decode cX12_placeY 28 = .ok (.getfield 20, 3) := by decide +kernel
theorem dX12_placeY_31 : decode cX12_placeY 31 = .ok (.i2l, 1) := by decide +kernel
theorem dX12_placeY_32 : decode cX12_placeY 32 = .ok (.lmul, 1) := by decide +kernel
theorem dX12_placeY_33 : decode cX12_placeY 33 = .ok (.ldiv, 1) := by decide +kernel
theorem dX12_placeY_34 : decode cX12_placeY 34 = .ok (.lload 5, 2) := by decide +kernel
theorem dX12_placeY_36 : decode cX12_placeY 36 = .ok (.lload 5, 2) := by decide +kernel
theorem dX12_placeY_38 : decode cX12_placeY 38 = .ok (.lmul, 1) := by decide +kernel
theorem dX12_placeY_39 : decode cX12_placeY 39 = .ok (.lsub, 1) := by decide +kernel
theorem dX12_placeY_40 : decode cX12_placeY 40 = .ok (.lstore 7, 2) := by decide +kernel
theorem dX12_placeY_42 : decode cX12_placeY 42 = .ok (.lload 7, 2) := by decide +kernel
theorem dX12_placeY_44 : decode cX12_placeY 44 = .ok (.lconst 0, 1) := by decide +kernel
theorem dX12_placeY_45 : decode cX12_placeY 45 = .ok (.lcmp, 1) := by decide +kernel
theorem dX12_placeY_46 : decode cX12_placeY 46 = .ok (.ifCond .ge 7, 3) := by decide +kernel
theorem dX12_placeY_49 : decode cX12_placeY 49 = .ok (.iconst 0, 1) := by decide +kernel
theorem dX12_placeY_50 : decode cX12_placeY 50 = .ok (.goto 9, 3) := by decide +kernel
theorem dX12_placeY_53 : decode cX12_placeY 53 = .ok (.lload 7, 2) := by decide +kernel
theorem dX12_placeY_55 : decode cX12_placeY 55 = .ok (.invokestatic 140, 3) := by decide +kernel
theorem dX12_placeY_58 : decode cX12_placeY 58 = .ok (.l2i, 1) := by decide +kernel
theorem dX12_placeY_59 : decode cX12_placeY 59 = .ok (.ireturn, 1) := by decide +kernel
theorem dX12_wall_0 : decode cX12_wall 0 = .ok (.aload_n 0, 1) := by decide +kernel
theorem dX12_wall_1 : decode cX12_wall 1 = .ok (.iconst 0, 1) := by decide +kernel
theorem dX12_wall_2 : decode cX12_wall 2 = .ok (.putfield 127, 3) := by decide +kernel
theorem dX12_wall_5 : decode cX12_wall 5 = .ok (.iload_n 1, 1) := by decide +kernel
theorem dX12_wall_6 : decode cX12_wall 6 = .ok (.bipush 20, 2) := by decide +kernel
theorem dX12_wall_8 : decode cX12_wall 8 = .ok (.sipush 200, 3) := by decide +kernel
theorem dX12_wall_11 : decode cX12_wall 11 = .ok (.invokestatic 160, 3) := by decide +kernel
theorem dX12_wall_14 : decode cX12_wall 14 = .ok (.ifCond .eq 25, 3) := by decide +kernel
theorem dX12_wall_17 : decode cX12_wall 17 = .ok (.iload_n 2, 1) := by decide +kernel
theorem dX12_wall_18 : decode cX12_wall 18 = .ok (.bipush 20, 2) := by decide +kernel
theorem dX12_wall_20 : decode cX12_wall 20 = .ok (.sipush 200, 3) := by decide +kernel
theorem dX12_wall_23 : decode cX12_wall 23 = .ok (.invokestatic 160, 3) := by decide +kernel
theorem dX12_wall_26 : decode cX12_wall 26 = .ok (.ifCond .eq 13, 3) := by decide +kernel
theorem dX12_wall_29 : decode cX12_wall 29 = .ok (.iload_n 3, 1) := by decide +kernel
theorem dX12_wall_30 : decode cX12_wall 30 = .ok (.iconst 2, 1) := by decide +kernel
theorem dX12_wall_31 : decode cX12_wall 31 = .ok (.bipush 20, 2) := by decide +kernel
theorem dX12_wall_33 : decode cX12_wall 33 = .ok (.invokestatic 160, 3) := by decide +kernel
theorem dX12_wall_36 : decode cX12_wall 36 = .ok (.ifCond .ne 5, 3) := by decide +kernel
theorem dX12_wall_39 : decode cX12_wall 39 = .ok (.iconst 0, 1) := by decide +kernel
theorem dX12_wall_40 : decode cX12_wall 40 = .ok (.ireturn, 1) := by decide +kernel
theorem dX12_wall_41 : decode cX12_wall 41 = .ok (.aload_n 0, 1) := by decide +kernel
theorem dX12_wall_42 : decode cX12_wall 42 = .ok (.iload_n 1, 1) := by decide +kernel
theorem dX12_wall_43 : decode cX12_wall 43 = .ok (.putfield 13, 3) := by decide +kernel
theorem dX12_wall_46 : decode cX12_wall 46 = .ok (.aload_n 0, 1) := by decide +kernel
theorem dX12_wall_47 : decode cX12_wall 47 = .ok (.iload_n 2, 1) := by decide +kernel
theorem dX12_wall_48 : decode cX12_wall 48 = .ok (.putfield 17, 3) := by decide +kernel
theorem dX12_wall_51 : decode cX12_wall 51 = .ok (.aload_n 0, 1) := by decide +kernel
theorem dX12_wall_52 : decode cX12_wall 52 = .ok (.iload_n 3, 1) := by decide +kernel
theorem dX12_wall_53 : decode cX12_wall 53 = .ok (.putfield 20, 3) := by decide +kernel
theorem dX12_wall_56 : decode cX12_wall 56 = .ok (.aload_n 0, 1) := by decide +kernel
theorem dX12_wall_57 : decode cX12_wall 57 = .ok (.invokevirtual 124, 3) := by decide +kernel
theorem dX12_wall_60 : decode cX12_wall 60 = .ok (.iconst 1, 1) := by decide +kernel
theorem dX12_wall_61 : decode cX12_wall 61 = .ok (.ireturn, 1) := by decide +kernel
theorem dX12_begins_0 : decode cX12_begins 0 = .ok (.aload_n 0, 1) := by decide +kernel
theorem dX12_begins_1 : decode cX12_begins 1 = .ok (.iconst 0, 1) := by decide +kernel
theorem dX12_begins_2 : decode cX12_begins 2 = .ok (.putfield 164, 3) := by decide +kernel
theorem dX12_begins_5 : decode cX12_begins 5 = .ok (.aload_n 0, 1) := by decide +kernel
theorem dX12_begins_6 : decode cX12_begins 6 = .ok (.iconst 0, 1) := by decide +kernel
theorem dX12_begins_7 : decode cX12_begins 7 = .ok (.invokevirtual 167, 3) := by decide +kernel
theorem dX12_begins_10 : decode cX12_begins 10 = .ok (.aload_n 0, 1) := by decide +kernel
theorem dX12_begins_11 : decode cX12_begins 11 = .ok (.iconst 0, 1) := by decide +kernel
theorem dX12_begins_12 : decode cX12_begins 12 = .ok (.putfield 171, 3) := by decide +kernel
theorem dX12_begins_15 : decode cX12_begins 15 = .ok (.aload_n 0, 1) := by decide +kernel
theorem dX12_begins_16 : decode cX12_begins 16 = .ok (.sipush 151, 3) := by decide +kernel
theorem dX12_begins_19 : decode cX12_begins 19 = .ok (.invokevirtual 167, 3) := by decide +kernel
theorem dX12_begins_22 : decode cX12_begins 22 = .ok (.aload_n 0, 1) := by decide +kernel
theorem dX12_begins_23 : decode cX12_begins 23 = .ok (.invokevirtual 174, 3) := by decide +kernel
theorem dX12_begins_26 : decode cX12_begins 26 = .ok (.return_, 1) := by decide +kernel
theorem dX12_home_0 : decode cX12_home 0 = .ok (.aload_n 0, 1) := by decide +kernel
theorem dX12_home_1 : decode cX12_home 1 = .ok (.getfield 59, 3) := by decide +kernel
theorem dX12_home_4 : decode cX12_home 4 = .ok (.iload_n 1, 1) := by decide +kernel
theorem dX12_home_5 : decode cX12_home 5 = .ok (.aload_n 0, 1) := by decide +kernel
theorem dX12_home_6 : decode cX12_home 6 = .ok (.getfield 13, 3) := by decide +kernel
theorem dX12_home_9 : decode cX12_home 9 = .ok (.iconst 2, 1) := by decide +kernel
theorem dX12_home_10 : decode cX12_home 10 = .ok (.idiv, 1) := by decide +kernel
theorem dX12_home_11 : decode cX12_home 11 = .ok (.iastore, 1) := by decide +kernel
theorem dX12_home_12 : decode cX12_home 12 = .ok (.aload_n 0, 1) := by decide +kernel
theorem dX12_home_13 : decode cX12_home 13 = .ok (.getfield 62, 3) := by decide +kernel
theorem dX12_home_16 : decode cX12_home 16 = .ok (.iload_n 1, 1) := by decide +kernel
theorem dX12_home_17 : decode cX12_home 17 = .ok (.aload_n 0, 1) := by decide +kernel
theorem dX12_home_18 : decode cX12_home 18 = .ok (.getfield 17, 3) := by decide +kernel
theorem dX12_home_21 : decode cX12_home 21 = .ok (.iastore, 1) := by decide +kernel
theorem dX12_home_22 : decode cX12_home 22 = .ok (.aload_n 0, 1) := by decide +kernel
theorem dX12_home_23 : decode cX12_home 23 = .ok (.getfield 65, 3) := by decide +kernel
theorem dX12_home_26 : decode cX12_home 26 = .ok (.iload_n 1, 1) := by decide +kernel
theorem dX12_home_27 : decode cX12_home 27 = .ok (.iconst 0, 1) := by decide +kernel
theorem dX12_home_28 : decode cX12_home 28 = .ok (.bastore, 1) := by decide +kernel
theorem dX12_home_29 : decode cX12_home 29 = .ok (.return_, 1) := by decide +kernel
theorem dX12_forgets_0 : decode cX12_forgets 0 = .ok (.iconst 0, 1) := by decide +kernel
theorem dX12_forgets_1 : decode cX12_forgets 1 = .ok (.istore_n 1, 1) := by decide +kernel
theorem dX12_forgets_2 : decode cX12_forgets 2 = .ok (.iload_n 1, 1) := by decide +kernel
theorem dX12_forgets_3 : decode cX12_forgets 3 = .ok (.sipush 300, 3) := by decide +kernel
theorem dX12_forgets_6 : decode cX12_forgets 6 = .ok (.if_icmp .ge 16, 3) := by decide +kernel
theorem dX12_forgets_9 : decode cX12_forgets 9 = .ok (.aload_n 0, 1) := by decide +kernel
theorem dX12_forgets_10 : decode cX12_forgets 10 = .ok (.getfield 88, 3) := by decide +kernel
theorem dX12_forgets_13 : decode cX12_forgets 13 = .ok (.iload_n 1, 1) := by decide +kernel
theorem dX12_forgets_14 : decode cX12_forgets 14 = .ok (.iconst 0, 1) := by decide +kernel
theorem dX12_forgets_15 : decode cX12_forgets 15 = .ok (.iastore, 1) := by decide +kernel
theorem dX12_forgets_16 : decode cX12_forgets 16 = .ok (.iinc 1 1, 3) := by decide +kernel
theorem dX12_forgets_19 : decode cX12_forgets 19 = .ok (.goto (-17), 3) := by decide +kernel
theorem dX12_forgets_22 : decode cX12_forgets 22 = .ok (.aload_n 0, 1) := by decide +kernel
theorem dX12_forgets_23 : decode cX12_forgets 23 = .ok (.iconst 0, 1) := by decide +kernel
theorem dX12_forgets_24 : decode cX12_forgets 24 = .ok (.putfield 177, 3) := by decide +kernel
theorem dX12_forgets_27 : decode cX12_forgets 27 = .ok (.aload_n 0, 1) := by decide +kernel
theorem dX12_forgets_28 : decode cX12_forgets 28 = .ok (.iconst 0, 1) := by decide +kernel
theorem dX12_forgets_29 : decode cX12_forgets 29 = .ok (.putfield 180, 3) := by decide +kernel
theorem dX12_forgets_32 : decode cX12_forgets 32 = .ok (.return_, 1) := by decide +kernel
theorem dX12_set_0 : decode cX12_set 0 = .ok (.aload_n 0, 1) := by decide +kernel
theorem dX12_set_1 : decode cX12_set 1 = .ok (.iconst 0, 1) := by decide +kernel
theorem dX12_set_2 : decode cX12_set 2 = .ok (.putfield 127, 3) := by decide +kernel
theorem dX12_set_5 : decode cX12_set 5 = .ok (.iload_n 1, 1) := by decide +kernel
theorem dX12_set_6 : decode cX12_set 6 = .ok (.ifCond .ne 16, 3) := by decide +kernel
theorem dX12_set_9 : decode cX12_set 9 = .ok (.iload_n 2, 1) := by decide +kernel
theorem dX12_set_10 : decode cX12_set 10 = .ok (.iconst 0, 1) := by decide +kernel
theorem dX12_set_11 : decode cX12_set 11 = .ok (.bipush 99, 2) := by decide +kernel
theorem dX12_set_13 : decode cX12_set 13 = .ok (.invokestatic 160, 3) := by decide +kernel
theorem dX12_set_16 : decode cX12_set 16 = .ok (.ifCond .ne 42, 3) := by decide +kernel
theorem dX12_set_19 : decode cX12_set 19 = .ok (.goto 37, 3) := by decide +kernel
theorem dX12_set_22 : decode cX12_set 22 = .ok (.iload_n 1, 1) := by decide +kernel
theorem dX12_set_23 : decode cX12_set 23 = .ok (.iconst 1, 1) := by decide +kernel
theorem dX12_set_24 : decode cX12_set 24 = .ok (.if_icmp .ne 16, 3) := by decide +kernel
theorem dX12_set_27 : decode cX12_set 27 = .ok (.iload_n 2, 1) := by decide +kernel
theorem dX12_set_28 : decode cX12_set 28 = .ok (.iconst 1, 1) := by decide +kernel
theorem dX12_set_29 : decode cX12_set 29 = .ok (.bipush 99, 2) := by decide +kernel
theorem dX12_set_31 : decode cX12_set 31 = .ok (.invokestatic 160, 3) := by decide +kernel
theorem dX12_set_34 : decode cX12_set 34 = .ok (.ifCond .ne 24, 3) := by decide +kernel
theorem dX12_set_37 : decode cX12_set 37 = .ok (.goto 19, 3) := by decide +kernel
theorem dX12_set_40 : decode cX12_set 40 = .ok (.iload_n 1, 1) := by decide +kernel
theorem dX12_set_41 : decode cX12_set 41 = .ok (.iconst 2, 1) := by decide +kernel
theorem dX12_set_42 : decode cX12_set 42 = .ok (.if_icmp .ne 14, 3) := by decide +kernel
theorem dX12_set_45 : decode cX12_set 45 = .ok (.iload_n 2, 1) := by decide +kernel
theorem dX12_set_46 : decode cX12_set 46 = .ok (.iconst 1, 1) := by decide +kernel
theorem dX12_set_47 : decode cX12_set 47 = .ok (.sipush 9999, 3) := by decide +kernel
theorem dX12_set_50 : decode cX12_set 50 = .ok (.invokestatic 160, 3) := by decide +kernel
theorem dX12_set_53 : decode cX12_set 53 = .ok (.ifCond .ne 5, 3) := by decide +kernel
theorem dX12_set_56 : decode cX12_set 56 = .ok (.iconst 0, 1) := by decide +kernel
theorem dX12_set_57 : decode cX12_set 57 = .ok (.ireturn, 1) := by decide +kernel
theorem dX12_set_58 : decode cX12_set 58 = .ok (.iload_n 1, 1) := by decide +kernel
theorem dX12_set_59 : decode cX12_set 59 = .ok (.ifCond .ne 15, 3) := by decide +kernel
theorem dX12_set_62 : decode cX12_set 62 = .ok (.aload_n 0, 1) := by decide +kernel
theorem dX12_set_63 : decode cX12_set 63 = .ok (.iload_n 2, 1) := by decide +kernel
theorem dX12_set_64 : decode cX12_set 64 = .ok (.putfield 135, 3) := by decide +kernel
theorem dX12_set_67 : decode cX12_set 67 = .ok (.aload_n 0, 1) := by decide +kernel
theorem dX12_set_68 : decode cX12_set 68 = .ok (.invokevirtual 174, 3) := by decide +kernel
theorem dX12_set_71 : decode cX12_set 71 = .ok (.goto 21, 3) := by decide +kernel
theorem dX12_set_74 : decode cX12_set 74 = .ok (.iload_n 1, 1) := by decide +kernel
theorem dX12_set_75 : decode cX12_set 75 = .ok (.iconst 1, 1) := by decide +kernel
theorem dX12_set_76 : decode cX12_set 76 = .ok (.if_icmp .ne 11, 3) := by decide +kernel
theorem dX12_set_79 : decode cX12_set 79 = .ok (.aload_n 0, 1) := by decide +kernel
theorem dX12_set_80 : decode cX12_set 80 = .ok (.iload_n 2, 1) := by decide +kernel
theorem dX12_set_81 : decode cX12_set 81 = .ok (.putfield 23, 3) := by decide +kernel
theorem dX12_set_84 : decode cX12_set 84 = .ok (.goto 8, 3) := by decide +kernel
theorem dX12_set_87 : decode cX12_set 87 = .ok (.aload_n 0, 1) := by decide +kernel
theorem dX12_set_88 : decode cX12_set 88 = .ok (.iload_n 2, 1) := by decide +kernel
theorem dX12_set_89 : decode cX12_set 89 = .ok (.putfield 26, 3) := by decide +kernel
theorem dX12_set_92 : decode cX12_set 92 = .ok (.iconst 1, 1) := by decide +kernel
theorem dX12_set_93 : decode cX12_set 93 = .ok (.ireturn, 1) := by decide +kernel
theorem dX12_isOnWall_0 : decode cX12_isOnWall 0 = .ok (.iload_n 1, 1) := by decide +kernel
theorem dX12_isOnWall_1 : decode cX12_isOnWall 1 = .ok (.iconst 0, 1) := by decide +kernel
theorem dX12_isOnWall_2 : decode cX12_isOnWall 2 = .ok (.bipush 100, 2) := by decide +kernel
theorem dX12_isOnWall_4 : decode cX12_isOnWall 4 = .ok (.aload_n 0, 1) := by decide +kernel
theorem dX12_isOnWall_5 : decode cX12_isOnWall 5 = .ok (.getfield 13, 3) := by decide +kernel
theorem dX12_isOnWall_8 : decode cX12_isOnWall 8 = .ok (.imul, 1) := by decide +kernel
theorem dX12_isOnWall_9 : decode cX12_isOnWall 9 = .ok (.invokestatic 160, 3) := by decide +kernel
theorem dX12_isOnWall_12 : decode cX12_isOnWall 12 = .ok (.ifCond .eq 22, 3) := by decide +kernel
theorem dX12_isOnWall_15 : decode cX12_isOnWall 15 = .ok (.iload_n 2, 1) := by decide +kernel
theorem dX12_isOnWall_16 : decode cX12_isOnWall 16 = .ok (.iconst 0, 1) := by decide +kernel
theorem dX12_isOnWall_17 : decode cX12_isOnWall 17 = .ok (.bipush 100, 2) := by decide +kernel
theorem dX12_isOnWall_19 : decode cX12_isOnWall 19 = .ok (.aload_n 0, 1) := by decide +kernel
theorem dX12_isOnWall_20 : decode cX12_isOnWall 20 = .ok (.getfield 17, 3) := by decide +kernel
theorem dX12_isOnWall_23 : decode cX12_isOnWall 23 = .ok (.imul, 1) := by decide +kernel
theorem dX12_isOnWall_24 : decode cX12_isOnWall 24 = .ok (.invokestatic 160, 3) := by decide +kernel
theorem dX12_isOnWall_27 : decode cX12_isOnWall 27 = .ok (.ifCond .eq 7, 3) := by decide +kernel
theorem dX12_isOnWall_30 : decode cX12_isOnWall 30 = .ok (.iconst 1, 1) := by decide +kernel
theorem dX12_isOnWall_31 : decode cX12_isOnWall 31 = .ok (.goto 4, 3) := by decide +kernel
theorem dX12_isOnWall_34 : decode cX12_isOnWall 34 = .ok (.iconst 0, 1) := by decide +kernel
theorem dX12_isOnWall_35 : decode cX12_isOnWall 35 = .ok (.ireturn, 1) := by decide +kernel
theorem dX12_steps_0 : decode cX12_steps 0 = .ok (.aload_n 0, 1) := by decide +kernel
theorem dX12_steps_1 : decode cX12_steps 1 = .ok (.iconst 0, 1) := by decide +kernel
theorem dX12_steps_2 : decode cX12_steps 2 = .ok (.putfield 127, 3) := by decide +kernel
theorem dX12_steps_5 : decode cX12_steps 5 = .ok (.aload_n 0, 1) := by decide +kernel
theorem dX12_steps_6 : decode cX12_steps 6 = .ok (.iload_n 1, 1) := by decide +kernel
theorem dX12_steps_7 : decode cX12_steps 7 = .ok (.iload_n 2, 1) := by decide +kernel
theorem dX12_steps_8 : decode cX12_steps 8 = .ok (.invokevirtual 184, 3) := by decide +kernel
theorem dX12_steps_11 : decode cX12_steps 11 = .ok (.ifCond .eq 12, 3) := by decide +kernel
theorem dX12_steps_14 : decode cX12_steps 14 = .ok (.iload_n 3, 1) := by decide +kernel
theorem dX12_steps_15 : decode cX12_steps 15 = .ok (.iconst 0, 1) := by decide +kernel
theorem dX12_steps_16 : decode cX12_steps 16 = .ok (.iconst 1, 1) := by decide +kernel
theorem dX12_steps_17 : decode cX12_steps 17 = .ok (.invokestatic 160, 3) := by decide +kernel
theorem dX12_steps_20 : decode cX12_steps 20 = .ok (.ifCond .ne 5, 3) := by decide +kernel
theorem dX12_steps_23 : decode cX12_steps 23 = .ok (.iconst (-1), 1) := by decide +kernel
theorem dX12_steps_24 : decode cX12_steps 24 = .ok (.ireturn, 1) := by decide +kernel
theorem dX12_steps_25 : decode cX12_steps 25 = .ok (.iload_n 3, 1) := by decide +kernel
theorem dX12_steps_26 : decode cX12_steps 26 = .ok (.ifCond .ne 12, 3) := by decide +kernel
theorem dX12_steps_29 : decode cX12_steps 29 = .ok (.aload_n 0, 1) := by decide +kernel
theorem dX12_steps_30 : decode cX12_steps 30 = .ok (.iload_n 1, 1) := by decide +kernel
theorem dX12_steps_31 : decode cX12_steps 31 = .ok (.iload_n 2, 1) := by decide +kernel
theorem dX12_steps_32 : decode cX12_steps 32 = .ok (.invokevirtual 188, 3) := by decide +kernel
theorem dX12_steps_35 : decode cX12_steps 35 = .ok (.goto 9, 3) := by decide +kernel
theorem dX12_steps_38 : decode cX12_steps 38 = .ok (.aload_n 0, 1) := by decide +kernel
theorem dX12_steps_39 : decode cX12_steps 39 = .ok (.iload_n 1, 1) := by decide +kernel
theorem dX12_steps_40 : decode cX12_steps 40 = .ok (.iload_n 2, 1) := by decide +kernel
theorem dX12_steps_41 : decode cX12_steps 41 = .ok (.invokevirtual 191, 3) := by decide +kernel
theorem dX12_steps_44 : decode cX12_steps 44 = .ok (.ireturn, 1) := by decide +kernel
theorem dX12_place_0 : decode cX12_place 0 = .ok (.aload_n 0, 1) := by decide +kernel
theorem dX12_place_1 : decode cX12_place 1 = .ok (.iconst 0, 1) := by decide +kernel
theorem dX12_place_2 : decode cX12_place 2 = .ok (.putfield 127, 3) := by decide +kernel
theorem dX12_place_5 : decode cX12_place 5 = .ok (.iload_n 1, 1) := by decide +kernel
theorem dX12_place_6 : decode cX12_place 6 = .ok (.iconst 0, 1) := by decide +kernel
theorem dX12_place_7 : decode cX12_place 7 = .ok (.sipush 9999, 3) := by decide +kernel
theorem dX12_place_10 : decode cX12_place 10 = .ok (.invokestatic 160, 3) := by decide +kernel
theorem dX12_place_13 : decode cX12_place 13 = .ok (.ifCond .eq 23, 3) := by decide +kernel
theorem dX12_place_16 : decode cX12_place 16 = .ok (.iload_n 2, 1) := by decide +kernel
theorem dX12_place_17 : decode cX12_place 17 = .ok (.iconst 0, 1) := by decide +kernel
theorem dX12_place_18 : decode cX12_place 18 = .ok (.sipush 9999, 3) := by decide +kernel
theorem dX12_place_21 : decode cX12_place 21 = .ok (.invokestatic 160, 3) := by decide +kernel
theorem dX12_place_24 : decode cX12_place 24 = .ok (.ifCond .eq 12, 3) := by decide +kernel
theorem dX12_place_27 : decode cX12_place 27 = .ok (.iload_n 3, 1) := by decide +kernel
theorem dX12_place_28 : decode cX12_place 28 = .ok (.iconst 0, 1) := by decide +kernel
theorem dX12_place_29 : decode cX12_place 29 = .ok (.iconst 1, 1) := by decide +kernel
theorem dX12_place_30 : decode cX12_place 30 = .ok (.invokestatic 160, 3) := by decide +kernel
theorem dX12_place_33 : decode cX12_place 33 = .ok (.ifCond .ne 6, 3) := by decide +kernel
theorem dX12_place_36 : decode cX12_place 36 = .ok (.ldc 194, 2) := by decide +kernel
theorem dX12_place_38 : decode cX12_place 38 = .ok (.ireturn, 1) := by decide +kernel
theorem dX12_place_39 : decode cX12_place 39 = .ok (.iload_n 3, 1) := by decide +kernel
theorem dX12_place_40 : decode cX12_place 40 = .ok (.ifCond .ne 12, 3) := by decide +kernel
theorem dX12_place_43 : decode cX12_place 43 = .ok (.aload_n 0, 1) := by decide +kernel
theorem dX12_place_44 : decode cX12_place 44 = .ok (.iload_n 1, 1) := by decide +kernel
theorem dX12_place_45 : decode cX12_place 45 = .ok (.iload_n 2, 1) := by decide +kernel
theorem dX12_place_46 : decode cX12_place 46 = .ok (.invokevirtual 156, 3) := by decide +kernel
theorem dX12_place_49 : decode cX12_place 49 = .ok (.goto 9, 3) := by decide +kernel
theorem dX12_place_52 : decode cX12_place 52 = .ok (.aload_n 0, 1) := by decide +kernel
theorem dX12_place_53 : decode cX12_place 53 = .ok (.iload_n 1, 1) := by decide +kernel
theorem dX12_place_54 : decode cX12_place 54 = .ok (.iload_n 2, 1) := by decide +kernel
theorem dX12_place_55 : decode cX12_place 55 = .ok (.invokevirtual 195, 3) := by decide +kernel
theorem dX12_place_58 : decode cX12_place 58 = .ok (.ireturn, 1) := by decide +kernel
theorem dX12_differs_0 : decode cX12_differs 0 = .ok (.aload_n 0, 1) := by decide +kernel
theorem dX12_differs_1 : decode cX12_differs 1 = .ok (.iload_n 1, 1) := by decide +kernel
theorem dX12_differs_2 : decode cX12_differs 2 = .ok (.iload_n 2, 1) := by decide +kernel
theorem dX12_differs_3 : decode cX12_differs 3 = .ok (.invokevirtual 156, 3) := by decide +kernel
theorem dX12_differs_6 : decode cX12_differs 6 = .ok (.aload_n 0, 1) := by decide +kernel
theorem dX12_differs_7 : decode cX12_differs 7 = .ok (.iload_n 3, 1) := by decide +kernel
theorem dX12_differs_8 : decode cX12_differs 8 = .ok (.iload 4, 2) := by decide +kernel
theorem dX12_differs_10 : decode cX12_differs 10 = .ok (.invokevirtual 156, 3) := by decide +kernel
theorem dX12_differs_13 : decode cX12_differs 13 = .ok (.isub, 1) := by decide +kernel
theorem dX12_differs_14 : decode cX12_differs 14 = .ok (.invokestatic 198, 3) := by decide +kernel
theorem dX12_differs_17 : decode cX12_differs 17 = .ok (.aload_n 0, 1) := by decide +kernel
theorem dX12_differs_18 : decode cX12_differs 18 = .ok (.iload_n 1, 1) := by decide +kernel
theorem dX12_differs_19 : decode cX12_differs 19 = .ok (.iload_n 2, 1) := by decide +kernel
theorem dX12_differs_20 : decode cX12_differs 20 = .ok (.invokevirtual 195, 3) := by decide +kernel
theorem dX12_differs_23 : decode cX12_differs 23 = .ok (.aload_n 0, 1) := by decide +kernel
theorem dX12_differs_24 : decode cX12_differs 24 = .ok (.iload_n 3, 1) := by decide +kernel
theorem dX12_differs_25 : decode cX12_differs 25 = .ok (.iload 4, 2) := by decide +kernel
theorem dX12_differs_27 : decode cX12_differs 27 = .ok (.invokevirtual 195, 3) := by decide +kernel
theorem dX12_differs_30 : decode cX12_differs 30 = .ok (.isub, 1) := by decide +kernel
theorem dX12_differs_31 : decode cX12_differs 31 = .ok (.invokestatic 198, 3) := by decide +kernel
theorem dX12_differs_34 : decode cX12_differs 34 = .ok (.iadd, 1) := by decide +kernel
theorem dX12_differs_35 : decode cX12_differs 35 = .ok (.ireturn, 1) := by decide +kernel
theorem dX12_grain_0 : decode cX12_grain 0 = .ok (.aload_n 0, 1) := by decide +kernel
theorem dX12_grain_1 : decode cX12_grain 1 = .ok (.iconst 0, 1) := by decide +kernel
theorem dX12_grain_2 : decode cX12_grain 2 = .ok (.putfield 127, 3) := by decide +kernel
theorem dX12_grain_5 : decode cX12_grain 5 = .ok (.aload_n 0, 1) := by decide +kernel
theorem dX12_grain_6 : decode cX12_grain 6 = .ok (.iload_n 1, 1) := by decide +kernel
theorem dX12_grain_7 : decode cX12_grain 7 = .ok (.iload_n 2, 1) := by decide +kernel
theorem dX12_grain_8 : decode cX12_grain 8 = .ok (.invokevirtual 184, 3) := by decide +kernel
theorem dX12_grain_11 : decode cX12_grain 11 = .ok (.ifCond .ne 5, 3) := by decide +kernel
theorem dX12_grain_14 : decode cX12_grain 14 = .ok (.iconst (-1), 1) := by decide +kernel
theorem dX12_grain_15 : decode cX12_grain 15 = .ok (.ireturn, 1) := by decide +kernel
theorem dX12_grain_16 : decode cX12_grain 16 = .ok (.aload_n 0, 1) := by decide +kernel
theorem dX12_grain_17 : decode cX12_grain 17 = .ok (.iload_n 1, 1) := by decide +kernel
theorem dX12_grain_18 : decode cX12_grain 18 = .ok (.iload_n 2, 1) := by decide +kernel
theorem dX12_grain_19 : decode cX12_grain 19 = .ok (.invokevirtual 188, 3) := by decide +kernel
theorem dX12_grain_22 : decode cX12_grain 22 = .ok (.istore_n 3, 1) := by decide +kernel
theorem dX12_grain_23 : decode cX12_grain 23 = .ok (.aload_n 0, 1) := by decide +kernel
theorem dX12_grain_24 : decode cX12_grain 24 = .ok (.iload_n 1, 1) := by decide +kernel
theorem dX12_grain_25 : decode cX12_grain 25 = .ok (.iload_n 2, 1) := by decide +kernel
theorem dX12_grain_26 : decode cX12_grain 26 = .ok (.invokevirtual 191, 3) := by decide +kernel
theorem dX12_grain_29 : decode cX12_grain 29 = .ok (.istore 4, 2) := by decide +kernel
theorem dX12_grain_31 : decode cX12_grain 31 = .ok (.iconst 0, 1) := by decide +kernel
theorem dX12_grain_32 : decode cX12_grain 32 = .ok (.istore 5, 2) := by decide +kernel
theorem dX12_grain_34 : decode cX12_grain 34 = .ok (.iconst 0, 1) := by decide +kernel
theorem dX12_grain_35 : decode cX12_grain 35 = .ok (.istore 6, 2) := by decide +kernel
theorem dX12_grain_37 : decode cX12_grain 37 = .ok (.iload 6, 2) := by decide +kernel
theorem dX12_grain_39 : decode cX12_grain 39 = .ok (.iconst 4, 1) := by decide +kernel
theorem dX12_grain_40 : decode cX12_grain 40 = .ok (.if_icmp .ge 78, 3) := by decide +kernel
theorem dX12_grain_43 : decode cX12_grain 43 = .ok (.iload 6, 2) := by decide +kernel
theorem dX12_grain_45 : decode cX12_grain 45 = .ok (.iconst 2, 1) := by decide +kernel
theorem dX12_grain_46 : decode cX12_grain 46 = .ok (.irem, 1) := by decide +kernel
theorem dX12_grain_47 : decode cX12_grain 47 = .ok (.ifCond .ne 7, 3) := by decide +kernel
theorem dX12_grain_50 : decode cX12_grain 50 = .ok (.iconst 1, 1) := by decide +kernel
theorem dX12_grain_51 : decode cX12_grain 51 = .ok (.goto 4, 3) := by decide +kernel
theorem dX12_grain_54 : decode cX12_grain 54 = .ok (.iconst (-1), 1) := by decide +kernel
theorem dX12_grain_55 : decode cX12_grain 55 = .ok (.istore 7, 2) := by decide +kernel
theorem dX12_grain_57 : decode cX12_grain 57 = .ok (.aload_n 0, 1) := by decide +kernel
theorem dX12_grain_58 : decode cX12_grain 58 = .ok (.iload_n 3, 1) := by decide +kernel
theorem dX12_grain_59 : decode cX12_grain 59 = .ok (.iload 4, 2) := by decide +kernel
theorem dX12_grain_61 : decode cX12_grain 61 = .ok (.iload 6, 2) := by decide +kernel
theorem dX12_grain_63 : decode cX12_grain 63 = .ok (.iconst 2, 1) := by decide +kernel
theorem dX12_grain_64 : decode cX12_grain 64 = .ok (.if_icmp .ge 10, 3) := by decide +kernel
theorem dX12_grain_67 : decode cX12_grain 67 = .ok (.iload_n 3, 1) := by decide +kernel
theorem dX12_grain_68 : decode cX12_grain 68 = .ok (.iload 7, 2) := by decide +kernel
theorem dX12_grain_70 : decode cX12_grain 70 = .ok (.iadd, 1) := by decide +kernel
theorem dX12_grain_71 : decode cX12_grain 71 = .ok (.goto 4, 3) := by decide +kernel
theorem dX12_grain_74 : decode cX12_grain 74 = .ok (.iload_n 3, 1) := by decide +kernel
theorem dX12_grain_75 : decode cX12_grain 75 = .ok (.iload 6, 2) := by decide +kernel
theorem dX12_grain_77 : decode cX12_grain 77 = .ok (.iconst 2, 1) := by decide +kernel
theorem dX12_grain_78 : decode cX12_grain 78 = .ok (.if_icmp .ge 8, 3) := by decide +kernel
theorem dX12_grain_81 : decode cX12_grain 81 = .ok (.iload 4, 2) := by decide +kernel
theorem dX12_grain_83 : decode cX12_grain 83 = .ok (.goto 8, 3) := by decide +kernel
theorem dX12_grain_86 : decode cX12_grain 86 = .ok (.iload 4, 2) := by decide +kernel
theorem dX12_grain_88 : decode cX12_grain 88 = .ok (.iload 7, 2) := by decide +kernel
theorem dX12_grain_90 : decode cX12_grain 90 = .ok (.iadd, 1) := by decide +kernel
theorem dX12_grain_91 : decode cX12_grain 91 = .ok (.invokevirtual 202, 3) := by decide +kernel
theorem dX12_grain_94 : decode cX12_grain 94 = .ok (.istore 8, 2) := by decide +kernel
theorem dX12_grain_96 : decode cX12_grain 96 = .ok (.iload 8, 2) := by decide +kernel
theorem dX12_grain_98 : decode cX12_grain 98 = .ok (.iload 5, 2) := by decide +kernel
theorem dX12_grain_100 : decode cX12_grain 100 = .ok (.if_icmp .le 8, 3) := by decide +kernel
theorem dX12_grain_103 : decode cX12_grain 103 = .ok (.iload 8, 2) := by decide +kernel
theorem dX12_grain_105 : decode cX12_grain 105 = .ok (.goto 5, 3) := by decide +kernel
theorem dX12_grain_108 : decode cX12_grain 108 = .ok (.iload 5, 2) := by decide +kernel
theorem dX12_grain_110 : decode cX12_grain 110 = .ok (.istore 5, 2) := by decide +kernel
theorem dX12_grain_112 : decode cX12_grain 112 = .ok (.iinc 6 1, 3) := by decide +kernel
theorem dX12_grain_115 : decode cX12_grain 115 = .ok (.goto (-78), 3) := by decide +kernel
theorem dX12_grain_118 : decode cX12_grain 118 = .ok (.iload 5, 2) := by decide +kernel
theorem dX12_grain_120 : decode cX12_grain 120 = .ok (.ireturn, 1) := by decide +kernel
theorem dX12_pullOf_0 : decode cX12_pullOf 0 = .ok (.iload_n 3, 1) := by decide +kernel
theorem dX12_pullOf_1 : decode cX12_pullOf 1 = .ok (.ifCond .ne 18, 3) := by decide +kernel
theorem dX12_pullOf_4 : decode cX12_pullOf 4 = .ok (.aload_n 0, 1) := by decide +kernel
theorem dX12_pullOf_5 : decode cX12_pullOf 5 = .ok (.bipush 100, 2) := by decide +kernel
theorem dX12_pullOf_7 : decode cX12_pullOf 7 = .ok (.iload_n 1, 1) := by decide +kernel
theorem dX12_pullOf_8 : decode cX12_pullOf 8 = .ok (.imul, 1) := by decide +kernel
theorem dX12_pullOf_9 : decode cX12_pullOf 9 = .ok (.bipush 100, 2) := by decide +kernel
theorem dX12_pullOf_11 : decode cX12_pullOf 11 = .ok (.iload_n 2, 1) := by decide +kernel
theorem dX12_pullOf_12 : decode cX12_pullOf 12 = .ok (.imul, 1) := by decide +kernel
theorem dX12_pullOf_13 : decode cX12_pullOf 13 = .ok (.invokevirtual 188, 3) := by decide +kernel
theorem dX12_pullOf_16 : decode cX12_pullOf 16 = .ok (.goto 15, 3) := by decide +kernel
theorem dX12_pullOf_19 : decode cX12_pullOf 19 = .ok (.aload_n 0, 1) := by decide +kernel
theorem dX12_pullOf_20 : decode cX12_pullOf 20 = .ok (.bipush 100, 2) := by decide +kernel
theorem dX12_pullOf_22 : decode cX12_pullOf 22 = .ok (.iload_n 1, 1) := by decide +kernel
theorem dX12_pullOf_23 : decode cX12_pullOf 23 = .ok (.imul, 1) := by decide +kernel
theorem dX12_pullOf_24 : decode cX12_pullOf 24 = .ok (.bipush 100, 2) := by decide +kernel
theorem dX12_pullOf_26 : decode cX12_pullOf 26 = .ok (.iload_n 2, 1) := by decide +kernel
theorem dX12_pullOf_27 : decode cX12_pullOf 27 = .ok (.imul, 1) := by decide +kernel
theorem dX12_pullOf_28 : decode cX12_pullOf 28 = .ok (.invokevirtual 191, 3) := by decide +kernel
theorem dX12_pullOf_31 : decode cX12_pullOf 31 = .ok (.istore 4, 2) := by decide +kernel
theorem dX12_pullOf_33 : decode cX12_pullOf 33 = .ok (.aload_n 0, 1) := by decide +kernel
theorem dX12_pullOf_34 : decode cX12_pullOf 34 = .ok (.getfield 23, 3) := by decide +kernel
theorem dX12_pullOf_37 : decode cX12_pullOf 37 = .ok (.iload 4, 2) := by decide +kernel
theorem dX12_pullOf_39 : decode cX12_pullOf 39 = .ok (.imul, 1) := by decide +kernel
theorem dX12_pullOf_40 : decode cX12_pullOf 40 = .ok (.iload_n 3, 1) := by decide +kernel
theorem dX12_pullOf_41 : decode cX12_pullOf 41 = .ok (.ifCond .ne 12, 3) := by decide +kernel
theorem dX12_pullOf_44 : decode cX12_pullOf 44 = .ok (.aload_n 0, 1) := by decide +kernel
theorem dX12_pullOf_45 : decode cX12_pullOf 45 = .ok (.getfield 13, 3) := by decide +kernel
theorem dX12_pullOf_48 : decode cX12_pullOf 48 = .ok (.iload_n 1, 1) := by decide +kernel
theorem dX12_pullOf_49 : decode cX12_pullOf 49 = .ok (.isub, 1) := by decide +kernel
theorem dX12_pullOf_50 : decode cX12_pullOf 50 = .ok (.goto 4, 3) := by decide +kernel
theorem dX12_pullOf_53 : decode cX12_pullOf 53 = .ok (.iload_n 1, 1) := by decide +kernel
theorem dX12_pullOf_54 : decode cX12_pullOf 54 = .ok (.imul, 1) := by decide +kernel
theorem dX12_pullOf_55 : decode cX12_pullOf 55 = .ok (.aload_n 0, 1) := by decide +kernel
theorem dX12_pullOf_56 : decode cX12_pullOf 56 = .ok (.getfield 20, 3) := by decide +kernel
theorem dX12_pullOf_59 : decode cX12_pullOf 59 = .ok (.aload_n 0, 1) := by decide +kernel
theorem dX12_pullOf_60 : decode cX12_pullOf 60 = .ok (.getfield 13, 3) := by decide +kernel
theorem dX12_pullOf_63 : decode cX12_pullOf 63 = .ok (.imul, 1) := by decide +kernel
theorem dX12_pullOf_64 : decode cX12_pullOf 64 = .ok (.iload_n 2, 1) := by decide +kernel
theorem dX12_pullOf_65 : decode cX12_pullOf 65 = .ok (.imul, 1) := by decide +kernel
theorem dX12_pullOf_66 : decode cX12_pullOf 66 = .ok (.idiv, 1) := by decide +kernel
theorem dX12_pullOf_67 : decode cX12_pullOf 67 = .ok (.ireturn, 1) := by decide +kernel
theorem dX12_mayDraw_0 : decode cX12_mayDraw 0 = .ok (.aload_n 0, 1) := by decide +kernel
theorem dX12_mayDraw_1 : decode cX12_mayDraw 1 = .ok (.iload_n 1, 1) := by decide +kernel
theorem dX12_mayDraw_2 : decode cX12_mayDraw 2 = .ok (.iload_n 2, 1) := by decide +kernel
theorem dX12_mayDraw_3 : decode cX12_mayDraw 3 = .ok (.iconst 0, 1) := by decide +kernel
theorem dX12_mayDraw_4 : decode cX12_mayDraw 4 = .ok (.invokevirtual 206, 3) := by decide +kernel
theorem dX12_mayDraw_7 : decode cX12_mayDraw 7 = .ok (.aload_n 0, 1) := by decide +kernel
theorem dX12_mayDraw_8 : decode cX12_mayDraw 8 = .ok (.getfield 26, 3) := by decide +kernel
theorem dX12_mayDraw_11 : decode cX12_mayDraw 11 = .ok (.if_icmp .gt 21, 3) := by decide +kernel
theorem dX12_mayDraw_14 : decode cX12_mayDraw 14 = .ok (.aload_n 0, 1) := by decide +kernel
theorem dX12_mayDraw_15 : decode cX12_mayDraw 15 = .ok (.iload_n 1, 1) := by decide +kernel
theorem dX12_mayDraw_16 : decode cX12_mayDraw 16 = .ok (.iload_n 2, 1) := by decide +kernel
theorem dX12_mayDraw_17 : decode cX12_mayDraw 17 = .ok (.iconst 1, 1) := by decide +kernel
theorem dX12_mayDraw_18 : decode cX12_mayDraw 18 = .ok (.invokevirtual 206, 3) := by decide +kernel
theorem dX12_mayDraw_21 : decode cX12_mayDraw 21 = .ok (.aload_n 0, 1) := by decide +kernel
theorem dX12_mayDraw_22 : decode cX12_mayDraw 22 = .ok (.getfield 26, 3) := by decide +kernel
theorem dX12_mayDraw_25 : decode cX12_mayDraw 25 = .ok (.if_icmp .gt 7, 3) := by decide +kernel
theorem dX12_mayDraw_28 : decode cX12_mayDraw 28 = .ok (.iconst 1, 1) := by decide +kernel
theorem dX12_mayDraw_29 : decode cX12_mayDraw 29 = .ok (.goto 4, 3) := by decide +kernel
theorem dX12_mayDraw_32 : decode cX12_mayDraw 32 = .ok (.iconst 0, 1) := by decide +kernel
theorem dX12_mayDraw_33 : decode cX12_mayDraw 33 = .ok (.ireturn, 1) := by decide +kernel
theorem dX12_pull_0 : decode cX12_pull 0 = .ok (.aload_n 0, 1) := by decide +kernel
theorem dX12_pull_1 : decode cX12_pull 1 = .ok (.iconst 0, 1) := by decide +kernel
theorem dX12_pull_2 : decode cX12_pull 2 = .ok (.putfield 127, 3) := by decide +kernel
theorem dX12_pull_5 : decode cX12_pull 5 = .ok (.iload_n 1, 1) := by decide +kernel
theorem dX12_pull_6 : decode cX12_pull 6 = .ok (.iconst 0, 1) := by decide +kernel
theorem dX12_pull_7 : decode cX12_pull 7 = .ok (.aload_n 0, 1) := by decide +kernel
theorem dX12_pull_8 : decode cX12_pull 8 = .ok (.getfield 13, 3) := by decide +kernel
theorem dX12_pull_11 : decode cX12_pull 11 = .ok (.invokestatic 160, 3) := by decide +kernel
theorem dX12_pull_14 : decode cX12_pull 14 = .ok (.ifCond .eq 24, 3) := by decide +kernel
theorem dX12_pull_17 : decode cX12_pull 17 = .ok (.iload_n 2, 1) := by decide +kernel
theorem dX12_pull_18 : decode cX12_pull 18 = .ok (.iconst 1, 1) := by decide +kernel
theorem dX12_pull_19 : decode cX12_pull 19 = .ok (.aload_n 0, 1) := by decide +kernel
theorem dX12_pull_20 : decode cX12_pull 20 = .ok (.getfield 17, 3) := by decide +kernel
theorem dX12_pull_23 : decode cX12_pull 23 = .ok (.invokestatic 160, 3) := by decide +kernel
theorem dX12_pull_26 : decode cX12_pull 26 = .ok (.ifCond .eq 12, 3) := by decide +kernel
theorem dX12_pull_29 : decode cX12_pull 29 = .ok (.iload_n 3, 1) := by decide +kernel
theorem dX12_pull_30 : decode cX12_pull 30 = .ok (.iconst 0, 1) := by decide +kernel
theorem dX12_pull_31 : decode cX12_pull 31 = .ok (.iconst 2, 1) := by decide +kernel
theorem dX12_pull_32 : decode cX12_pull 32 = .ok (.invokestatic 160, 3) := by decide +kernel
theorem dX12_pull_35 : decode cX12_pull 35 = .ok (.ifCond .ne 5, 3) := by decide +kernel
theorem dX12_pull_38 : decode cX12_pull 38 = .ok (.iconst (-1), 1) := by decide +kernel
theorem dX12_pull_39 : decode cX12_pull 39 = .ok (.ireturn, 1) := by decide +kernel
theorem dX12_pull_40 : decode cX12_pull 40 = .ok (.iload_n 3, 1) := by decide +kernel
theorem dX12_pull_41 : decode cX12_pull 41 = .ok (.iconst 2, 1) := by decide +kernel
theorem dX12_pull_42 : decode cX12_pull 42 = .ok (.if_icmp .ge 13, 3) := by decide +kernel
theorem dX12_pull_45 : decode cX12_pull 45 = .ok (.aload_n 0, 1) := by decide +kernel
theorem dX12_pull_46 : decode cX12_pull 46 = .ok (.iload_n 1, 1) := by decide +kernel
theorem dX12_pull_47 : decode cX12_pull 47 = .ok (.iload_n 2, 1) := by decide +kernel
theorem dX12_pull_48 : decode cX12_pull 48 = .ok (.iload_n 3, 1) := by decide +kernel
theorem dX12_pull_49 : decode cX12_pull 49 = .ok (.invokevirtual 206, 3) := by decide +kernel
theorem dX12_pull_52 : decode cX12_pull 52 = .ok (.goto 17, 3) := by decide +kernel
theorem dX12_pull_55 : decode cX12_pull 55 = .ok (.aload_n 0, 1) := by decide +kernel
theorem dX12_pull_56 : decode cX12_pull 56 = .ok (.iload_n 1, 1) := by decide +kernel
theorem dX12_pull_57 : decode cX12_pull 57 = .ok (.iload_n 2, 1) := by decide +kernel
theorem dX12_pull_58 : decode cX12_pull 58 = .ok (.invokevirtual 210, 3) := by decide +kernel
theorem dX12_pull_61 : decode cX12_pull 61 = .ok (.ifCond .eq 7, 3) := by decide +kernel
theorem dX12_pull_64 : decode cX12_pull 64 = .ok (.iconst 1, 1) := by decide +kernel
theorem dX12_pull_65 : decode cX12_pull 65 = .ok (.goto 4, 3) := by decide +kernel
theorem dX12_pull_68 : decode cX12_pull 68 = .ok (.iconst 0, 1) := by decide +kernel
theorem dX12_pull_69 : decode cX12_pull 69 = .ok (.ireturn, 1) := by decide +kernel
theorem dX12_reach_0 : decode cX12_reach 0 = .ok (.aload_n 0, 1) := by decide +kernel
theorem dX12_reach_1 : decode cX12_reach 1 = .ok (.iconst 0, 1) := by decide +kernel
theorem dX12_reach_2 : decode cX12_reach 2 = .ok (.putfield 127, 3) := by decide +kernel
theorem dX12_reach_5 : decode cX12_reach 5 = .ok (.iconst 0, 1) := by decide +kernel
theorem dX12_reach_6 : decode cX12_reach 6 = .ok (.istore_n 1, 1) := by decide +kernel
theorem dX12_reach_7 : decode cX12_reach 7 = .ok (.iconst 1, 1) := by decide +kernel
theorem dX12_reach_8 : decode cX12_reach 8 = .ok (.istore_n 2, 1) := by decide +kernel
theorem dX12_reach_9 : decode cX12_reach 9 = .ok (.iload_n 2, 1) := by decide +kernel
theorem dX12_reach_10 : decode cX12_reach 10 = .ok (.aload_n 0, 1) := by decide +kernel
theorem dX12_reach_11 : decode cX12_reach 11 = .ok (.getfield 17, 3) := by decide +kernel
theorem dX12_reach_14 : decode cX12_reach 14 = .ok (.if_icmp .gt 42, 3) := by decide +kernel
theorem dX12_reach_17 : decode cX12_reach 17 = .ok (.iconst 0, 1) := by decide +kernel
theorem dX12_reach_18 : decode cX12_reach 18 = .ok (.istore_n 3, 1) := by decide +kernel
theorem dX12_reach_19 : decode cX12_reach 19 = .ok (.iload_n 3, 1) := by decide +kernel
theorem dX12_reach_20 : decode cX12_reach 20 = .ok (.aload_n 0, 1) := by decide +kernel
theorem dX12_reach_21 : decode cX12_reach 21 = .ok (.getfield 13, 3) := by decide +kernel
theorem dX12_reach_24 : decode cX12_reach 24 = .ok (.if_icmp .gt 26, 3) := by decide +kernel
theorem dX12_reach_27 : decode cX12_reach 27 = .ok (.iload_n 1, 1) := by decide +kernel
theorem dX12_reach_28 : decode cX12_reach 28 = .ok (.aload_n 0, 1) := by decide +kernel
theorem dX12_reach_29 : decode cX12_reach 29 = .ok (.iload_n 3, 1) := by decide +kernel
theorem dX12_reach_30 : decode cX12_reach 30 = .ok (.iload_n 2, 1) := by decide +kernel
theorem dX12_reach_31 : decode cX12_reach 31 = .ok (.invokevirtual 210, 3) := by decide +kernel
theorem dX12_reach_34 : decode cX12_reach 34 = .ok (.ifCond .eq 7, 3) := by decide +kernel
theorem dX12_reach_37 : decode cX12_reach 37 = .ok (.iconst 1, 1) := by decide +kernel
theorem dX12_reach_38 : decode cX12_reach 38 = .ok (.goto 4, 3) := by decide +kernel
theorem dX12_reach_41 : decode cX12_reach 41 = .ok (.iconst 0, 1) := by decide +kernel
theorem dX12_reach_42 : decode cX12_reach 42 = .ok (.iadd, 1) := by decide +kernel
theorem dX12_reach_43 : decode cX12_reach 43 = .ok (.istore_n 1, 1) := by decide +kernel
theorem dX12_reach_44 : decode cX12_reach 44 = .ok (.iinc 3 1, 3) := by decide +kernel
theorem dX12_reach_47 : decode cX12_reach 47 = .ok (.goto (-28), 3) := by decide +kernel
theorem dX12_reach_50 : decode cX12_reach 50 = .ok (.iinc 2 1, 3) := by decide +kernel
theorem dX12_reach_53 : decode cX12_reach 53 = .ok (.goto (-44), 3) := by decide +kernel
theorem dX12_reach_56 : decode cX12_reach 56 = .ok (.iload_n 1, 1) := by decide +kernel
theorem dX12_reach_57 : decode cX12_reach 57 = .ok (.ireturn, 1) := by decide +kernel
theorem dX12_wrong_0 : decode cX12_wrong 0 = .ok (.aload_n 0, 1) := by decide +kernel
theorem dX12_wrong_1 : decode cX12_wrong 1 = .ok (.iload_n 1, 1) := by decide +kernel
theorem dX12_wrong_2 : decode cX12_wrong 2 = .ok (.putfield 213, 3) := by decide +kernel
theorem dX12_wrong_5 : decode cX12_wrong 5 = .ok (.aload_n 0, 1) := by decide +kernel
theorem dX12_wrong_6 : decode cX12_wrong 6 = .ok (.aload_n 0, 1) := by decide +kernel
theorem dX12_wrong_7 : decode cX12_wrong 7 = .ok (.getfield 216, 3) := by decide +kernel
theorem dX12_wrong_10 : decode cX12_wrong 10 = .ok (.putfield 32, 3) := by decide +kernel
theorem dX12_wrong_13 : decode cX12_wrong 13 = .ok (.iconst 0, 1) := by decide +kernel
theorem dX12_wrong_14 : decode cX12_wrong 14 = .ok (.ireturn, 1) := by decide +kernel
theorem dX12_wordAt_0 : decode cX12_wordAt 0 = .ok (.iconst 0, 1) := by decide +kernel
theorem dX12_wordAt_1 : decode cX12_wordAt 1 = .ok (.istore_n 3, 1) := by decide +kernel
theorem dX12_wordAt_2 : decode cX12_wordAt 2 = .ok (.iconst 0, 1) := by decide +kernel
theorem dX12_wordAt_3 : decode cX12_wordAt 3 = .ok (.istore 4, 2) := by decide +kernel
theorem dX12_wordAt_5 : decode cX12_wordAt 5 = .ok (.iload 4, 2) := by decide +kernel
theorem dX12_wordAt_7 : decode cX12_wordAt 7 = .ok (.aload_n 0, 1) := by decide +kernel
theorem dX12_wordAt_8 : decode cX12_wordAt 8 = .ok (.getfield 29, 3) := by decide +kernel
theorem dX12_wordAt_11 : decode cX12_wordAt 11 = .ok (.arraylength, 1) := by decide +kernel
theorem dX12_wordAt_12 : decode cX12_wordAt 12 = .ok (.if_icmp .ge 114, 3) := by decide +kernel
theorem dX12_wordAt_15 : decode cX12_wordAt 15 = .ok (.iconst 0, 1) := by decide +kernel
theorem dX12_wordAt_16 : decode cX12_wordAt 16 = .ok (.istore 5, 2) := by decide +kernel
theorem dX12_wordAt_18 : decode cX12_wordAt 18 = .ok (.aload_n 0, 1) := by decide +kernel
theorem dX12_wordAt_19 : decode cX12_wordAt 19 = .ok (.getfield 29, 3) := by decide +kernel
theorem dX12_wordAt_22 : decode cX12_wordAt 22 = .ok (.iload 4, 2) := by decide +kernel
theorem dX12_wordAt_24 : decode cX12_wordAt 24 = .ok (.iload 5, 2) := by decide +kernel
theorem dX12_wordAt_26 : decode cX12_wordAt 26 = .ok (.iadd, 1) := by decide +kernel
theorem dX12_wordAt_27 : decode cX12_wordAt 27 = .ok (.iaload, 1) := by decide +kernel
theorem dX12_wordAt_28 : decode cX12_wordAt 28 = .ok (.bipush 32, 2) := by decide +kernel
theorem dX12_wordAt_30 : decode cX12_wordAt 30 = .ok (.if_icmp .eq 9, 3) := by decide +kernel
theorem dX12_wordAt_33 : decode cX12_wordAt 33 = .ok (.iinc 5 1, 3) := by decide +kernel
theorem dX12_wordAt_36 : decode cX12_wordAt 36 = .ok (.goto (-18), 3) := by decide +kernel
theorem dX12_wordAt_39 : decode cX12_wordAt 39 = .ok (.iload 5, 2) := by decide +kernel
theorem dX12_wordAt_41 : decode cX12_wordAt 41 = .ok (.iload_n 2, 1) := by decide +kernel
theorem dX12_wordAt_42 : decode cX12_wordAt 42 = .ok (.iload_n 1, 1) := by decide +kernel
theorem dX12_wordAt_43 : decode cX12_wordAt 43 = .ok (.isub, 1) := by decide +kernel
theorem dX12_wordAt_44 : decode cX12_wordAt 44 = .ok (.if_icmp .ne 7, 3) := by decide +kernel
theorem dX12_wordAt_47 : decode cX12_wordAt 47 = .ok (.iconst 1, 1) := by decide +kernel
theorem dX12_wordAt_48 : decode cX12_wordAt 48 = .ok (.goto 4, 3) := by decide +kernel
theorem dX12_wordAt_51 : decode cX12_wordAt 51 = .ok (.iconst 0, 1) := by decide +kernel
theorem dX12_wordAt_52 : decode cX12_wordAt 52 = .ok (.istore 6, 2) := by decide +kernel
theorem dX12_wordAt_54 : decode cX12_wordAt 54 = .ok (.iconst 0, 1) := by decide +kernel
theorem dX12_wordAt_55 : decode cX12_wordAt 55 = .ok (.istore 7, 2) := by decide +kernel
theorem dX12_wordAt_57 : decode cX12_wordAt 57 = .ok (.iload 7, 2) := by decide +kernel
theorem dX12_wordAt_59 : decode cX12_wordAt 59 = .ok (.iload 5, 2) := by decide +kernel
theorem dX12_wordAt_61 : decode cX12_wordAt 61 = .ok (.if_icmp .ge 43, 3) := by decide +kernel
theorem dX12_wordAt_64 : decode cX12_wordAt 64 = .ok (.iload 6, 2) := by decide +kernel
theorem dX12_wordAt_66 : decode cX12_wordAt 66 = .ok (.ifCond .eq 38, 3) := by decide +kernel
theorem dX12_wordAt_69 : decode cX12_wordAt 69 = .ok (.aload_n 0, 1) := by decide +kernel
theorem dX12_wordAt_70 : decode cX12_wordAt 70 = .ok (.getfield 29, 3) := by decide +kernel
theorem dX12_wordAt_73 : decode cX12_wordAt 73 = .ok (.iload 4, 2) := by decide +kernel
theorem dX12_wordAt_75 : decode cX12_wordAt 75 = .ok (.iload 7, 2) := by decide +kernel
theorem dX12_wordAt_77 : decode cX12_wordAt 77 = .ok (.iadd, 1) := by decide +kernel
theorem dX12_wordAt_78 : decode cX12_wordAt 78 = .ok (.iaload, 1) := by decide +kernel
theorem dX12_wordAt_79 : decode cX12_wordAt 79 = .ok (.aload_n 0, 1) := by decide +kernel
theorem dX12_wordAt_80 : decode cX12_wordAt 80 = .ok (.getfield 7, 3) := by decide +kernel
theorem dX12_wordAt_83 : decode cX12_wordAt 83 = .ok (.iload_n 1, 1) := by decide +kernel
theorem dX12_wordAt_84 : decode cX12_wordAt 84 = .ok (.iload 7, 2) := by decide +kernel
theorem dX12_wordAt_86 : decode cX12_wordAt 86 = .ok (.iadd, 1) := by decide +kernel
theorem dX12_wordAt_87 : decode cX12_wordAt 87 = .ok (.iaload, 1) := by decide +kernel
theorem dX12_wordAt_88 : decode cX12_wordAt 88 = .ok (.if_icmp .ne 7, 3) := by decide +kernel
theorem dX12_wordAt_91 : decode cX12_wordAt 91 = .ok (.iconst 1, 1) := by decide +kernel
theorem dX12_wordAt_92 : decode cX12_wordAt 92 = .ok (.goto 4, 3) := by decide +kernel
theorem dX12_wordAt_95 : decode cX12_wordAt 95 = .ok (.iconst 0, 1) := by decide +kernel
theorem dX12_wordAt_96 : decode cX12_wordAt 96 = .ok (.istore 6, 2) := by decide +kernel
theorem dX12_wordAt_98 : decode cX12_wordAt 98 = .ok (.iinc 7 1, 3) := by decide +kernel
theorem dX12_wordAt_101 : decode cX12_wordAt 101 = .ok (.goto (-44), 3) := by decide +kernel
theorem dX12_wordAt_104 : decode cX12_wordAt 104 = .ok (.iload 6, 2) := by decide +kernel
theorem dX12_wordAt_106 : decode cX12_wordAt 106 = .ok (.ifCond .eq 5, 3) := by decide +kernel
theorem dX12_wordAt_109 : decode cX12_wordAt 109 = .ok (.iload_n 3, 1) := by decide +kernel
theorem dX12_wordAt_110 : decode cX12_wordAt 110 = .ok (.ireturn, 1) := by decide +kernel
theorem dX12_wordAt_111 : decode cX12_wordAt 111 = .ok (.iload 4, 2) := by decide +kernel
theorem dX12_wordAt_113 : decode cX12_wordAt 113 = .ok (.iload 5, 2) := by decide +kernel
theorem dX12_wordAt_115 : decode cX12_wordAt 115 = .ok (.iconst 1, 1) := by decide +kernel
theorem dX12_wordAt_116 : decode cX12_wordAt 116 = .ok (.iadd, 1) := by decide +kernel
theorem dX12_wordAt_117 : decode cX12_wordAt 117 = .ok (.iadd, 1) := by decide +kernel
theorem dX12_wordAt_118 : decode cX12_wordAt 118 = .ok (.istore 4, 2) := by decide +kernel
theorem dX12_wordAt_120 : decode cX12_wordAt 120 = .ok (.iinc 3 1, 3) := by decide +kernel
theorem dX12_wordAt_123 : decode cX12_wordAt 123 = .ok (.goto (-118), 3) := by decide +kernel
theorem dX12_wordAt_126 : decode cX12_wordAt 126 = .ok (.iconst (-1), 1) := by decide +kernel
theorem dX12_wordAt_127 : decode cX12_wordAt 127 = .ok (.ireturn, 1) := by decide +kernel
theorem dX12_isSmall_0 : decode cX12_isSmall 0 = .ok (.iload_n 1, 1) := by decide +kernel
theorem dX12_isSmall_1 : decode cX12_isSmall 1 = .ok (.aload_n 0, 1) := by decide +kernel
theorem dX12_isSmall_2 : decode cX12_isSmall 2 = .ok (.getfield 219, 3) := by decide +kernel
theorem dX12_isSmall_5 : decode cX12_isSmall 5 = .ok (.if_icmp .ge 29, 3) := by decide +kernel
theorem dX12_isSmall_8 : decode cX12_isSmall 8 = .ok (.aload_n 0, 1) := by decide +kernel
theorem dX12_isSmall_9 : decode cX12_isSmall 9 = .ok (.getfield 7, 3) := by decide +kernel
theorem dX12_isSmall_12 : decode cX12_isSmall 12 = .ok (.iload_n 1, 1) := by decide +kernel
theorem dX12_isSmall_13 : decode cX12_isSmall 13 = .ok (.iaload, 1) := by decide +kernel
theorem dX12_isSmall_14 : decode cX12_isSmall 14 = .ok (.bipush 97, 2) := by decide +kernel
theorem dX12_isSmall_16 : decode cX12_isSmall 16 = .ok (.if_icmp .lt 18, 3) := by decide +kernel
theorem dX12_isSmall_19 : decode cX12_isSmall 19 = .ok (.aload_n 0, 1) := by decide +kernel
theorem dX12_isSmall_20 : decode cX12_isSmall 20 = .ok (.getfield 7, 3) := by decide +kernel
theorem dX12_isSmall_23 : decode cX12_isSmall 23 = .ok (.iload_n 1, 1) := by decide +kernel
theorem dX12_isSmall_24 : decode cX12_isSmall 24 = .ok (.iaload, 1) := by decide +kernel
theorem dX12_isSmall_25 : decode cX12_isSmall 25 = .ok (.bipush 122, 2) := by decide +kernel
theorem dX12_isSmall_27 : decode cX12_isSmall 27 = .ok (.if_icmp .gt 7, 3) := by decide +kernel
theorem dX12_isSmall_30 : decode cX12_isSmall 30 = .ok (.iconst 1, 1) := by decide +kernel
theorem dX12_isSmall_31 : decode cX12_isSmall 31 = .ok (.goto 4, 3) := by decide +kernel
theorem dX12_isSmall_34 : decode cX12_isSmall 34 = .ok (.iconst 0, 1) := by decide +kernel
theorem dX12_isSmall_35 : decode cX12_isSmall 35 = .ok (.ireturn, 1) := by decide +kernel
theorem dX12_isDigit_0 : decode cX12_isDigit 0 = .ok (.iload_n 1, 1) := by decide +kernel
theorem dX12_isDigit_1 : decode cX12_isDigit 1 = .ok (.aload_n 0, 1) := by decide +kernel
theorem dX12_isDigit_2 : decode cX12_isDigit 2 = .ok (.getfield 219, 3) := by decide +kernel
theorem dX12_isDigit_5 : decode cX12_isDigit 5 = .ok (.if_icmp .ge 29, 3) := by decide +kernel
theorem dX12_isDigit_8 : decode cX12_isDigit 8 = .ok (.aload_n 0, 1) := by decide +kernel
theorem dX12_isDigit_9 : decode cX12_isDigit 9 = .ok (.getfield 7, 3) := by decide +kernel
theorem dX12_isDigit_12 : decode cX12_isDigit 12 = .ok (.iload_n 1, 1) := by decide +kernel
theorem dX12_isDigit_13 : decode cX12_isDigit 13 = .ok (.iaload, 1) := by decide +kernel
theorem dX12_isDigit_14 : decode cX12_isDigit 14 = .ok (.bipush 48, 2) := by decide +kernel
theorem dX12_isDigit_16 : decode cX12_isDigit 16 = .ok (.if_icmp .lt 18, 3) := by decide +kernel
theorem dX12_isDigit_19 : decode cX12_isDigit 19 = .ok (.aload_n 0, 1) := by decide +kernel
theorem dX12_isDigit_20 : decode cX12_isDigit 20 = .ok (.getfield 7, 3) := by decide +kernel
theorem dX12_isDigit_23 : decode cX12_isDigit 23 = .ok (.iload_n 1, 1) := by decide +kernel
theorem dX12_isDigit_24 : decode cX12_isDigit 24 = .ok (.iaload, 1) := by decide +kernel
theorem dX12_isDigit_25 : decode cX12_isDigit 25 = .ok (.bipush 57, 2) := by decide +kernel
theorem dX12_isDigit_27 : decode cX12_isDigit 27 = .ok (.if_icmp .gt 7, 3) := by decide +kernel
theorem dX12_isDigit_30 : decode cX12_isDigit 30 = .ok (.iconst 1, 1) := by decide +kernel
theorem dX12_isDigit_31 : decode cX12_isDigit 31 = .ok (.goto 4, 3) := by decide +kernel
theorem dX12_isDigit_34 : decode cX12_isDigit 34 = .ok (.iconst 0, 1) := by decide +kernel
theorem dX12_isDigit_35 : decode cX12_isDigit 35 = .ok (.ireturn, 1) := by decide +kernel
theorem dX12_take_0 : decode cX12_take 0 = .ok (.aload_n 0, 1) := by decide +kernel
theorem dX12_take_1 : decode cX12_take 1 = .ok (.getfield 222, 3) := by decide +kernel
theorem dX12_take_4 : decode cX12_take 4 = .ok (.aload_n 0, 1) := by decide +kernel
theorem dX12_take_5 : decode cX12_take 5 = .ok (.getfield 219, 3) := by decide +kernel
theorem dX12_take_8 : decode cX12_take 8 = .ok (.if_icmp .ge 44, 3) := by decide +kernel
theorem dX12_take_11 : decode cX12_take 11 = .ok (.aload_n 0, 1) := by decide +kernel
theorem dX12_take_12 : decode cX12_take 12 = .ok (.getfield 7, 3) := by decide +kernel
theorem dX12_take_15 : decode cX12_take 15 = .ok (.aload_n 0, 1) := by decide +kernel
theorem dX12_take_16 : decode cX12_take 16 = .ok (.getfield 222, 3) := by decide +kernel
theorem dX12_take_19 : decode cX12_take 19 = .ok (.iaload, 1) := by decide +kernel
theorem dX12_take_20 : decode cX12_take 20 = .ok (.bipush 10, 2) := by decide +kernel
theorem dX12_take_22 : decode cX12_take 22 = .ok (.if_icmp .eq 17, 3) := by decide +kernel
theorem dX12_take_25 : decode cX12_take 25 = .ok (.aload_n 0, 1) := by decide +kernel
theorem dX12_take_26 : decode cX12_take 26 = .ok (.getfield 7, 3) := by decide +kernel
theorem dX12_take_29 : decode cX12_take 29 = .ok (.aload_n 0, 1) := by decide +kernel
theorem dX12_take_30 : decode cX12_take 30 = .ok (.getfield 222, 3) := by decide +kernel
theorem dX12_take_33 : decode cX12_take 33 = .ok (.iaload, 1) := by decide +kernel
theorem dX12_take_34 : decode cX12_take 34 = .ok (.bipush 32, 2) := by decide +kernel
theorem dX12_take_36 : decode cX12_take 36 = .ok (.if_icmp .ne 16, 3) := by decide +kernel
theorem dX12_take_39 : decode cX12_take 39 = .ok (.aload_n 0, 1) := by decide +kernel
theorem dX12_take_40 : decode cX12_take 40 = .ok (.dup, 1) := by decide +kernel
theorem dX12_take_41 : decode cX12_take 41 = .ok (.getfield 222, 3) := by decide +kernel
theorem dX12_take_44 : decode cX12_take 44 = .ok (.iconst 1, 1) := by decide +kernel
theorem dX12_take_45 : decode cX12_take 45 = .ok (.iadd, 1) := by decide +kernel
theorem dX12_take_46 : decode cX12_take 46 = .ok (.putfield 222, 3) := by decide +kernel
theorem dX12_take_49 : decode cX12_take 49 = .ok (.goto (-49), 3) := by decide +kernel
theorem dX12_take_52 : decode cX12_take 52 = .ok (.aload_n 0, 1) := by decide +kernel
theorem dX12_take_53 : decode cX12_take 53 = .ok (.aload_n 0, 1) := by decide +kernel
theorem dX12_take_54 : decode cX12_take 54 = .ok (.getfield 222, 3) := by decide +kernel
theorem dX12_take_57 : decode cX12_take 57 = .ok (.putfield 216, 3) := by decide +kernel
theorem dX12_take_60 : decode cX12_take 60 = .ok (.aload_n 0, 1) := by decide +kernel
theorem dX12_take_61 : decode cX12_take 61 = .ok (.getfield 222, 3) := by decide +kernel
theorem dX12_take_64 : decode cX12_take 64 = .ok (.aload_n 0, 1) := by decide +kernel
theorem dX12_take_65 : decode cX12_take 65 = .ok (.getfield 219, 3) := by decide +kernel
theorem dX12_take_68 : decode cX12_take 68 = .ok (.if_icmp .ne 11, 3) := by decide +kernel
theorem dX12_take_71 : decode cX12_take 71 = .ok (.aload_n 0, 1) := by decide +kernel
theorem dX12_take_72 : decode cX12_take 72 = .ok (.iconst 0, 1) := by decide +kernel
theorem dX12_take_73 : decode cX12_take 73 = .ok (.putfield 225, 3) := by decide +kernel
theorem dX12_take_76 : decode cX12_take 76 = .ok (.goto 269, 3) := by decide +kernel
theorem dX12_take_79 : decode cX12_take 79 = .ok (.aload_n 0, 1) := by decide +kernel
theorem dX12_take_80 : decode cX12_take 80 = .ok (.aload_n 0, 1) := by decide +kernel
theorem dX12_take_81 : decode cX12_take 81 = .ok (.getfield 222, 3) := by decide +kernel
theorem dX12_take_84 : decode cX12_take 84 = .ok (.invokevirtual 228, 3) := by decide +kernel
theorem dX12_take_87 : decode cX12_take 87 = .ok (.ifCond .eq 104, 3) := by decide +kernel
theorem dX12_take_90 : decode cX12_take 90 = .ok (.aload_n 0, 1) := by decide +kernel
theorem dX12_take_91 : decode cX12_take 91 = .ok (.aload_n 0, 1) := by decide +kernel
theorem dX12_take_92 : decode cX12_take 92 = .ok (.getfield 222, 3) := by decide +kernel
theorem dX12_take_95 : decode cX12_take 95 = .ok (.invokevirtual 228, 3) := by decide +kernel
theorem dX12_take_98 : decode cX12_take 98 = .ok (.ifCond .eq 16, 3) := by decide +kernel
theorem dX12_take_101 : decode cX12_take 101 = .ok (.aload_n 0, 1) := by decide +kernel
theorem dX12_take_102 : decode cX12_take 102 = .ok (.dup, 1) := by decide +kernel
theorem dX12_take_103 : decode cX12_take 103 = .ok (.getfield 222, 3) := by decide +kernel
theorem dX12_take_106 : decode cX12_take 106 = .ok (.iconst 1, 1) := by decide +kernel
theorem dX12_take_107 : decode cX12_take 107 = .ok (.iadd, 1) := by decide +kernel
theorem dX12_take_108 : decode cX12_take 108 = .ok (.putfield 222, 3) := by decide +kernel
theorem dX12_take_111 : decode cX12_take 111 = .ok (.goto (-21), 3) := by decide +kernel
theorem dX12_take_114 : decode cX12_take 114 = .ok (.aload_n 0, 1) := by decide +kernel
theorem dX12_take_115 : decode cX12_take 115 = .ok (.aload_n 0, 1) := by decide +kernel
theorem dX12_take_116 : decode cX12_take 116 = .ok (.aload_n 0, 1) := by decide +kernel
theorem dX12_take_117 : decode cX12_take 117 = .ok (.getfield 216, 3) := by decide +kernel
theorem dX12_take_120 : decode cX12_take 120 = .ok (.aload_n 0, 1) := by decide +kernel
theorem dX12_take_121 : decode cX12_take 121 = .ok (.getfield 222, 3) := by decide +kernel
theorem dX12_take_124 : decode cX12_take 124 = .ok (.invokevirtual 232, 3) := by decide +kernel
theorem dX12_take_127 : decode cX12_take 127 = .ok (.putfield 235, 3) := by decide +kernel
theorem dX12_take_130 : decode cX12_take 130 = .ok (.aload_n 0, 1) := by decide +kernel
theorem dX12_take_131 : decode cX12_take 131 = .ok (.aload_n 0, 1) := by decide +kernel
theorem dX12_take_132 : decode cX12_take 132 = .ok (.getfield 235, 3) := by decide +kernel
theorem dX12_take_135 : decode cX12_take 135 = .ok (.ifCond .lt 7, 3) := by decide +kernel
theorem dX12_take_138 : decode cX12_take 138 = .ok (.iconst 1, 1) := by decide +kernel
theorem dX12_take_139 : decode cX12_take 139 = .ok (.goto 22, 3) := by decide +kernel
theorem dX12_take_142 : decode cX12_take 142 = .ok (.aload_n 0, 1) := by decide +kernel
theorem dX12_take_143 : decode cX12_take 143 = .ok (.getfield 222, 3) := by decide +kernel
theorem dX12_take_146 : decode cX12_take 146 = .ok (.aload_n 0, 1) := by decide +kernel
theorem dX12_take_147 : decode cX12_take 147 = .ok (.getfield 216, 3) := by decide +kernel
theorem dX12_take_150 : decode cX12_take 150 = .ok (.isub, 1) := by decide +kernel
theorem dX12_take_151 : decode cX12_take 151 = .ok (.bipush 6, 2) := by decide +kernel
theorem dX12_take_153 : decode cX12_take 153 = .ok (.if_icmp .le 7, 3) := by decide +kernel
theorem dX12_take_156 : decode cX12_take 156 = .ok (.iconst 5, 1) := by decide +kernel
theorem dX12_take_157 : decode cX12_take 157 = .ok (.goto 4, 3) := by decide +kernel
theorem dX12_take_160 : decode cX12_take 160 = .ok (.iconst 2, 1) := by decide +kernel
theorem dX12_take_161 : decode cX12_take 161 = .ok (.putfield 225, 3) := by decide +kernel
theorem dX12_take_164 : decode cX12_take 164 = .ok (.aload_n 0, 1) := by decide +kernel
theorem dX12_take_165 : decode cX12_take 165 = .ok (.getfield 225, 3) := by decide +kernel
theorem dX12_take_168 : decode cX12_take 168 = .ok (.iconst 2, 1) := by decide +kernel
theorem dX12_take_169 : decode cX12_take 169 = .ok (.if_icmp .ne 176, 3) := by decide +kernel
theorem dX12_take_172 : decode cX12_take 172 = .ok (.aload_n 0, 1) := by decide +kernel
theorem dX12_take_173 : decode cX12_take 173 = .ok (.aload_n 0, 1) := by decide +kernel
theorem dX12_take_174 : decode cX12_take 174 = .ok (.aload_n 0, 1) := by decide +kernel
theorem dX12_take_175 : decode cX12_take 175 = .ok (.getfield 216, 3) := by decide +kernel
theorem dX12_take_178 : decode cX12_take 178 = .ok (.aload_n 0, 1) := by decide +kernel
theorem dX12_take_179 : decode cX12_take 179 = .ok (.getfield 222, 3) := by decide +kernel
theorem dX12_take_182 : decode cX12_take 182 = .ok (.invokevirtual 238, 3) := by decide +kernel
theorem dX12_take_185 : decode cX12_take 185 = .ok (.putfield 235, 3) := by decide +kernel
theorem dX12_take_188 : decode cX12_take 188 = .ok (.goto 157, 3) := by decide +kernel
theorem dX12_take_191 : decode cX12_take 191 = .ok (.aload_n 0, 1) := by decide +kernel
theorem dX12_take_192 : decode cX12_take 192 = .ok (.aload_n 0, 1) := by decide +kernel
theorem dX12_take_193 : decode cX12_take 193 = .ok (.getfield 222, 3) := by decide +kernel
theorem dX12_take_196 : decode cX12_take 196 = .ok (.invokevirtual 241, 3) := by decide +kernel
theorem dX12_take_199 : decode cX12_take 199 = .ok (.ifCond .eq 78, 3) := by decide +kernel
theorem dX12_take_202 : decode cX12_take 202 = .ok (.aload_n 0, 1) := by decide +kernel
theorem dX12_take_203 : decode cX12_take 203 = .ok (.iconst 3, 1) := by decide +kernel
theorem dX12_take_204 : decode cX12_take 204 = .ok (.putfield 225, 3) := by decide +kernel
theorem dX12_take_207 : decode cX12_take 207 = .ok (.aload_n 0, 1) := by decide +kernel
theorem dX12_take_208 : decode cX12_take 208 = .ok (.iconst 0, 1) := by decide +kernel
theorem dX12_take_209 : decode cX12_take 209 = .ok (.putfield 235, 3) := by decide +kernel
theorem dX12_take_212 : decode cX12_take 212 = .ok (.aload_n 0, 1) := by decide +kernel
theorem dX12_take_213 : decode cX12_take 213 = .ok (.aload_n 0, 1) := by decide +kernel
theorem dX12_take_214 : decode cX12_take 214 = .ok (.getfield 222, 3) := by decide +kernel
theorem dX12_take_217 : decode cX12_take 217 = .ok (.invokevirtual 241, 3) := by decide +kernel
theorem dX12_take_220 : decode cX12_take 220 = .ok (.ifCond .eq 125, 3) := by decide +kernel
theorem dX12_take_223 : decode cX12_take 223 = .ok (.aload_n 0, 1) := by decide +kernel
theorem dX12_take_224 : decode cX12_take 224 = .ok (.aload_n 0, 1) := by decide +kernel
theorem dX12_take_225 : decode cX12_take 225 = .ok (.getfield 235, 3) := by decide +kernel
theorem dX12_take_228 : decode cX12_take 228 = .ok (.sipush 999, 3) := by decide +kernel
theorem dX12_take_231 : decode cX12_take 231 = .ok (.if_icmp .le 10, 3) := by decide +kernel
theorem dX12_take_234 : decode cX12_take 234 = .ok (.aload_n 0, 1) := by decide +kernel
theorem dX12_take_235 : decode cX12_take 235 = .ok (.getfield 235, 3) := by decide +kernel
theorem dX12_take_238 : decode cX12_take 238 = .ok (.goto 23, 3) := by decide +kernel
theorem dX12_take_241 : decode cX12_take 241 = .ok (.bipush 10, 2) := by decide +kernel
theorem dX12_take_243 : decode cX12_take 243 = .ok (.aload_n 0, 1) := by decide +kernel
theorem dX12_take_244 : decode cX12_take 244 = .ok (.getfield 235, 3) := by decide +kernel
theorem dX12_take_247 : decode cX12_take 247 = .ok (.imul, 1) := by decide +kernel
theorem dX12_take_248 : decode cX12_take 248 = .ok (.aload_n 0, 1) := by decide +kernel
theorem dX12_take_249 : decode cX12_take 249 = .ok (.getfield 7, 3) := by decide +kernel
theorem dX12_take_252 : decode cX12_take 252 = .ok (.aload_n 0, 1) := by decide +kernel
theorem dX12_take_253 : decode cX12_take 253 = .ok (.getfield 222, 3) := by decide +kernel
theorem dX12_take_256 : decode cX12_take 256 = .ok (.iaload, 1) := by decide +kernel
theorem dX12_take_257 : decode cX12_take 257 = .ok (.iadd, 1) := by decide +kernel
theorem dX12_take_258 : decode cX12_take 258 = .ok (.bipush 48, 2) := by decide +kernel
theorem dX12_take_260 : decode cX12_take 260 = .ok (.isub, 1) := by decide +kernel
theorem dX12_take_261 : decode cX12_take 261 = .ok (.putfield 235, 3) := by decide +kernel
theorem dX12_take_264 : decode cX12_take 264 = .ok (.aload_n 0, 1) := by decide +kernel
theorem dX12_take_265 : decode cX12_take 265 = .ok (.dup, 1) := by decide +kernel
theorem dX12_take_266 : decode cX12_take 266 = .ok (.getfield 222, 3) := by decide +kernel
theorem dX12_take_269 : decode cX12_take 269 = .ok (.iconst 1, 1) := by decide +kernel
theorem dX12_take_270 : decode cX12_take 270 = .ok (.iadd, 1) := by decide +kernel
theorem dX12_take_271 : decode cX12_take 271 = .ok (.putfield 222, 3) := by decide +kernel
theorem dX12_take_274 : decode cX12_take 274 = .ok (.goto (-62), 3) := by decide +kernel
theorem dX12_take_277 : decode cX12_take 277 = .ok (.aload_n 0, 1) := by decide +kernel
theorem dX12_take_278 : decode cX12_take 278 = .ok (.aload_n 0, 1) := by decide +kernel
theorem dX12_take_279 : decode cX12_take 279 = .ok (.getfield 7, 3) := by decide +kernel
theorem dX12_take_282 : decode cX12_take 282 = .ok (.aload_n 0, 1) := by decide +kernel
theorem dX12_take_283 : decode cX12_take 283 = .ok (.getfield 222, 3) := by decide +kernel
theorem dX12_take_286 : decode cX12_take 286 = .ok (.iaload, 1) := by decide +kernel
theorem dX12_take_287 : decode cX12_take 287 = .ok (.putfield 235, 3) := by decide +kernel
theorem dX12_take_290 : decode cX12_take 290 = .ok (.aload_n 0, 1) := by decide +kernel
theorem dX12_take_291 : decode cX12_take 291 = .ok (.aload_n 0, 1) := by decide +kernel
theorem dX12_take_292 : decode cX12_take 292 = .ok (.getfield 235, 3) := by decide +kernel
theorem dX12_take_295 : decode cX12_take 295 = .ok (.bipush 59, 2) := by decide +kernel
theorem dX12_take_297 : decode cX12_take 297 = .ok (.if_icmp .eq 30, 3) := by decide +kernel
theorem dX12_take_300 : decode cX12_take 300 = .ok (.aload_n 0, 1) := by decide +kernel
theorem dX12_take_301 : decode cX12_take 301 = .ok (.getfield 235, 3) := by decide +kernel
theorem dX12_take_304 : decode cX12_take 304 = .ok (.bipush 40, 2) := by decide +kernel
theorem dX12_take_306 : decode cX12_take 306 = .ok (.if_icmp .eq 21, 3) := by decide +kernel
theorem dX12_take_309 : decode cX12_take 309 = .ok (.aload_n 0, 1) := by decide +kernel
theorem dX12_take_310 : decode cX12_take 310 = .ok (.getfield 235, 3) := by decide +kernel
theorem dX12_take_313 : decode cX12_take 313 = .ok (.bipush 41, 2) := by decide +kernel
theorem dX12_take_315 : decode cX12_take 315 = .ok (.if_icmp .eq 12, 3) := by decide +kernel
theorem dX12_take_318 : decode cX12_take 318 = .ok (.aload_n 0, 1) := by decide +kernel
theorem dX12_take_319 : decode cX12_take 319 = .ok (.getfield 235, 3) := by decide +kernel
theorem dX12_take_322 : decode cX12_take 322 = .ok (.bipush 45, 2) := by decide +kernel
theorem dX12_take_324 : decode cX12_take 324 = .ok (.if_icmp .ne 7, 3) := by decide +kernel
theorem dX12_take_327 : decode cX12_take 327 = .ok (.iconst 4, 1) := by decide +kernel
theorem dX12_take_328 : decode cX12_take 328 = .ok (.goto 4, 3) := by decide +kernel
theorem dX12_take_331 : decode cX12_take 331 = .ok (.iconst 5, 1) := by decide +kernel
theorem dX12_take_332 : decode cX12_take 332 = .ok (.putfield 225, 3) := by decide +kernel
theorem dX12_take_335 : decode cX12_take 335 = .ok (.aload_n 0, 1) := by decide +kernel
theorem dX12_take_336 : decode cX12_take 336 = .ok (.dup, 1) := by decide +kernel
theorem dX12_take_337 : decode cX12_take 337 = .ok (.getfield 222, 3) := by decide +kernel
theorem dX12_take_340 : decode cX12_take 340 = .ok (.iconst 1, 1) := by decide +kernel
theorem dX12_take_341 : decode cX12_take 341 = .ok (.iadd, 1) := by decide +kernel
theorem dX12_take_342 : decode cX12_take 342 = .ok (.putfield 222, 3) := by decide +kernel
theorem dX12_take_345 : decode cX12_take 345 = .ok (.return_, 1) := by decide +kernel
theorem dX12_packed_0 : decode cX12_packed 0 = .ok (.iconst 0, 1) := by decide +kernel
theorem dX12_packed_1 : decode cX12_packed 1 = .ok (.istore_n 3, 1) := by decide +kernel
theorem dX12_packed_2 : decode cX12_packed 2 = .ok (.iload_n 1, 1) := by decide +kernel
theorem dX12_packed_3 : decode cX12_packed 3 = .ok (.istore 4, 2) := by decide +kernel
theorem dX12_packed_5 : decode cX12_packed 5 = .ok (.iload 4, 2) := by decide +kernel
theorem dX12_packed_7 : decode cX12_packed 7 = .ok (.iload_n 1, 1) := by decide +kernel
theorem dX12_packed_8 : decode cX12_packed 8 = .ok (.bipush 6, 2) := by decide +kernel
theorem dX12_packed_10 : decode cX12_packed 10 = .ok (.iadd, 1) := by decide +kernel
theorem dX12_packed_11 : decode cX12_packed 11 = .ok (.if_icmp .ge 34, 3) := by decide +kernel
theorem dX12_packed_14 : decode cX12_packed 14 = .ok (.iload_n 3, 1) := by decide +kernel
theorem dX12_packed_15 : decode cX12_packed 15 = .ok (.iconst 5, 1) := by decide +kernel
theorem dX12_packed_16 : decode cX12_packed 16 = .ok (.ishl, 1) := by decide +kernel
theorem dX12_packed_17 : decode cX12_packed 17 = .ok (.iload 4, 2) := by decide +kernel
theorem dX12_packed_19 : decode cX12_packed 19 = .ok (.iload_n 2, 1) := by decide +kernel
theorem dX12_packed_20 : decode cX12_packed 20 = .ok (.if_icmp .ge 16, 3) := by decide +kernel
theorem dX12_packed_23 : decode cX12_packed 23 = .ok (.aload_n 0, 1) := by decide +kernel
theorem dX12_packed_24 : decode cX12_packed 24 = .ok (.getfield 7, 3) := by decide +kernel
theorem dX12_packed_27 : decode cX12_packed 27 = .ok (.iload 4, 2) := by decide +kernel
theorem dX12_packed_29 : decode cX12_packed 29 = .ok (.iaload, 1) := by decide +kernel
theorem dX12_packed_30 : decode cX12_packed 30 = .ok (.bipush 96, 2) := by decide +kernel
theorem dX12_packed_32 : decode cX12_packed 32 = .ok (.isub, 1) := by decide +kernel
theorem dX12_packed_33 : decode cX12_packed 33 = .ok (.goto 4, 3) := by decide +kernel
theorem dX12_packed_36 : decode cX12_packed 36 = .ok (.iconst 0, 1) := by decide +kernel
theorem dX12_packed_37 : decode cX12_packed 37 = .ok (.ior, 1) := by decide +kernel
theorem dX12_packed_38 : decode cX12_packed 38 = .ok (.istore_n 3, 1) := by decide +kernel
theorem dX12_packed_39 : decode cX12_packed 39 = .ok (.iinc 4 1, 3) := by decide +kernel
theorem dX12_packed_42 : decode cX12_packed 42 = .ok (.goto (-37), 3) := by decide +kernel
theorem dX12_packed_45 : decode cX12_packed 45 = .ok (.iload_n 3, 1) := by decide +kernel
theorem dX12_packed_46 : decode cX12_packed 46 = .ok (.ireturn, 1) := by decide +kernel
theorem dX12_isSign_0 : decode cX12_isSign 0 = .ok (.aload_n 0, 1) := by decide +kernel
theorem dX12_isSign_1 : decode cX12_isSign 1 = .ok (.getfield 225, 3) := by decide +kernel
theorem dX12_isSign_4 : decode cX12_isSign 4 = .ok (.iconst 4, 1) := by decide +kernel
theorem dX12_isSign_5 : decode cX12_isSign 5 = .ok (.if_icmp .ne 15, 3) := by decide +kernel
theorem dX12_isSign_8 : decode cX12_isSign 8 = .ok (.aload_n 0, 1) := by decide +kernel
theorem dX12_isSign_9 : decode cX12_isSign 9 = .ok (.getfield 235, 3) := by decide +kernel
theorem dX12_isSign_12 : decode cX12_isSign 12 = .ok (.iload_n 1, 1) := by decide +kernel
theorem dX12_isSign_13 : decode cX12_isSign 13 = .ok (.if_icmp .ne 7, 3) := by decide +kernel
theorem dX12_isSign_16 : decode cX12_isSign 16 = .ok (.iconst 1, 1) := by decide +kernel
theorem dX12_isSign_17 : decode cX12_isSign 17 = .ok (.goto 4, 3) := by decide +kernel
theorem dX12_isSign_20 : decode cX12_isSign 20 = .ok (.iconst 0, 1) := by decide +kernel
theorem dX12_isSign_21 : decode cX12_isSign 21 = .ok (.ireturn, 1) := by decide +kernel
theorem dX12_formOf_0 : decode cX12_formOf 0 = .ok (.iconst 0, 1) := by decide +kernel
theorem dX12_formOf_1 : decode cX12_formOf 1 = .ok (.istore_n 2, 1) := by decide +kernel
theorem dX12_formOf_2 : decode cX12_formOf 2 = .ok (.iload_n 2, 1) := by decide +kernel
theorem dX12_formOf_3 : decode cX12_formOf 3 = .ok (.aload_n 0, 1) := by decide +kernel
theorem dX12_formOf_4 : decode cX12_formOf 4 = .ok (.getfield 244, 3) := by decide +kernel
theorem dX12_formOf_7 : decode cX12_formOf 7 = .ok (.if_icmp .ge 21, 3) := by decide +kernel
theorem dX12_formOf_10 : decode cX12_formOf 10 = .ok (.aload_n 0, 1) := by decide +kernel
theorem dX12_formOf_11 : decode cX12_formOf 11 = .ok (.getfield 47, 3) := by decide +kernel
theorem dX12_formOf_14 : decode cX12_formOf 14 = .ok (.iload_n 2, 1) := by decide +kernel
theorem dX12_formOf_15 : decode cX12_formOf 15 = .ok (.iaload, 1) := by decide +kernel
theorem dX12_formOf_16 : decode cX12_formOf 16 = .ok (.iload_n 1, 1) := by decide +kernel
theorem dX12_formOf_17 : decode cX12_formOf 17 = .ok (.if_icmp .ne 5, 3) := by decide +kernel
theorem dX12_formOf_20 : decode cX12_formOf 20 = .ok (.iload_n 2, 1) := by decide +kernel
theorem dX12_formOf_21 : decode cX12_formOf 21 = .ok (.ireturn, 1) := by decide +kernel
theorem dX12_formOf_22 : decode cX12_formOf 22 = .ok (.iinc 2 1, 3) := by decide +kernel
theorem dX12_formOf_25 : decode cX12_formOf 25 = .ok (.goto (-23), 3) := by decide +kernel
theorem dX12_formOf_28 : decode cX12_formOf 28 = .ok (.iconst (-1), 1) := by decide +kernel
theorem dX12_formOf_29 : decode cX12_formOf 29 = .ok (.ireturn, 1) := by decide +kernel
theorem dX12_numberRead_0 : decode cX12_numberRead 0 = .ok (.aload_n 0, 1) := by decide +kernel
theorem dX12_numberRead_1 : decode cX12_numberRead 1 = .ok (.getfield 225, 3) := by decide +kernel
theorem dX12_numberRead_4 : decode cX12_numberRead 4 = .ok (.iconst 3, 1) := by decide +kernel
theorem dX12_numberRead_5 : decode cX12_numberRead 5 = .ok (.if_icmp .eq 9, 3) := by decide +kernel
theorem dX12_numberRead_8 : decode cX12_numberRead 8 = .ok (.aload_n 0, 1) := by decide +kernel
theorem dX12_numberRead_9 : decode cX12_numberRead 9 = .ok (.iconst 1, 1) := by decide +kernel
theorem dX12_numberRead_10 : decode cX12_numberRead 10 = .ok (.invokevirtual 247, 3) := by decide +kernel
theorem dX12_numberRead_13 : decode cX12_numberRead 13 = .ok (.ireturn, 1) := by decide +kernel
theorem dX12_numberRead_14 : decode cX12_numberRead 14 = .ok (.aload_n 0, 1) := by decide +kernel
theorem dX12_numberRead_15 : decode cX12_numberRead 15 = .ok (.getfield 235, 3) := by decide +kernel
theorem dX12_numberRead_18 : decode cX12_numberRead 18 = .ok (.iload_n 1, 1) := by decide +kernel
theorem dX12_numberRead_19 : decode cX12_numberRead 19 = .ok (.if_icmp .lt 11, 3) := by decide +kernel
theorem dX12_numberRead_22 : decode cX12_numberRead 22 = .ok (.aload_n 0, 1) := by decide +kernel
theorem dX12_numberRead_23 : decode cX12_numberRead 23 = .ok (.getfield 235, 3) := by decide +kernel
theorem dX12_numberRead_26 : decode cX12_numberRead 26 = .ok (.iload_n 2, 1) := by decide +kernel
theorem dX12_numberRead_27 : decode cX12_numberRead 27 = .ok (.if_icmp .le 11, 3) := by decide +kernel
theorem dX12_numberRead_30 : decode cX12_numberRead 30 = .ok (.aload_n 0, 1) := by decide +kernel
theorem dX12_numberRead_31 : decode cX12_numberRead 31 = .ok (.iconst 2, 1) := by decide +kernel
theorem dX12_numberRead_32 : decode cX12_numberRead 32 = .ok (.invokevirtual 247, 3) := by decide +kernel
theorem dX12_numberRead_35 : decode cX12_numberRead 35 = .ok (.ifCond .eq 7, 3) := by decide +kernel
theorem dX12_numberRead_38 : decode cX12_numberRead 38 = .ok (.iconst 1, 1) := by decide +kernel
theorem dX12_numberRead_39 : decode cX12_numberRead 39 = .ok (.goto 4, 3) := by decide +kernel
theorem dX12_numberRead_42 : decode cX12_numberRead 42 = .ok (.iconst 0, 1) := by decide +kernel
theorem dX12_numberRead_43 : decode cX12_numberRead 43 = .ok (.ireturn, 1) := by decide +kernel
theorem dX12_told_0 : decode cX12_told 0 = .ok (.aload_n 0, 1) := by decide +kernel
theorem dX12_told_1 : decode cX12_told 1 = .ok (.iload_n 3, 1) := by decide +kernel
theorem dX12_told_2 : decode cX12_told 2 = .ok (.iload 4, 2) := by decide +kernel
theorem dX12_told_4 : decode cX12_told 4 = .ok (.invokevirtual 250, 3) := by decide +kernel
theorem dX12_told_7 : decode cX12_told 7 = .ok (.ifCond .ne 5, 3) := by decide +kernel
theorem dX12_told_10 : decode cX12_told 10 = .ok (.iconst 0, 1) := by decide +kernel
theorem dX12_told_11 : decode cX12_told 11 = .ok (.ireturn, 1) := by decide +kernel
theorem dX12_told_12 : decode cX12_told 12 = .ok (.aload_n 0, 1) := by decide +kernel
theorem dX12_told_13 : decode cX12_told 13 = .ok (.getfield 38, 3) := by decide +kernel
theorem dX12_told_16 : decode cX12_told 16 = .ok (.iconst 5, 1) := by decide +kernel
theorem dX12_told_17 : decode cX12_told 17 = .ok (.iload_n 1, 1) := by decide +kernel
theorem dX12_told_18 : decode cX12_told 18 = .ok (.imul, 1) := by decide +kernel
theorem dX12_told_19 : decode cX12_told 19 = .ok (.iload_n 2, 1) := by decide +kernel
theorem dX12_told_20 : decode cX12_told 20 = .ok (.iadd, 1) := by decide +kernel
theorem dX12_told_21 : decode cX12_told 21 = .ok (.aload_n 0, 1) := by decide +kernel
theorem dX12_told_22 : decode cX12_told 22 = .ok (.getfield 235, 3) := by decide +kernel
theorem dX12_told_25 : decode cX12_told 25 = .ok (.iastore, 1) := by decide +kernel
theorem dX12_told_26 : decode cX12_told 26 = .ok (.aload_n 0, 1) := by decide +kernel
theorem dX12_told_27 : decode cX12_told 27 = .ok (.invokevirtual 253, 3) := by decide +kernel
theorem dX12_told_30 : decode cX12_told 30 = .ok (.iconst 1, 1) := by decide +kernel
theorem dX12_told_31 : decode cX12_told 31 = .ok (.ireturn, 1) := by decide +kernel
theorem dX12_signed_0 : decode cX12_signed 0 = .ok (.aload_n 0, 1) := by decide +kernel
theorem dX12_signed_1 : decode cX12_signed 1 = .ok (.bipush 45, 2) := by decide +kernel
theorem dX12_signed_3 : decode cX12_signed 3 = .ok (.invokevirtual 256, 3) := by decide +kernel
theorem dX12_signed_6 : decode cX12_signed 6 = .ok (.istore_n 3, 1) := by decide +kernel
theorem dX12_signed_7 : decode cX12_signed 7 = .ok (.iload_n 3, 1) := by decide +kernel
theorem dX12_signed_8 : decode cX12_signed 8 = .ok (.ifCond .eq 7, 3) := by decide +kernel
theorem dX12_signed_11 : decode cX12_signed 11 = .ok (.aload_n 0, 1) := by decide +kernel
theorem dX12_signed_12 : decode cX12_signed 12 = .ok (.invokevirtual 253, 3) := by decide +kernel
theorem dX12_signed_15 : decode cX12_signed 15 = .ok (.aload_n 0, 1) := by decide +kernel
theorem dX12_signed_16 : decode cX12_signed 16 = .ok (.iload_n 1, 1) := by decide +kernel
theorem dX12_signed_17 : decode cX12_signed 17 = .ok (.iload_n 2, 1) := by decide +kernel
theorem dX12_signed_18 : decode cX12_signed 18 = .ok (.iconst 0, 1) := by decide +kernel
theorem dX12_signed_19 : decode cX12_signed 19 = .ok (.sipush 999, 3) := by decide +kernel
theorem dX12_signed_22 : decode cX12_signed 22 = .ok (.invokevirtual 259, 3) := by decide +kernel
theorem dX12_signed_25 : decode cX12_signed 25 = .ok (.ifCond .ne 5, 3) := by decide +kernel
theorem dX12_signed_28 : decode cX12_signed 28 = .ok (.iconst 0, 1) := by decide +kernel
theorem dX12_signed_29 : decode cX12_signed 29 = .ok (.ireturn, 1) := by decide +kernel
theorem dX12_signed_30 : decode cX12_signed 30 = .ok (.iload_n 3, 1) := by decide +kernel
theorem dX12_signed_31 : decode cX12_signed 31 = .ok (.ifCond .eq 24, 3) := by decide +kernel
theorem dX12_signed_34 : decode cX12_signed 34 = .ok (.aload_n 0, 1) := by decide +kernel
theorem dX12_signed_35 : decode cX12_signed 35 = .ok (.getfield 38, 3) := by decide +kernel
theorem dX12_signed_38 : decode cX12_signed 38 = .ok (.iconst 5, 1) := by decide +kernel
theorem dX12_signed_39 : decode cX12_signed 39 = .ok (.iload_n 1, 1) := by decide +kernel
theorem dX12_signed_40 : decode cX12_signed 40 = .ok (.imul, 1) := by decide +kernel
theorem dX12_signed_41 : decode cX12_signed 41 = .ok (.iload_n 2, 1) := by decide +kernel
theorem dX12_signed_42 : decode cX12_signed 42 = .ok (.iadd, 1) := by decide +kernel
theorem dX12_signed_43 : decode cX12_signed 43 = .ok (.aload_n 0, 1) := by decide +kernel
theorem dX12_signed_44 : decode cX12_signed 44 = .ok (.getfield 38, 3) := by decide +kernel
theorem dX12_signed_47 : decode cX12_signed 47 = .ok (.iconst 5, 1) := by decide +kernel
theorem dX12_signed_48 : decode cX12_signed 48 = .ok (.iload_n 1, 1) := by decide +kernel
theorem dX12_signed_49 : decode cX12_signed 49 = .ok (.imul, 1) := by decide +kernel
theorem dX12_signed_50 : decode cX12_signed 50 = .ok (.iload_n 2, 1) := by decide +kernel
theorem dX12_signed_51 : decode cX12_signed 51 = .ok (.iadd, 1) := by decide +kernel
theorem dX12_signed_52 : decode cX12_signed 52 = .ok (.iaload, 1) := by decide +kernel
theorem dX12_signed_53 : decode cX12_signed 53 = .ok (.ineg, 1) := by decide +kernel
theorem dX12_signed_54 : decode cX12_signed 54 = .ok (.iastore, 1) := by decide +kernel
theorem dX12_signed_55 : decode cX12_signed 55 = .ok (.iconst 1, 1) := by decide +kernel
theorem dX12_signed_56 : decode cX12_signed 56 = .ok (.ireturn, 1) := by decide +kernel
theorem dX12_ended_0 : decode cX12_ended 0 = .ok (.aload_n 0, 1) := by decide +kernel
theorem dX12_ended_1 : decode cX12_ended 1 = .ok (.bipush 59, 2) := by decide +kernel
theorem dX12_ended_3 : decode cX12_ended 3 = .ok (.invokevirtual 256, 3) := by decide +kernel
theorem dX12_ended_6 : decode cX12_ended 6 = .ok (.ifCond .ne 9, 3) := by decide +kernel
theorem dX12_ended_9 : decode cX12_ended 9 = .ok (.aload_n 0, 1) := by decide +kernel
theorem dX12_ended_10 : decode cX12_ended 10 = .ok (.iconst 1, 1) := by decide +kernel
theorem dX12_ended_11 : decode cX12_ended 11 = .ok (.invokevirtual 247, 3) := by decide +kernel
theorem dX12_ended_14 : decode cX12_ended 14 = .ok (.ireturn, 1) := by decide +kernel
theorem dX12_ended_15 : decode cX12_ended 15 = .ok (.aload_n 0, 1) := by decide +kernel
theorem dX12_ended_16 : decode cX12_ended 16 = .ok (.invokevirtual 253, 3) := by decide +kernel
theorem dX12_ended_19 : decode cX12_ended 19 = .ok (.iconst 1, 1) := by decide +kernel
theorem dX12_ended_20 : decode cX12_ended 20 = .ok (.ireturn, 1) := by decide +kernel
theorem dX12_formRead_0 : decode cX12_formRead 0 = .ok (.aload_n 0, 1) := by decide +kernel
theorem dX12_formRead_1 : decode cX12_formRead 1 = .ok (.getfield 244, 3) := by decide +kernel
theorem dX12_formRead_4 : decode cX12_formRead 4 = .ok (.bipush 8, 2) := by decide +kernel
theorem dX12_formRead_6 : decode cX12_formRead 6 = .ok (.if_icmp .ne 9, 3) := by decide +kernel
theorem dX12_formRead_9 : decode cX12_formRead 9 = .ok (.aload_n 0, 1) := by decide +kernel
theorem dX12_formRead_10 : decode cX12_formRead 10 = .ok (.iconst 2, 1) := by decide +kernel
theorem dX12_formRead_11 : decode cX12_formRead 11 = .ok (.invokevirtual 247, 3) := by decide +kernel
theorem dX12_formRead_14 : decode cX12_formRead 14 = .ok (.ireturn, 1) := by decide +kernel
theorem dX12_formRead_15 : decode cX12_formRead 15 = .ok (.aload_n 0, 1) := by decide +kernel
theorem dX12_formRead_16 : decode cX12_formRead 16 = .ok (.invokevirtual 253, 3) := by decide +kernel
theorem dX12_formRead_19 : decode cX12_formRead 19 = .ok (.aload_n 0, 1) := by decide +kernel
theorem dX12_formRead_20 : decode cX12_formRead 20 = .ok (.getfield 225, 3) := by decide +kernel
theorem dX12_formRead_23 : decode cX12_formRead 23 = .ok (.iconst 2, 1) := by decide +kernel
theorem dX12_formRead_24 : decode cX12_formRead 24 = .ok (.if_icmp .eq 9, 3) := by decide +kernel
theorem dX12_formRead_27 : decode cX12_formRead 27 = .ok (.aload_n 0, 1) := by decide +kernel
theorem dX12_formRead_28 : decode cX12_formRead 28 = .ok (.iconst 1, 1) := by decide +kernel
theorem dX12_formRead_29 : decode cX12_formRead 29 = .ok (.invokevirtual 247, 3) := by decide +kernel
theorem dX12_formRead_32 : decode cX12_formRead 32 = .ok (.ireturn, 1) := by decide +kernel
theorem dX12_formRead_33 : decode cX12_formRead 33 = .ok (.aload_n 0, 1) := by decide +kernel
theorem dX12_formRead_34 : decode cX12_formRead 34 = .ok (.aload_n 0, 1) := by decide +kernel
theorem dX12_formRead_35 : decode cX12_formRead 35 = .ok (.getfield 235, 3) := by decide +kernel
theorem dX12_formRead_38 : decode cX12_formRead 38 = .ok (.invokevirtual 263, 3) := by decide +kernel
theorem dX12_formRead_41 : decode cX12_formRead 41 = .ok (.ifCond .lt 9, 3) := by decide +kernel
theorem dX12_formRead_44 : decode cX12_formRead 44 = .ok (.aload_n 0, 1) := by decide +kernel
theorem dX12_formRead_45 : decode cX12_formRead 45 = .ok (.iconst 3, 1) := by decide +kernel
theorem dX12_formRead_46 : decode cX12_formRead 46 = .ok (.invokevirtual 247, 3) := by decide +kernel
theorem dX12_formRead_49 : decode cX12_formRead 49 = .ok (.ireturn, 1) := by decide +kernel
theorem dX12_formRead_50 : decode cX12_formRead 50 = .ok (.aload_n 0, 1) := by decide +kernel
theorem dX12_formRead_51 : decode cX12_formRead 51 = .ok (.getfield 244, 3) := by decide +kernel
theorem dX12_formRead_54 : decode cX12_formRead 54 = .ok (.istore_n 1, 1) := by decide +kernel
theorem dX12_formRead_55 : decode cX12_formRead 55 = .ok (.aload_n 0, 1) := by decide +kernel
theorem dX12_formRead_56 : decode cX12_formRead 56 = .ok (.getfield 47, 3) := by decide +kernel
theorem dX12_formRead_59 : decode cX12_formRead 59 = .ok (.iload_n 1, 1) := by decide +kernel
theorem dX12_formRead_60 : decode cX12_formRead 60 = .ok (.aload_n 0, 1) := by decide +kernel
theorem dX12_formRead_61 : decode cX12_formRead 61 = .ok (.getfield 235, 3) := by decide +kernel
theorem dX12_formRead_64 : decode cX12_formRead 64 = .ok (.iastore, 1) := by decide +kernel
theorem dX12_formRead_65 : decode cX12_formRead 65 = .ok (.aload_n 0, 1) := by decide +kernel
theorem dX12_formRead_66 : decode cX12_formRead 66 = .ok (.getfield 50, 3) := by decide +kernel
theorem dX12_formRead_69 : decode cX12_formRead 69 = .ok (.iload_n 1, 1) := by decide +kernel
theorem dX12_formRead_70 : decode cX12_formRead 70 = .ok (.iconst 0, 1) := by decide +kernel
theorem dX12_formRead_71 : decode cX12_formRead 71 = .ok (.iastore, 1) := by decide +kernel
theorem dX12_formRead_72 : decode cX12_formRead 72 = .ok (.aload_n 0, 1) := by decide +kernel
theorem dX12_formRead_73 : decode cX12_formRead 73 = .ok (.invokevirtual 253, 3) := by decide +kernel
theorem dX12_formRead_76 : decode cX12_formRead 76 = .ok (.aload_n 0, 1) := by decide +kernel
theorem dX12_formRead_77 : decode cX12_formRead 77 = .ok (.getfield 225, 3) := by decide +kernel
theorem dX12_formRead_80 : decode cX12_formRead 80 = .ok (.iconst 3, 1) := by decide +kernel
theorem dX12_formRead_81 : decode cX12_formRead 81 = .ok (.if_icmp .ne 20, 3) := by decide +kernel
theorem dX12_formRead_84 : decode cX12_formRead 84 = .ok (.aload_n 0, 1) := by decide +kernel
theorem dX12_formRead_85 : decode cX12_formRead 85 = .ok (.getfield 50, 3) := by decide +kernel
theorem dX12_formRead_88 : decode cX12_formRead 88 = .ok (.iload_n 1, 1) := by decide +kernel
theorem dX12_formRead_89 : decode cX12_formRead 89 = .ok (.iaload, 1) := by decide +kernel
theorem dX12_formRead_90 : decode cX12_formRead 90 = .ok (.bipush 12, 2) := by decide +kernel
theorem dX12_formRead_92 : decode cX12_formRead 92 = .ok (.if_icmp .ne 9, 3) := by decide +kernel
theorem dX12_formRead_95 : decode cX12_formRead 95 = .ok (.aload_n 0, 1) := by decide +kernel
theorem dX12_formRead_96 : decode cX12_formRead 96 = .ok (.iconst 2, 1) := by decide +kernel
theorem dX12_formRead_97 : decode cX12_formRead 97 = .ok (.invokevirtual 247, 3) := by decide +kernel
theorem dX12_formRead_100 : decode cX12_formRead 100 = .ok (.ireturn, 1) := by decide +kernel
theorem dX12_formRead_101 : decode cX12_formRead 101 = .ok (.aload_n 0, 1) := by decide +kernel
theorem dX12_formRead_102 : decode cX12_formRead 102 = .ok (.iconst 0, 1) := by decide +kernel
theorem dX12_formRead_103 : decode cX12_formRead 103 = .ok (.bipush 99, 2) := by decide +kernel
theorem dX12_formRead_105 : decode cX12_formRead 105 = .ok (.invokevirtual 250, 3) := by decide +kernel
theorem dX12_formRead_108 : decode cX12_formRead 108 = .ok (.ifCond .ne 5, 3) := by decide +kernel
theorem dX12_formRead_111 : decode cX12_formRead 111 = .ok (.iconst 0, 1) := by decide +kernel
theorem dX12_formRead_112 : decode cX12_formRead 112 = .ok (.ireturn, 1) := by decide +kernel
theorem dX12_formRead_113 : decode cX12_formRead 113 = .ok (.aload_n 0, 1) := by decide +kernel
theorem dX12_formRead_114 : decode cX12_formRead 114 = .ok (.getfield 53, 3) := by decide +kernel
theorem dX12_formRead_117 : decode cX12_formRead 117 = .ok (.bipush 12, 2) := by decide +kernel
theorem dX12_formRead_119 : decode cX12_formRead 119 = .ok (.iload_n 1, 1) := by decide +kernel
theorem dX12_formRead_120 : decode cX12_formRead 120 = .ok (.imul, 1) := by decide +kernel
theorem dX12_formRead_121 : decode cX12_formRead 121 = .ok (.aload_n 0, 1) := by decide +kernel
theorem dX12_formRead_122 : decode cX12_formRead 122 = .ok (.getfield 50, 3) := by decide +kernel
theorem dX12_formRead_125 : decode cX12_formRead 125 = .ok (.iload_n 1, 1) := by decide +kernel
theorem dX12_formRead_126 : decode cX12_formRead 126 = .ok (.iaload, 1) := by decide +kernel
theorem dX12_formRead_127 : decode cX12_formRead 127 = .ok (.iadd, 1) := by decide +kernel
theorem dX12_formRead_128 : decode cX12_formRead 128 = .ok (.aload_n 0, 1) := by decide +kernel
theorem dX12_formRead_129 : decode cX12_formRead 129 = .ok (.getfield 235, 3) := by decide +kernel
theorem dX12_formRead_132 : decode cX12_formRead 132 = .ok (.iastore, 1) := by decide +kernel
theorem dX12_formRead_133 : decode cX12_formRead 133 = .ok (.aload_n 0, 1) := by decide +kernel
theorem dX12_formRead_134 : decode cX12_formRead 134 = .ok (.invokevirtual 253, 3) := by decide +kernel
theorem dX12_formRead_137 : decode cX12_formRead 137 = .ok (.aload_n 0, 1) := by decide +kernel
theorem dX12_formRead_138 : decode cX12_formRead 138 = .ok (.iconst 0, 1) := by decide +kernel
theorem dX12_formRead_139 : decode cX12_formRead 139 = .ok (.bipush 99, 2) := by decide +kernel
theorem dX12_formRead_141 : decode cX12_formRead 141 = .ok (.invokevirtual 250, 3) := by decide +kernel
theorem dX12_formRead_144 : decode cX12_formRead 144 = .ok (.ifCond .ne 5, 3) := by decide +kernel
theorem dX12_formRead_147 : decode cX12_formRead 147 = .ok (.iconst 0, 1) := by decide +kernel
theorem dX12_formRead_148 : decode cX12_formRead 148 = .ok (.ireturn, 1) := by decide +kernel
theorem dX12_formRead_149 : decode cX12_formRead 149 = .ok (.aload_n 0, 1) := by decide +kernel
theorem dX12_formRead_150 : decode cX12_formRead 150 = .ok (.getfield 56, 3) := by decide +kernel
theorem dX12_formRead_153 : decode cX12_formRead 153 = .ok (.bipush 12, 2) := by decide +kernel
theorem dX12_formRead_155 : decode cX12_formRead 155 = .ok (.iload_n 1, 1) := by decide +kernel
theorem dX12_formRead_156 : decode cX12_formRead 156 = .ok (.imul, 1) := by decide +kernel
theorem dX12_formRead_157 : decode cX12_formRead 157 = .ok (.aload_n 0, 1) := by decide +kernel
theorem dX12_formRead_158 : decode cX12_formRead 158 = .ok (.getfield 50, 3) := by decide +kernel
theorem dX12_formRead_161 : decode cX12_formRead 161 = .ok (.iload_n 1, 1) := by decide +kernel
theorem dX12_formRead_162 : decode cX12_formRead 162 = .ok (.iaload, 1) := by decide +kernel
theorem dX12_formRead_163 : decode cX12_formRead 163 = .ok (.iadd, 1) := by decide +kernel
theorem dX12_formRead_164 : decode cX12_formRead 164 = .ok (.aload_n 0, 1) := by decide +kernel
theorem dX12_formRead_165 : decode cX12_formRead 165 = .ok (.getfield 235, 3) := by decide +kernel
theorem dX12_formRead_168 : decode cX12_formRead 168 = .ok (.iastore, 1) := by decide +kernel
theorem dX12_formRead_169 : decode cX12_formRead 169 = .ok (.aload_n 0, 1) := by decide +kernel
theorem dX12_formRead_170 : decode cX12_formRead 170 = .ok (.getfield 50, 3) := by decide +kernel
theorem dX12_formRead_173 : decode cX12_formRead 173 = .ok (.iload_n 1, 1) := by decide +kernel
theorem dX12_formRead_174 : decode cX12_formRead 174 = .ok (.dup2, 1) := by decide +kernel
theorem dX12_formRead_175 : decode cX12_formRead 175 = .ok (.iaload, 1) := by decide +kernel
theorem dX12_formRead_176 : decode cX12_formRead 176 = .ok (.iconst 1, 1) := by decide +kernel
theorem dX12_formRead_177 : decode cX12_formRead 177 = .ok (.iadd, 1) := by decide +kernel
theorem dX12_formRead_178 : decode cX12_formRead 178 = .ok (.iastore, 1) := by decide +kernel
theorem dX12_formRead_179 : decode cX12_formRead 179 = .ok (.aload_n 0, 1) := by decide +kernel
theorem dX12_formRead_180 : decode cX12_formRead 180 = .ok (.invokevirtual 253, 3) := by decide +kernel
theorem dX12_formRead_183 : decode cX12_formRead 183 = .ok (.aload_n 0, 1) := by decide +kernel
theorem dX12_formRead_184 : decode cX12_formRead 184 = .ok (.bipush 59, 2) := by decide +kernel
theorem dX12_formRead_186 : decode cX12_formRead 186 = .ok (.invokevirtual 256, 3) := by decide +kernel
theorem dX12_formRead_189 : decode cX12_formRead 189 = .ok (.ifCond .eq (-113), 3) := by decide +kernel
theorem dX12_formRead_192 : decode cX12_formRead 192 = .ok (.aload_n 0, 1) := by decide +kernel
theorem dX12_formRead_193 : decode cX12_formRead 193 = .ok (.dup, 1) := by decide +kernel
theorem dX12_formRead_194 : decode cX12_formRead 194 = .ok (.getfield 244, 3) := by decide +kernel
theorem dX12_formRead_197 : decode cX12_formRead 197 = .ok (.iconst 1, 1) := by decide +kernel
theorem dX12_formRead_198 : decode cX12_formRead 198 = .ok (.iadd, 1) := by decide +kernel
theorem dX12_formRead_199 : decode cX12_formRead 199 = .ok (.putfield 244, 3) := by decide +kernel
theorem dX12_formRead_202 : decode cX12_formRead 202 = .ok (.aload_n 0, 1) := by decide +kernel
theorem dX12_formRead_203 : decode cX12_formRead 203 = .ok (.invokevirtual 253, 3) := by decide +kernel
theorem dX12_formRead_206 : decode cX12_formRead 206 = .ok (.iconst 1, 1) := by decide +kernel
theorem dX12_formRead_207 : decode cX12_formRead 207 = .ok (.ireturn, 1) := by decide +kernel
theorem dX12_putRead_0 : decode cX12_putRead 0 = .ok (.aload_n 0, 1) := by decide +kernel
theorem dX12_putRead_1 : decode cX12_putRead 1 = .ok (.invokevirtual 253, 3) := by decide +kernel
theorem dX12_putRead_4 : decode cX12_putRead 4 = .ok (.aload_n 0, 1) := by decide +kernel
theorem dX12_putRead_5 : decode cX12_putRead 5 = .ok (.getfield 225, 3) := by decide +kernel
theorem dX12_putRead_8 : decode cX12_putRead 8 = .ok (.iconst 2, 1) := by decide +kernel
theorem dX12_putRead_9 : decode cX12_putRead 9 = .ok (.if_icmp .eq 9, 3) := by decide +kernel
theorem dX12_putRead_12 : decode cX12_putRead 12 = .ok (.aload_n 0, 1) := by decide +kernel
theorem dX12_putRead_13 : decode cX12_putRead 13 = .ok (.iconst 1, 1) := by decide +kernel
theorem dX12_putRead_14 : decode cX12_putRead 14 = .ok (.invokevirtual 247, 3) := by decide +kernel
theorem dX12_putRead_17 : decode cX12_putRead 17 = .ok (.ireturn, 1) := by decide +kernel
theorem dX12_putRead_18 : decode cX12_putRead 18 = .ok (.aload_n 0, 1) := by decide +kernel
theorem dX12_putRead_19 : decode cX12_putRead 19 = .ok (.aload_n 0, 1) := by decide +kernel
theorem dX12_putRead_20 : decode cX12_putRead 20 = .ok (.getfield 235, 3) := by decide +kernel
theorem dX12_putRead_23 : decode cX12_putRead 23 = .ok (.invokevirtual 263, 3) := by decide +kernel
theorem dX12_putRead_26 : decode cX12_putRead 26 = .ok (.istore_n 2, 1) := by decide +kernel
theorem dX12_putRead_27 : decode cX12_putRead 27 = .ok (.iload_n 2, 1) := by decide +kernel
theorem dX12_putRead_28 : decode cX12_putRead 28 = .ok (.ifCond .ge 9, 3) := by decide +kernel
theorem dX12_putRead_31 : decode cX12_putRead 31 = .ok (.aload_n 0, 1) := by decide +kernel
theorem dX12_putRead_32 : decode cX12_putRead 32 = .ok (.iconst 4, 1) := by decide +kernel
theorem dX12_putRead_33 : decode cX12_putRead 33 = .ok (.invokevirtual 247, 3) := by decide +kernel
theorem dX12_putRead_36 : decode cX12_putRead 36 = .ok (.ireturn, 1) := by decide +kernel
theorem dX12_putRead_37 : decode cX12_putRead 37 = .ok (.aload_n 0, 1) := by decide +kernel
theorem dX12_putRead_38 : decode cX12_putRead 38 = .ok (.getfield 38, 3) := by decide +kernel
theorem dX12_putRead_41 : decode cX12_putRead 41 = .ok (.iconst 5, 1) := by decide +kernel
theorem dX12_putRead_42 : decode cX12_putRead 42 = .ok (.iload_n 1, 1) := by decide +kernel
theorem dX12_putRead_43 : decode cX12_putRead 43 = .ok (.imul, 1) := by decide +kernel
theorem dX12_putRead_44 : decode cX12_putRead 44 = .ok (.iload_n 2, 1) := by decide +kernel
theorem dX12_putRead_45 : decode cX12_putRead 45 = .ok (.iastore, 1) := by decide +kernel
theorem dX12_putRead_46 : decode cX12_putRead 46 = .ok (.aload_n 0, 1) := by decide +kernel
theorem dX12_putRead_47 : decode cX12_putRead 47 = .ok (.invokevirtual 253, 3) := by decide +kernel
theorem dX12_putRead_50 : decode cX12_putRead 50 = .ok (.aload_n 0, 1) := by decide +kernel
theorem dX12_putRead_51 : decode cX12_putRead 51 = .ok (.iload_n 1, 1) := by decide +kernel
theorem dX12_putRead_52 : decode cX12_putRead 52 = .ok (.iconst 1, 1) := by decide +kernel
theorem dX12_putRead_53 : decode cX12_putRead 53 = .ok (.iconst 0, 1) := by decide +kernel
theorem dX12_putRead_54 : decode cX12_putRead 54 = .ok (.sipush 999, 3) := by decide +kernel
theorem dX12_putRead_57 : decode cX12_putRead 57 = .ok (.invokevirtual 259, 3) := by decide +kernel
theorem dX12_putRead_60 : decode cX12_putRead 60 = .ok (.ifCond .eq 39, 3) := by decide +kernel
theorem dX12_putRead_63 : decode cX12_putRead 63 = .ok (.aload_n 0, 1) := by decide +kernel
theorem dX12_putRead_64 : decode cX12_putRead 64 = .ok (.iload_n 1, 1) := by decide +kernel
theorem dX12_putRead_65 : decode cX12_putRead 65 = .ok (.iconst 2, 1) := by decide +kernel
theorem dX12_putRead_66 : decode cX12_putRead 66 = .ok (.iconst 0, 1) := by decide +kernel
theorem dX12_putRead_67 : decode cX12_putRead 67 = .ok (.sipush 999, 3) := by decide +kernel
theorem dX12_putRead_70 : decode cX12_putRead 70 = .ok (.invokevirtual 259, 3) := by decide +kernel
theorem dX12_putRead_73 : decode cX12_putRead 73 = .ok (.ifCond .eq 26, 3) := by decide +kernel
theorem dX12_putRead_76 : decode cX12_putRead 76 = .ok (.aload_n 0, 1) := by decide +kernel
theorem dX12_putRead_77 : decode cX12_putRead 77 = .ok (.iload_n 1, 1) := by decide +kernel
theorem dX12_putRead_78 : decode cX12_putRead 78 = .ok (.iconst 3, 1) := by decide +kernel
theorem dX12_putRead_79 : decode cX12_putRead 79 = .ok (.iconst 0, 1) := by decide +kernel
theorem dX12_putRead_80 : decode cX12_putRead 80 = .ok (.bipush 99, 2) := by decide +kernel
theorem dX12_putRead_82 : decode cX12_putRead 82 = .ok (.invokevirtual 259, 3) := by decide +kernel
theorem dX12_putRead_85 : decode cX12_putRead 85 = .ok (.ifCond .eq 14, 3) := by decide +kernel
theorem dX12_putRead_88 : decode cX12_putRead 88 = .ok (.aload_n 0, 1) := by decide +kernel
theorem dX12_putRead_89 : decode cX12_putRead 89 = .ok (.invokevirtual 266, 3) := by decide +kernel
theorem dX12_putRead_92 : decode cX12_putRead 92 = .ok (.ifCond .eq 7, 3) := by decide +kernel
theorem dX12_putRead_95 : decode cX12_putRead 95 = .ok (.iconst 1, 1) := by decide +kernel
theorem dX12_putRead_96 : decode cX12_putRead 96 = .ok (.goto 4, 3) := by decide +kernel
theorem dX12_putRead_99 : decode cX12_putRead 99 = .ok (.iconst 0, 1) := by decide +kernel
theorem dX12_putRead_100 : decode cX12_putRead 100 = .ok (.ireturn, 1) := by decide +kernel
theorem dX12_clipRead_0 : decode cX12_clipRead 0 = .ok (.aload_n 0, 1) := by decide +kernel
theorem dX12_clipRead_1 : decode cX12_clipRead 1 = .ok (.invokevirtual 253, 3) := by decide +kernel
theorem dX12_clipRead_4 : decode cX12_clipRead 4 = .ok (.aload_n 0, 1) := by decide +kernel
theorem dX12_clipRead_5 : decode cX12_clipRead 5 = .ok (.iload_n 1, 1) := by decide +kernel
theorem dX12_clipRead_6 : decode cX12_clipRead 6 = .ok (.iconst 0, 1) := by decide +kernel
theorem dX12_clipRead_7 : decode cX12_clipRead 7 = .ok (.iconst 0, 1) := by decide +kernel
theorem dX12_clipRead_8 : decode cX12_clipRead 8 = .ok (.sipush 999, 3) := by decide +kernel
theorem dX12_clipRead_11 : decode cX12_clipRead 11 = .ok (.invokevirtual 259, 3) := by decide +kernel
theorem dX12_clipRead_14 : decode cX12_clipRead 14 = .ok (.ifCond .eq 16, 3) := by decide +kernel
theorem dX12_clipRead_17 : decode cX12_clipRead 17 = .ok (.aload_n 0, 1) := by decide +kernel
theorem dX12_clipRead_18 : decode cX12_clipRead 18 = .ok (.iload_n 1, 1) := by decide +kernel
theorem dX12_clipRead_19 : decode cX12_clipRead 19 = .ok (.iconst 1, 1) := by decide +kernel
theorem dX12_clipRead_20 : decode cX12_clipRead 20 = .ok (.iconst 0, 1) := by decide +kernel
theorem dX12_clipRead_21 : decode cX12_clipRead 21 = .ok (.sipush 999, 3) := by decide +kernel
theorem dX12_clipRead_24 : decode cX12_clipRead 24 = .ok (.invokevirtual 259, 3) := by decide +kernel
theorem dX12_clipRead_27 : decode cX12_clipRead 27 = .ok (.ifCond .ne 5, 3) := by decide +kernel
theorem dX12_clipRead_30 : decode cX12_clipRead 30 = .ok (.iconst 0, 1) := by decide +kernel
theorem dX12_clipRead_31 : decode cX12_clipRead 31 = .ok (.ireturn, 1) := by decide +kernel
theorem dX12_clipRead_32 : decode cX12_clipRead 32 = .ok (.aload_n 0, 1) := by decide +kernel
theorem dX12_clipRead_33 : decode cX12_clipRead 33 = .ok (.iconst 0, 1) := by decide +kernel
theorem dX12_clipRead_34 : decode cX12_clipRead 34 = .ok (.sipush 999, 3) := by decide +kernel
theorem dX12_clipRead_37 : decode cX12_clipRead 37 = .ok (.invokevirtual 250, 3) := by decide +kernel
theorem dX12_clipRead_40 : decode cX12_clipRead 40 = .ok (.ifCond .ne 5, 3) := by decide +kernel
theorem dX12_clipRead_43 : decode cX12_clipRead 43 = .ok (.iconst 0, 1) := by decide +kernel
theorem dX12_clipRead_44 : decode cX12_clipRead 44 = .ok (.ireturn, 1) := by decide +kernel
theorem dX12_clipRead_45 : decode cX12_clipRead 45 = .ok (.aload_n 0, 1) := by decide +kernel
theorem dX12_clipRead_46 : decode cX12_clipRead 46 = .ok (.getfield 235, 3) := by decide +kernel
theorem dX12_clipRead_49 : decode cX12_clipRead 49 = .ok (.aload_n 0, 1) := by decide +kernel
theorem dX12_clipRead_50 : decode cX12_clipRead 50 = .ok (.getfield 38, 3) := by decide +kernel
theorem dX12_clipRead_53 : decode cX12_clipRead 53 = .ok (.iconst 5, 1) := by decide +kernel
theorem dX12_clipRead_54 : decode cX12_clipRead 54 = .ok (.iload_n 1, 1) := by decide +kernel
theorem dX12_clipRead_55 : decode cX12_clipRead 55 = .ok (.imul, 1) := by decide +kernel
theorem dX12_clipRead_56 : decode cX12_clipRead 56 = .ok (.iaload, 1) := by decide +kernel
theorem dX12_clipRead_57 : decode cX12_clipRead 57 = .ok (.if_icmp .gt 9, 3) := by decide +kernel
theorem dX12_clipRead_60 : decode cX12_clipRead 60 = .ok (.aload_n 0, 1) := by decide +kernel
theorem dX12_clipRead_61 : decode cX12_clipRead 61 = .ok (.iconst 5, 1) := by decide +kernel
theorem dX12_clipRead_62 : decode cX12_clipRead 62 = .ok (.invokevirtual 247, 3) := by decide +kernel
theorem dX12_clipRead_65 : decode cX12_clipRead 65 = .ok (.ireturn, 1) := by decide +kernel
theorem dX12_clipRead_66 : decode cX12_clipRead 66 = .ok (.aload_n 0, 1) := by decide +kernel
theorem dX12_clipRead_67 : decode cX12_clipRead 67 = .ok (.iload_n 1, 1) := by decide +kernel
theorem dX12_clipRead_68 : decode cX12_clipRead 68 = .ok (.iconst 2, 1) := by decide +kernel
theorem dX12_clipRead_69 : decode cX12_clipRead 69 = .ok (.iconst 0, 1) := by decide +kernel
theorem dX12_clipRead_70 : decode cX12_clipRead 70 = .ok (.sipush 999, 3) := by decide +kernel
theorem dX12_clipRead_73 : decode cX12_clipRead 73 = .ok (.invokevirtual 259, 3) := by decide +kernel
theorem dX12_clipRead_76 : decode cX12_clipRead 76 = .ok (.ifCond .ne 5, 3) := by decide +kernel
theorem dX12_clipRead_79 : decode cX12_clipRead 79 = .ok (.iconst 0, 1) := by decide +kernel
theorem dX12_clipRead_80 : decode cX12_clipRead 80 = .ok (.ireturn, 1) := by decide +kernel
theorem dX12_clipRead_81 : decode cX12_clipRead 81 = .ok (.aload_n 0, 1) := by decide +kernel
theorem dX12_clipRead_82 : decode cX12_clipRead 82 = .ok (.iconst 0, 1) := by decide +kernel
theorem dX12_clipRead_83 : decode cX12_clipRead 83 = .ok (.sipush 999, 3) := by decide +kernel
theorem dX12_clipRead_86 : decode cX12_clipRead 86 = .ok (.invokevirtual 250, 3) := by decide +kernel
theorem dX12_clipRead_89 : decode cX12_clipRead 89 = .ok (.ifCond .ne 5, 3) := by decide +kernel
theorem dX12_clipRead_92 : decode cX12_clipRead 92 = .ok (.iconst 0, 1) := by decide +kernel
theorem dX12_clipRead_93 : decode cX12_clipRead 93 = .ok (.ireturn, 1) := by decide +kernel
theorem dX12_clipRead_94 : decode cX12_clipRead 94 = .ok (.aload_n 0, 1) := by decide +kernel
theorem dX12_clipRead_95 : decode cX12_clipRead 95 = .ok (.getfield 235, 3) := by decide +kernel
theorem dX12_clipRead_98 : decode cX12_clipRead 98 = .ok (.aload_n 0, 1) := by decide +kernel
theorem dX12_clipRead_99 : decode cX12_clipRead 99 = .ok (.getfield 38, 3) := by decide +kernel
theorem dX12_clipRead_102 : decode cX12_clipRead 102 = .ok (.iconst 5, 1) := by decide +kernel
theorem dX12_clipRead_103 : decode cX12_clipRead 103 = .ok (.iload_n 1, 1) := by decide +kernel
theorem dX12_clipRead_104 : decode cX12_clipRead 104 = .ok (.imul, 1) := by decide +kernel
theorem dX12_clipRead_105 : decode cX12_clipRead 105 = .ok (.iconst 1, 1) := by decide +kernel
theorem dX12_clipRead_106 : decode cX12_clipRead 106 = .ok (.iadd, 1) := by decide +kernel
theorem dX12_clipRead_107 : decode cX12_clipRead 107 = .ok (.iaload, 1) := by decide +kernel
theorem dX12_clipRead_108 : decode cX12_clipRead 108 = .ok (.if_icmp .gt 9, 3) := by decide +kernel
theorem dX12_clipRead_111 : decode cX12_clipRead 111 = .ok (.aload_n 0, 1) := by decide +kernel
theorem dX12_clipRead_112 : decode cX12_clipRead 112 = .ok (.iconst 5, 1) := by decide +kernel
theorem dX12_clipRead_113 : decode cX12_clipRead 113 = .ok (.invokevirtual 247, 3) := by decide +kernel
theorem dX12_clipRead_116 : decode cX12_clipRead 116 = .ok (.ireturn, 1) := by decide +kernel
theorem dX12_clipRead_117 : decode cX12_clipRead 117 = .ok (.aload_n 0, 1) := by decide +kernel
theorem dX12_clipRead_118 : decode cX12_clipRead 118 = .ok (.iload_n 1, 1) := by decide +kernel
theorem dX12_clipRead_119 : decode cX12_clipRead 119 = .ok (.iconst 3, 1) := by decide +kernel
theorem dX12_clipRead_120 : decode cX12_clipRead 120 = .ok (.iconst 0, 1) := by decide +kernel
theorem dX12_clipRead_121 : decode cX12_clipRead 121 = .ok (.sipush 999, 3) := by decide +kernel
theorem dX12_clipRead_124 : decode cX12_clipRead 124 = .ok (.invokevirtual 259, 3) := by decide +kernel
theorem dX12_clipRead_127 : decode cX12_clipRead 127 = .ok (.ifCond .eq 14, 3) := by decide +kernel
theorem dX12_clipRead_130 : decode cX12_clipRead 130 = .ok (.aload_n 0, 1) := by decide +kernel
theorem dX12_clipRead_131 : decode cX12_clipRead 131 = .ok (.invokevirtual 266, 3) := by decide +kernel
theorem dX12_clipRead_134 : decode cX12_clipRead 134 = .ok (.ifCond .eq 7, 3) := by decide +kernel
theorem dX12_clipRead_137 : decode cX12_clipRead 137 = .ok (.iconst 1, 1) := by decide +kernel
theorem dX12_clipRead_138 : decode cX12_clipRead 138 = .ok (.goto 4, 3) := by decide +kernel
theorem dX12_clipRead_141 : decode cX12_clipRead 141 = .ok (.iconst 0, 1) := by decide +kernel
theorem dX12_clipRead_142 : decode cX12_clipRead 142 = .ok (.ireturn, 1) := by decide +kernel
theorem dX12_againRead_0 : decode cX12_againRead 0 = .ok (.aload_n 0, 1) := by decide +kernel
theorem dX12_againRead_1 : decode cX12_againRead 1 = .ok (.invokevirtual 253, 3) := by decide +kernel
theorem dX12_againRead_4 : decode cX12_againRead 4 = .ok (.aload_n 0, 1) := by decide +kernel
theorem dX12_againRead_5 : decode cX12_againRead 5 = .ok (.iload_n 1, 1) := by decide +kernel
theorem dX12_againRead_6 : decode cX12_againRead 6 = .ok (.iconst 0, 1) := by decide +kernel
theorem dX12_againRead_7 : decode cX12_againRead 7 = .ok (.iconst 0, 1) := by decide +kernel
theorem dX12_againRead_8 : decode cX12_againRead 8 = .ok (.bipush 99, 2) := by decide +kernel
theorem dX12_againRead_10 : decode cX12_againRead 10 = .ok (.invokevirtual 259, 3) := by decide +kernel
theorem dX12_againRead_13 : decode cX12_againRead 13 = .ok (.ifCond .eq 21, 3) := by decide +kernel
theorem dX12_againRead_16 : decode cX12_againRead 16 = .ok (.aload_n 0, 1) := by decide +kernel
theorem dX12_againRead_17 : decode cX12_againRead 17 = .ok (.iload_n 1, 1) := by decide +kernel
theorem dX12_againRead_18 : decode cX12_againRead 18 = .ok (.iconst 1, 1) := by decide +kernel
theorem dX12_againRead_19 : decode cX12_againRead 19 = .ok (.invokevirtual 270, 3) := by decide +kernel
theorem dX12_againRead_22 : decode cX12_againRead 22 = .ok (.ifCond .eq 12, 3) := by decide +kernel
theorem dX12_againRead_25 : decode cX12_againRead 25 = .ok (.aload_n 0, 1) := by decide +kernel
theorem dX12_againRead_26 : decode cX12_againRead 26 = .ok (.iload_n 1, 1) := by decide +kernel
theorem dX12_againRead_27 : decode cX12_againRead 27 = .ok (.iconst 2, 1) := by decide +kernel
theorem dX12_againRead_28 : decode cX12_againRead 28 = .ok (.invokevirtual 270, 3) := by decide +kernel
theorem dX12_againRead_31 : decode cX12_againRead 31 = .ok (.ifCond .ne 5, 3) := by decide +kernel
theorem dX12_againRead_34 : decode cX12_againRead 34 = .ok (.iconst 0, 1) := by decide +kernel
theorem dX12_againRead_35 : decode cX12_againRead 35 = .ok (.ireturn, 1) := by decide +kernel
theorem dX12_againRead_36 : decode cX12_againRead 36 = .ok (.aload_n 0, 1) := by decide +kernel
theorem dX12_againRead_37 : decode cX12_againRead 37 = .ok (.bipush 40, 2) := by decide +kernel
theorem dX12_againRead_39 : decode cX12_againRead 39 = .ok (.invokevirtual 256, 3) := by decide +kernel
theorem dX12_againRead_42 : decode cX12_againRead 42 = .ok (.ifCond .ne 9, 3) := by decide +kernel
theorem dX12_againRead_45 : decode cX12_againRead 45 = .ok (.aload_n 0, 1) := by decide +kernel
theorem dX12_againRead_46 : decode cX12_againRead 46 = .ok (.iconst 1, 1) := by decide +kernel
theorem dX12_againRead_47 : decode cX12_againRead 47 = .ok (.invokevirtual 247, 3) := by decide +kernel
theorem dX12_againRead_50 : decode cX12_againRead 50 = .ok (.ireturn, 1) := by decide +kernel
theorem dX12_againRead_51 : decode cX12_againRead 51 = .ok (.aload_n 0, 1) := by decide +kernel
theorem dX12_againRead_52 : decode cX12_againRead 52 = .ok (.getfield 273, 3) := by decide +kernel
theorem dX12_againRead_55 : decode cX12_againRead 55 = .ok (.iconst 5, 1) := by decide +kernel
theorem dX12_againRead_56 : decode cX12_againRead 56 = .ok (.if_icmp .ne 9, 3) := by decide +kernel
theorem dX12_againRead_59 : decode cX12_againRead 59 = .ok (.aload_n 0, 1) := by decide +kernel
theorem dX12_againRead_60 : decode cX12_againRead 60 = .ok (.iconst 2, 1) := by decide +kernel
theorem dX12_againRead_61 : decode cX12_againRead 61 = .ok (.invokevirtual 247, 3) := by decide +kernel
theorem dX12_againRead_64 : decode cX12_againRead 64 = .ok (.ireturn, 1) := by decide +kernel
theorem dX12_againRead_65 : decode cX12_againRead 65 = .ok (.aload_n 0, 1) := by decide +kernel
theorem dX12_againRead_66 : decode cX12_againRead 66 = .ok (.getfield 44, 3) := by decide +kernel
theorem dX12_againRead_69 : decode cX12_againRead 69 = .ok (.aload_n 0, 1) := by decide +kernel
theorem dX12_againRead_70 : decode cX12_againRead 70 = .ok (.getfield 273, 3) := by decide +kernel
theorem dX12_againRead_73 : decode cX12_againRead 73 = .ok (.iload_n 1, 1) := by decide +kernel
theorem dX12_againRead_74 : decode cX12_againRead 74 = .ok (.iastore, 1) := by decide +kernel
theorem dX12_againRead_75 : decode cX12_againRead 75 = .ok (.aload_n 0, 1) := by decide +kernel
theorem dX12_againRead_76 : decode cX12_againRead 76 = .ok (.dup, 1) := by decide +kernel
theorem dX12_againRead_77 : decode cX12_againRead 77 = .ok (.getfield 273, 3) := by decide +kernel
theorem dX12_againRead_80 : decode cX12_againRead 80 = .ok (.iconst 1, 1) := by decide +kernel
theorem dX12_againRead_81 : decode cX12_againRead 81 = .ok (.iadd, 1) := by decide +kernel
theorem dX12_againRead_82 : decode cX12_againRead 82 = .ok (.putfield 273, 3) := by decide +kernel
theorem dX12_againRead_85 : decode cX12_againRead 85 = .ok (.aload_n 0, 1) := by decide +kernel
theorem dX12_againRead_86 : decode cX12_againRead 86 = .ok (.invokevirtual 253, 3) := by decide +kernel
theorem dX12_againRead_89 : decode cX12_againRead 89 = .ok (.iconst 1, 1) := by decide +kernel
theorem dX12_againRead_90 : decode cX12_againRead 90 = .ok (.ireturn, 1) := by decide +kernel
theorem dX12_actRead_0 : decode cX12_actRead 0 = .ok (.aload_n 0, 1) := by decide +kernel
theorem dX12_actRead_1 : decode cX12_actRead 1 = .ok (.bipush 41, 2) := by decide +kernel
theorem dX12_actRead_3 : decode cX12_actRead 3 = .ok (.invokevirtual 256, 3) := by decide +kernel
theorem dX12_actRead_6 : decode cX12_actRead 6 = .ok (.ifCond .eq 44, 3) := by decide +kernel
theorem dX12_actRead_9 : decode cX12_actRead 9 = .ok (.aload_n 0, 1) := by decide +kernel
theorem dX12_actRead_10 : decode cX12_actRead 10 = .ok (.getfield 273, 3) := by decide +kernel
theorem dX12_actRead_13 : decode cX12_actRead 13 = .ok (.ifCond .le 37, 3) := by decide +kernel
theorem dX12_actRead_16 : decode cX12_actRead 16 = .ok (.aload_n 0, 1) := by decide +kernel
theorem dX12_actRead_17 : decode cX12_actRead 17 = .ok (.dup, 1) := by decide +kernel
theorem dX12_actRead_18 : decode cX12_actRead 18 = .ok (.getfield 273, 3) := by decide +kernel
theorem dX12_actRead_21 : decode cX12_actRead 21 = .ok (.iconst 1, 1) := by decide +kernel
theorem dX12_actRead_22 : decode cX12_actRead 22 = .ok (.isub, 1) := by decide +kernel
theorem dX12_actRead_23 : decode cX12_actRead 23 = .ok (.putfield 273, 3) := by decide +kernel
theorem dX12_actRead_26 : decode cX12_actRead 26 = .ok (.aload_n 0, 1) := by decide +kernel
theorem dX12_actRead_27 : decode cX12_actRead 27 = .ok (.getfield 41, 3) := by decide +kernel
theorem dX12_actRead_30 : decode cX12_actRead 30 = .ok (.aload_n 0, 1) := by decide +kernel
theorem dX12_actRead_31 : decode cX12_actRead 31 = .ok (.getfield 44, 3) := by decide +kernel
theorem dX12_actRead_34 : decode cX12_actRead 34 = .ok (.aload_n 0, 1) := by decide +kernel
theorem dX12_actRead_35 : decode cX12_actRead 35 = .ok (.getfield 273, 3) := by decide +kernel
theorem dX12_actRead_38 : decode cX12_actRead 38 = .ok (.iaload, 1) := by decide +kernel
theorem dX12_actRead_39 : decode cX12_actRead 39 = .ok (.aload_n 0, 1) := by decide +kernel
theorem dX12_actRead_40 : decode cX12_actRead 40 = .ok (.getfield 276, 3) := by decide +kernel
theorem dX12_actRead_43 : decode cX12_actRead 43 = .ok (.iastore, 1) := by decide +kernel
theorem dX12_actRead_44 : decode cX12_actRead 44 = .ok (.aload_n 0, 1) := by decide +kernel
theorem dX12_actRead_45 : decode cX12_actRead 45 = .ok (.invokevirtual 253, 3) := by decide +kernel
theorem dX12_actRead_48 : decode cX12_actRead 48 = .ok (.iconst 1, 1) := by decide +kernel
theorem dX12_actRead_49 : decode cX12_actRead 49 = .ok (.ireturn, 1) := by decide +kernel
theorem dX12_actRead_50 : decode cX12_actRead 50 = .ok (.aload_n 0, 1) := by decide +kernel
theorem dX12_actRead_51 : decode cX12_actRead 51 = .ok (.getfield 225, 3) := by decide +kernel
theorem dX12_actRead_54 : decode cX12_actRead 54 = .ok (.iconst 1, 1) := by decide +kernel
theorem dX12_actRead_55 : decode cX12_actRead 55 = .ok (.if_icmp .eq 9, 3) := by decide +kernel
theorem dX12_actRead_58 : decode cX12_actRead 58 = .ok (.aload_n 0, 1) := by decide +kernel
theorem dX12_actRead_59 : decode cX12_actRead 59 = .ok (.iconst 1, 1) := by decide +kernel
theorem dX12_actRead_60 : decode cX12_actRead 60 = .ok (.invokevirtual 247, 3) := by decide +kernel
theorem dX12_actRead_63 : decode cX12_actRead 63 = .ok (.ireturn, 1) := by decide +kernel
theorem dX12_actRead_64 : decode cX12_actRead 64 = .ok (.aload_n 0, 1) := by decide +kernel
theorem dX12_actRead_65 : decode cX12_actRead 65 = .ok (.getfield 276, 3) := by decide +kernel
theorem dX12_actRead_68 : decode cX12_actRead 68 = .ok (.bipush 60, 2) := by decide +kernel
theorem dX12_actRead_70 : decode cX12_actRead 70 = .ok (.if_icmp .ne 9, 3) := by decide +kernel
theorem dX12_actRead_73 : decode cX12_actRead 73 = .ok (.aload_n 0, 1) := by decide +kernel
theorem dX12_actRead_74 : decode cX12_actRead 74 = .ok (.iconst 2, 1) := by decide +kernel
theorem dX12_actRead_75 : decode cX12_actRead 75 = .ok (.invokevirtual 247, 3) := by decide +kernel
theorem dX12_actRead_78 : decode cX12_actRead 78 = .ok (.ireturn, 1) := by decide +kernel
theorem dX12_actRead_79 : decode cX12_actRead 79 = .ok (.aload_n 0, 1) := by decide +kernel
theorem dX12_actRead_80 : decode cX12_actRead 80 = .ok (.getfield 276, 3) := by decide +kernel
theorem dX12_actRead_83 : decode cX12_actRead 83 = .ok (.istore_n 1, 1) := by decide +kernel
theorem dX12_actRead_84 : decode cX12_actRead 84 = .ok (.aload_n 0, 1) := by decide +kernel
theorem dX12_actRead_85 : decode cX12_actRead 85 = .ok (.getfield 35, 3) := by decide +kernel
theorem dX12_actRead_88 : decode cX12_actRead 88 = .ok (.iload_n 1, 1) := by decide +kernel
theorem dX12_actRead_89 : decode cX12_actRead 89 = .ok (.aload_n 0, 1) := by decide +kernel
theorem dX12_actRead_90 : decode cX12_actRead 90 = .ok (.getfield 235, 3) := by decide +kernel
theorem dX12_actRead_93 : decode cX12_actRead 93 = .ok (.iastore, 1) := by decide +kernel
theorem dX12_actRead_94 : decode cX12_actRead 94 = .ok (.aload_n 0, 1) := by decide +kernel
theorem dX12_actRead_95 : decode cX12_actRead 95 = .ok (.dup, 1) := by decide +kernel
theorem dX12_actRead_96 : decode cX12_actRead 96 = .ok (.getfield 276, 3) := by decide +kernel
theorem dX12_actRead_99 : decode cX12_actRead 99 = .ok (.iconst 1, 1) := by decide +kernel
theorem dX12_actRead_100 : decode cX12_actRead 100 = .ok (.iadd, 1) := by decide +kernel
theorem dX12_actRead_101 : decode cX12_actRead 101 = .ok (.putfield 276, 3) := by decide +kernel
theorem dX12_actRead_104 : decode cX12_actRead 104 = .ok (.aload_n 0, 1) := by decide +kernel
theorem dX12_actRead_105 : decode cX12_actRead 105 = .ok (.getfield 235, 3) := by decide +kernel
theorem dX12_actRead_108 : decode cX12_actRead 108 = .ok (.tableswitch 250 0 5 #[40, 45, 51, 120, 163, 244], 40) := by decide +kernel
theorem dX12_actRead_148 : decode cX12_actRead 148 = .ok (.aload_n 0, 1) := by decide +kernel
theorem dX12_actRead_149 : decode cX12_actRead 149 = .ok (.invokevirtual 279, 3) := by decide +kernel
theorem dX12_actRead_152 : decode cX12_actRead 152 = .ok (.ireturn, 1) := by decide +kernel
theorem dX12_actRead_153 : decode cX12_actRead 153 = .ok (.aload_n 0, 1) := by decide +kernel
theorem dX12_actRead_154 : decode cX12_actRead 154 = .ok (.iload_n 1, 1) := by decide +kernel
theorem dX12_actRead_155 : decode cX12_actRead 155 = .ok (.invokevirtual 282, 3) := by decide +kernel
theorem dX12_actRead_158 : decode cX12_actRead 158 = .ok (.ireturn, 1) := by decide +kernel
theorem dX12_actRead_159 : decode cX12_actRead 159 = .ok (.aload_n 0, 1) := by decide +kernel
theorem dX12_actRead_160 : decode cX12_actRead 160 = .ok (.invokevirtual 253, 3) := by decide +kernel
theorem dX12_actRead_163 : decode cX12_actRead 163 = .ok (.aload_n 0, 1) := by decide +kernel
theorem dX12_actRead_164 : decode cX12_actRead 164 = .ok (.iload_n 1, 1) := by decide +kernel
theorem dX12_actRead_165 : decode cX12_actRead 165 = .ok (.iconst 0, 1) := by decide +kernel
theorem dX12_actRead_166 : decode cX12_actRead 166 = .ok (.iconst 0, 1) := by decide +kernel
theorem dX12_actRead_167 : decode cX12_actRead 167 = .ok (.sipush 999, 3) := by decide +kernel
theorem dX12_actRead_170 : decode cX12_actRead 170 = .ok (.invokevirtual 259, 3) := by decide +kernel
theorem dX12_actRead_173 : decode cX12_actRead 173 = .ok (.ifCond .eq 53, 3) := by decide +kernel
theorem dX12_actRead_176 : decode cX12_actRead 176 = .ok (.aload_n 0, 1) := by decide +kernel
theorem dX12_actRead_177 : decode cX12_actRead 177 = .ok (.iload_n 1, 1) := by decide +kernel
theorem dX12_actRead_178 : decode cX12_actRead 178 = .ok (.iconst 1, 1) := by decide +kernel
theorem dX12_actRead_179 : decode cX12_actRead 179 = .ok (.iconst 0, 1) := by decide +kernel
theorem dX12_actRead_180 : decode cX12_actRead 180 = .ok (.sipush 999, 3) := by decide +kernel
theorem dX12_actRead_183 : decode cX12_actRead 183 = .ok (.invokevirtual 259, 3) := by decide +kernel
theorem dX12_actRead_186 : decode cX12_actRead 186 = .ok (.ifCond .eq 40, 3) := by decide +kernel
theorem dX12_actRead_189 : decode cX12_actRead 189 = .ok (.aload_n 0, 1) := by decide +kernel
theorem dX12_actRead_190 : decode cX12_actRead 190 = .ok (.iload_n 1, 1) := by decide +kernel
theorem dX12_actRead_191 : decode cX12_actRead 191 = .ok (.iconst 2, 1) := by decide +kernel
theorem dX12_actRead_192 : decode cX12_actRead 192 = .ok (.iconst 0, 1) := by decide +kernel
theorem dX12_actRead_193 : decode cX12_actRead 193 = .ok (.sipush 999, 3) := by decide +kernel
theorem dX12_actRead_196 : decode cX12_actRead 196 = .ok (.invokevirtual 259, 3) := by decide +kernel
theorem dX12_actRead_199 : decode cX12_actRead 199 = .ok (.ifCond .eq 27, 3) := by decide +kernel
theorem dX12_actRead_202 : decode cX12_actRead 202 = .ok (.aload_n 0, 1) := by decide +kernel
theorem dX12_actRead_203 : decode cX12_actRead 203 = .ok (.iload_n 1, 1) := by decide +kernel
theorem dX12_actRead_204 : decode cX12_actRead 204 = .ok (.iconst 3, 1) := by decide +kernel
theorem dX12_actRead_205 : decode cX12_actRead 205 = .ok (.iconst 0, 1) := by decide +kernel
theorem dX12_actRead_206 : decode cX12_actRead 206 = .ok (.sipush 999, 3) := by decide +kernel
theorem dX12_actRead_209 : decode cX12_actRead 209 = .ok (.invokevirtual 259, 3) := by decide +kernel
theorem dX12_actRead_212 : decode cX12_actRead 212 = .ok (.ifCond .eq 14, 3) := by decide +kernel
theorem dX12_actRead_215 : decode cX12_actRead 215 = .ok (.aload_n 0, 1) := by decide +kernel
theorem dX12_actRead_216 : decode cX12_actRead 216 = .ok (.invokevirtual 266, 3) := by decide +kernel
theorem dX12_actRead_219 : decode cX12_actRead 219 = .ok (.ifCond .eq 7, 3) := by decide +kernel
theorem dX12_actRead_222 : decode cX12_actRead 222 = .ok (.iconst 1, 1) := by decide +kernel
theorem dX12_actRead_223 : decode cX12_actRead 223 = .ok (.goto 4, 3) := by decide +kernel
theorem dX12_actRead_226 : decode cX12_actRead 226 = .ok (.iconst 0, 1) := by decide +kernel
theorem dX12_actRead_227 : decode cX12_actRead 227 = .ok (.ireturn, 1) := by decide +kernel
theorem dX12_actRead_228 : decode cX12_actRead 228 = .ok (.aload_n 0, 1) := by decide +kernel
theorem dX12_actRead_229 : decode cX12_actRead 229 = .ok (.invokevirtual 253, 3) := by decide +kernel
theorem dX12_actRead_232 : decode cX12_actRead 232 = .ok (.aload_n 0, 1) := by decide +kernel
theorem dX12_actRead_233 : decode cX12_actRead 233 = .ok (.iload_n 1, 1) := by decide +kernel
theorem dX12_actRead_234 : decode cX12_actRead 234 = .ok (.iconst 0, 1) := by decide +kernel
theorem dX12_actRead_235 : decode cX12_actRead 235 = .ok (.iconst 0, 1) := by decide +kernel
theorem dX12_actRead_236 : decode cX12_actRead 236 = .ok (.sipush 999, 3) := by decide +kernel
theorem dX12_actRead_239 : decode cX12_actRead 239 = .ok (.invokevirtual 259, 3) := by decide +kernel
theorem dX12_actRead_242 : decode cX12_actRead 242 = .ok (.ifCond .eq 27, 3) := by decide +kernel
theorem dX12_actRead_245 : decode cX12_actRead 245 = .ok (.aload_n 0, 1) := by decide +kernel
theorem dX12_actRead_246 : decode cX12_actRead 246 = .ok (.iload_n 1, 1) := by decide +kernel
theorem dX12_actRead_247 : decode cX12_actRead 247 = .ok (.iconst 1, 1) := by decide +kernel
theorem dX12_actRead_248 : decode cX12_actRead 248 = .ok (.iconst 0, 1) := by decide +kernel
theorem dX12_actRead_249 : decode cX12_actRead 249 = .ok (.sipush 999, 3) := by decide +kernel
theorem dX12_actRead_252 : decode cX12_actRead 252 = .ok (.invokevirtual 259, 3) := by decide +kernel
theorem dX12_actRead_255 : decode cX12_actRead 255 = .ok (.ifCond .eq 14, 3) := by decide +kernel
theorem dX12_actRead_258 : decode cX12_actRead 258 = .ok (.aload_n 0, 1) := by decide +kernel
theorem dX12_actRead_259 : decode cX12_actRead 259 = .ok (.invokevirtual 266, 3) := by decide +kernel
theorem dX12_actRead_262 : decode cX12_actRead 262 = .ok (.ifCond .eq 7, 3) := by decide +kernel
theorem dX12_actRead_265 : decode cX12_actRead 265 = .ok (.iconst 1, 1) := by decide +kernel
theorem dX12_actRead_266 : decode cX12_actRead 266 = .ok (.goto 4, 3) := by decide +kernel
theorem dX12_actRead_269 : decode cX12_actRead 269 = .ok (.iconst 0, 1) := by decide +kernel
theorem dX12_actRead_270 : decode cX12_actRead 270 = .ok (.ireturn, 1) := by decide +kernel
theorem dX12_actRead_271 : decode cX12_actRead 271 = .ok (.aload_n 0, 1) := by decide +kernel
theorem dX12_actRead_272 : decode cX12_actRead 272 = .ok (.invokevirtual 253, 3) := by decide +kernel
theorem dX12_actRead_275 : decode cX12_actRead 275 = .ok (.aload_n 0, 1) := by decide +kernel
theorem dX12_actRead_276 : decode cX12_actRead 276 = .ok (.iload_n 1, 1) := by decide +kernel
theorem dX12_actRead_277 : decode cX12_actRead 277 = .ok (.iconst 0, 1) := by decide +kernel
theorem dX12_actRead_278 : decode cX12_actRead 278 = .ok (.iconst 0, 1) := by decide +kernel
theorem dX12_actRead_279 : decode cX12_actRead 279 = .ok (.sipush 999, 3) := by decide +kernel
theorem dX12_actRead_282 : decode cX12_actRead 282 = .ok (.invokevirtual 259, 3) := by decide +kernel
theorem dX12_actRead_285 : decode cX12_actRead 285 = .ok (.ifCond .eq 65, 3) := by decide +kernel
theorem dX12_actRead_288 : decode cX12_actRead 288 = .ok (.aload_n 0, 1) := by decide +kernel
theorem dX12_actRead_289 : decode cX12_actRead 289 = .ok (.iload_n 1, 1) := by decide +kernel
theorem dX12_actRead_290 : decode cX12_actRead 290 = .ok (.iconst 1, 1) := by decide +kernel
theorem dX12_actRead_291 : decode cX12_actRead 291 = .ok (.iconst 0, 1) := by decide +kernel
theorem dX12_actRead_292 : decode cX12_actRead 292 = .ok (.sipush 999, 3) := by decide +kernel
theorem dX12_actRead_295 : decode cX12_actRead 295 = .ok (.invokevirtual 259, 3) := by decide +kernel
theorem dX12_actRead_298 : decode cX12_actRead 298 = .ok (.ifCond .eq 52, 3) := by decide +kernel
theorem dX12_actRead_301 : decode cX12_actRead 301 = .ok (.aload_n 0, 1) := by decide +kernel
theorem dX12_actRead_302 : decode cX12_actRead 302 = .ok (.iload_n 1, 1) := by decide +kernel
theorem dX12_actRead_303 : decode cX12_actRead 303 = .ok (.iconst 2, 1) := by decide +kernel
theorem dX12_actRead_304 : decode cX12_actRead 304 = .ok (.iconst 0, 1) := by decide +kernel
theorem dX12_actRead_305 : decode cX12_actRead 305 = .ok (.sipush 999, 3) := by decide +kernel
theorem dX12_actRead_308 : decode cX12_actRead 308 = .ok (.invokevirtual 259, 3) := by decide +kernel
theorem dX12_actRead_311 : decode cX12_actRead 311 = .ok (.ifCond .eq 39, 3) := by decide +kernel
theorem dX12_actRead_314 : decode cX12_actRead 314 = .ok (.aload_n 0, 1) := by decide +kernel
theorem dX12_actRead_315 : decode cX12_actRead 315 = .ok (.iload_n 1, 1) := by decide +kernel
theorem dX12_actRead_316 : decode cX12_actRead 316 = .ok (.iconst 3, 1) := by decide +kernel
theorem dX12_actRead_317 : decode cX12_actRead 317 = .ok (.iconst 0, 1) := by decide +kernel
theorem dX12_actRead_318 : decode cX12_actRead 318 = .ok (.sipush 999, 3) := by decide +kernel
theorem dX12_actRead_321 : decode cX12_actRead 321 = .ok (.invokevirtual 259, 3) := by decide +kernel
theorem dX12_actRead_324 : decode cX12_actRead 324 = .ok (.ifCond .eq 26, 3) := by decide +kernel
theorem dX12_actRead_327 : decode cX12_actRead 327 = .ok (.aload_n 0, 1) := by decide +kernel
theorem dX12_actRead_328 : decode cX12_actRead 328 = .ok (.iload_n 1, 1) := by decide +kernel
theorem dX12_actRead_329 : decode cX12_actRead 329 = .ok (.iconst 4, 1) := by decide +kernel
theorem dX12_actRead_330 : decode cX12_actRead 330 = .ok (.iconst 1, 1) := by decide +kernel
theorem dX12_actRead_331 : decode cX12_actRead 331 = .ok (.bipush 99, 2) := by decide +kernel
theorem dX12_actRead_333 : decode cX12_actRead 333 = .ok (.invokevirtual 259, 3) := by decide +kernel
theorem dX12_actRead_336 : decode cX12_actRead 336 = .ok (.ifCond .eq 14, 3) := by decide +kernel
theorem dX12_actRead_339 : decode cX12_actRead 339 = .ok (.aload_n 0, 1) := by decide +kernel
theorem dX12_actRead_340 : decode cX12_actRead 340 = .ok (.invokevirtual 266, 3) := by decide +kernel
theorem dX12_actRead_343 : decode cX12_actRead 343 = .ok (.ifCond .eq 7, 3) := by decide +kernel
theorem dX12_actRead_346 : decode cX12_actRead 346 = .ok (.iconst 1, 1) := by decide +kernel
theorem dX12_actRead_347 : decode cX12_actRead 347 = .ok (.goto 4, 3) := by decide +kernel
theorem dX12_actRead_350 : decode cX12_actRead 350 = .ok (.iconst 0, 1) := by decide +kernel
theorem dX12_actRead_351 : decode cX12_actRead 351 = .ok (.ireturn, 1) := by decide +kernel
theorem dX12_actRead_352 : decode cX12_actRead 352 = .ok (.aload_n 0, 1) := by decide +kernel
theorem dX12_actRead_353 : decode cX12_actRead 353 = .ok (.iload_n 1, 1) := by decide +kernel
theorem dX12_actRead_354 : decode cX12_actRead 354 = .ok (.invokevirtual 285, 3) := by decide +kernel
theorem dX12_actRead_357 : decode cX12_actRead 357 = .ok (.ireturn, 1) := by decide +kernel
theorem dX12_actRead_358 : decode cX12_actRead 358 = .ok (.aload_n 0, 1) := by decide +kernel
theorem dX12_actRead_359 : decode cX12_actRead 359 = .ok (.iload_n 1, 1) := by decide +kernel
theorem dX12_actRead_360 : decode cX12_actRead 360 = .ok (.invokevirtual 288, 3) := by decide +kernel
theorem dX12_actRead_363 : decode cX12_actRead 363 = .ok (.ireturn, 1) := by decide +kernel
theorem dX12_goes_0 : decode cX12_goes 0 = .ok (.aload_n 0, 1) := by decide +kernel
theorem dX12_goes_1 : decode cX12_goes 1 = .ok (.getfield 164, 3) := by decide +kernel
theorem dX12_goes_4 : decode cX12_goes 4 = .ok (.sipush 150, 3) := by decide +kernel
theorem dX12_goes_7 : decode cX12_goes 7 = .ok (.if_icmp .ne 10, 3) := by decide +kernel
theorem dX12_goes_10 : decode cX12_goes 10 = .ok (.aload_n 0, 1) := by decide +kernel
theorem dX12_goes_11 : decode cX12_goes 11 = .ok (.iconst 1, 1) := by decide +kernel
theorem dX12_goes_12 : decode cX12_goes 12 = .ok (.putfield 291, 3) := by decide +kernel
theorem dX12_goes_15 : decode cX12_goes 15 = .ok (.iconst 0, 1) := by decide +kernel
theorem dX12_goes_16 : decode cX12_goes 16 = .ok (.ireturn, 1) := by decide +kernel
theorem dX12_goes_17 : decode cX12_goes 17 = .ok (.aload_n 0, 1) := by decide +kernel
theorem dX12_goes_18 : decode cX12_goes 18 = .ok (.dup, 1) := by decide +kernel
theorem dX12_goes_19 : decode cX12_goes 19 = .ok (.getfield 164, 3) := by decide +kernel
theorem dX12_goes_22 : decode cX12_goes 22 = .ok (.iconst 1, 1) := by decide +kernel
theorem dX12_goes_23 : decode cX12_goes 23 = .ok (.iadd, 1) := by decide +kernel
theorem dX12_goes_24 : decode cX12_goes 24 = .ok (.putfield 164, 3) := by decide +kernel
theorem dX12_goes_27 : decode cX12_goes 27 = .ok (.aload_n 0, 1) := by decide +kernel
theorem dX12_goes_28 : decode cX12_goes 28 = .ok (.getfield 59, 3) := by decide +kernel
theorem dX12_goes_31 : decode cX12_goes 31 = .ok (.aload_n 0, 1) := by decide +kernel
theorem dX12_goes_32 : decode cX12_goes 32 = .ok (.getfield 164, 3) := by decide +kernel
theorem dX12_goes_35 : decode cX12_goes 35 = .ok (.lload_n 1, 1) := by decide +kernel
theorem dX12_goes_36 : decode cX12_goes 36 = .ok (.l2i, 1) := by decide +kernel
theorem dX12_goes_37 : decode cX12_goes 37 = .ok (.iastore, 1) := by decide +kernel
theorem dX12_goes_38 : decode cX12_goes 38 = .ok (.aload_n 0, 1) := by decide +kernel
theorem dX12_goes_39 : decode cX12_goes 39 = .ok (.getfield 62, 3) := by decide +kernel
theorem dX12_goes_42 : decode cX12_goes 42 = .ok (.aload_n 0, 1) := by decide +kernel
theorem dX12_goes_43 : decode cX12_goes 43 = .ok (.getfield 164, 3) := by decide +kernel
theorem dX12_goes_46 : decode cX12_goes 46 = .ok (.lload_n 3, 1) := by decide +kernel
theorem dX12_goes_47 : decode cX12_goes 47 = .ok (.l2i, 1) := by decide +kernel
theorem dX12_goes_48 : decode cX12_goes 48 = .ok (.iastore, 1) := by decide +kernel
theorem dX12_goes_49 : decode cX12_goes 49 = .ok (.aload_n 0, 1) := by decide +kernel
theorem dX12_goes_50 : decode cX12_goes 50 = .ok (.getfield 65, 3) := by decide +kernel
theorem dX12_goes_53 : decode cX12_goes 53 = .ok (.aload_n 0, 1) := by decide +kernel
theorem dX12_goes_54 : decode cX12_goes 54 = .ok (.getfield 164, 3) := by decide +kernel
theorem dX12_goes_57 : decode cX12_goes 57 = .ok (.iload 5, 2) := by decide +kernel
theorem dX12_goes_59 : decode cX12_goes 59 = .ok (.bastore, 1) := by decide +kernel
theorem dX12_goes_60 : decode cX12_goes 60 = .ok (.iconst 1, 1) := by decide +kernel
theorem dX12_goes_61 : decode cX12_goes 61 = .ok (.ireturn, 1) := by decide +kernel
theorem dX12_isThere_0 : decode cX12_isThere 0 = .ok (.aload_n 0, 1) := by decide +kernel
theorem dX12_isThere_1 : decode cX12_isThere 1 = .ok (.getfield 59, 3) := by decide +kernel
theorem dX12_isThere_4 : decode cX12_isThere 4 = .ok (.aload_n 0, 1) := by decide +kernel
theorem dX12_isThere_5 : decode cX12_isThere 5 = .ok (.getfield 164, 3) := by decide +kernel
theorem dX12_isThere_8 : decode cX12_isThere 8 = .ok (.iaload, 1) := by decide +kernel
theorem dX12_isThere_9 : decode cX12_isThere 9 = .ok (.i2l, 1) := by decide +kernel
theorem dX12_isThere_10 : decode cX12_isThere 10 = .ok (.lload_n 1, 1) := by decide +kernel
theorem dX12_isThere_11 : decode cX12_isThere 11 = .ok (.lcmp, 1) := by decide +kernel
theorem dX12_isThere_12 : decode cX12_isThere 12 = .ok (.ifCond .ne 22, 3) := by decide +kernel
theorem dX12_isThere_15 : decode cX12_isThere 15 = .ok (.aload_n 0, 1) := by decide +kernel
theorem dX12_isThere_16 : decode cX12_isThere 16 = .ok (.getfield 62, 3) := by decide +kernel
theorem dX12_isThere_19 : decode cX12_isThere 19 = .ok (.aload_n 0, 1) := by decide +kernel
theorem dX12_isThere_20 : decode cX12_isThere 20 = .ok (.getfield 164, 3) := by decide +kernel
theorem dX12_isThere_23 : decode cX12_isThere 23 = .ok (.iaload, 1) := by decide +kernel
theorem dX12_isThere_24 : decode cX12_isThere 24 = .ok (.i2l, 1) := by decide +kernel
theorem dX12_isThere_25 : decode cX12_isThere 25 = .ok (.lload_n 3, 1) := by decide +kernel
theorem dX12_isThere_26 : decode cX12_isThere 26 = .ok (.lcmp, 1) := by decide +kernel
theorem dX12_isThere_27 : decode cX12_isThere 27 = .ok (.ifCond .ne 7, 3) := by decide +kernel
theorem dX12_isThere_30 : decode cX12_isThere 30 = .ok (.iconst 1, 1) := by decide +kernel
theorem dX12_isThere_31 : decode cX12_isThere 31 = .ok (.goto 4, 3) := by decide +kernel
theorem dX12_isThere_34 : decode cX12_isThere 34 = .ok (.iconst 0, 1) := by decide +kernel
theorem dX12_isThere_35 : decode cX12_isThere 35 = .ok (.ireturn, 1) := by decide +kernel
theorem dX12_isBeyond_0 : decode cX12_isBeyond 0 = .ok (.iload_n 1, 1) := by decide +kernel
theorem dX12_isBeyond_1 : decode cX12_isBeyond 1 = .ok (.iconst 2, 1) := by decide +kernel
theorem dX12_isBeyond_2 : decode cX12_isBeyond 2 = .ok (.if_icmp .ge 12, 3) := by decide +kernel
theorem dX12_isBeyond_5 : decode cX12_isBeyond 5 = .ok (.aload_n 0, 1) := by decide +kernel
theorem dX12_isBeyond_6 : decode cX12_isBeyond 6 = .ok (.getfield 81, 3) := by decide +kernel
theorem dX12_isBeyond_9 : decode cX12_isBeyond 9 = .ok (.iload_n 2, 1) := by decide +kernel
theorem dX12_isBeyond_10 : decode cX12_isBeyond 10 = .ok (.laload, 1) := by decide +kernel
theorem dX12_isBeyond_11 : decode cX12_isBeyond 11 = .ok (.goto 9, 3) := by decide +kernel
theorem dX12_isBeyond_14 : decode cX12_isBeyond 14 = .ok (.aload_n 0, 1) := by decide +kernel
theorem dX12_isBeyond_15 : decode cX12_isBeyond 15 = .ok (.getfield 85, 3) := by decide +kernel
theorem dX12_isBeyond_18 : decode cX12_isBeyond 18 = .ok (.iload_n 2, 1) := by decide +kernel
theorem dX12_isBeyond_19 : decode cX12_isBeyond 19 = .ok (.laload, 1) := by decide +kernel
theorem dX12_isBeyond_20 : decode cX12_isBeyond 20 = .ok (.lstore_n 3, 1) := by decide +kernel
theorem dX12_isBeyond_21 : decode cX12_isBeyond 21 = .ok (.iload_n 1, 1) := by decide +kernel
theorem dX12_isBeyond_22 : decode cX12_isBeyond 22 = .ok (.iconst 2, 1) := by decide +kernel
theorem dX12_isBeyond_23 : decode cX12_isBeyond 23 = .ok (.irem, 1) := by decide +kernel
theorem dX12_isBeyond_24 : decode cX12_isBeyond 24 = .ok (.ifCond .ne 23, 3) := by decide +kernel
theorem dX12_isBeyond_27 : decode cX12_isBeyond 27 = .ok (.lload_n 3, 1) := by decide +kernel
theorem dX12_isBeyond_28 : decode cX12_isBeyond 28 = .ok (.aload_n 0, 1) := by decide +kernel
theorem dX12_isBeyond_29 : decode cX12_isBeyond 29 = .ok (.getfield 69, 3) := by decide +kernel
theorem dX12_isBeyond_32 : decode cX12_isBeyond 32 = .ok (.iload_n 1, 1) := by decide +kernel
theorem dX12_isBeyond_33 : decode cX12_isBeyond 33 = .ok (.iaload, 1) := by decide +kernel
theorem dX12_isBeyond_34 : decode cX12_isBeyond 34 = .ok (.i2l, 1) := by decide +kernel
theorem dX12_isBeyond_35 : decode cX12_isBeyond 35 = .ok (.lcmp, 1) := by decide +kernel
theorem dX12_isBeyond_36 : decode cX12_isBeyond 36 = .ok (.ifCond .ge 7, 3) := by decide +kernel
theorem dX12_isBeyond_39 : decode cX12_isBeyond 39 = .ok (.iconst 1, 1) := by decide +kernel
theorem dX12_isBeyond_40 : decode cX12_isBeyond 40 = .ok (.goto 24, 3) := by decide +kernel
theorem dX12_isBeyond_43 : decode cX12_isBeyond 43 = .ok (.iconst 0, 1) := by decide +kernel
theorem dX12_isBeyond_44 : decode cX12_isBeyond 44 = .ok (.goto 20, 3) := by decide +kernel
theorem dX12_isBeyond_47 : decode cX12_isBeyond 47 = .ok (.lload_n 3, 1) := by decide +kernel
theorem dX12_isBeyond_48 : decode cX12_isBeyond 48 = .ok (.aload_n 0, 1) := by decide +kernel
theorem dX12_isBeyond_49 : decode cX12_isBeyond 49 = .ok (.getfield 69, 3) := by decide +kernel
theorem dX12_isBeyond_52 : decode cX12_isBeyond 52 = .ok (.iload_n 1, 1) := by decide +kernel
theorem dX12_isBeyond_53 : decode cX12_isBeyond 53 = .ok (.iaload, 1) := by decide +kernel
theorem dX12_isBeyond_54 : decode cX12_isBeyond 54 = .ok (.i2l, 1) := by decide +kernel
theorem dX12_isBeyond_55 : decode cX12_isBeyond 55 = .ok (.lcmp, 1) := by decide +kernel
theorem dX12_isBeyond_56 : decode cX12_isBeyond 56 = .ok (.ifCond .le 7, 3) := by decide +kernel
theorem dX12_isBeyond_59 : decode cX12_isBeyond 59 = .ok (.iconst 1, 1) := by decide +kernel
theorem dX12_isBeyond_60 : decode cX12_isBeyond 60 = .ok (.goto 4, 3) := by decide +kernel
theorem dX12_isBeyond_63 : decode cX12_isBeyond 63 = .ok (.iconst 0, 1) := by decide +kernel
theorem dX12_isBeyond_64 : decode cX12_isBeyond 64 = .ok (.ireturn, 1) := by decide +kernel
theorem dX12_cuts_0 : decode cX12_cuts 0 = .ok (.aload_n 0, 1) := by decide +kernel
theorem dX12_cuts_1 : decode cX12_cuts 1 = .ok (.iload_n 1, 1) := by decide +kernel
theorem dX12_cuts_2 : decode cX12_cuts 2 = .ok (.iconst 0, 1) := by decide +kernel
theorem dX12_cuts_3 : decode cX12_cuts 3 = .ok (.invokevirtual 294, 3) := by decide +kernel
theorem dX12_cuts_6 : decode cX12_cuts 6 = .ok (.istore_n 2, 1) := by decide +kernel
theorem dX12_cuts_7 : decode cX12_cuts 7 = .ok (.aload_n 0, 1) := by decide +kernel
theorem dX12_cuts_8 : decode cX12_cuts 8 = .ok (.iload_n 1, 1) := by decide +kernel
theorem dX12_cuts_9 : decode cX12_cuts 9 = .ok (.iconst 1, 1) := by decide +kernel
theorem dX12_cuts_10 : decode cX12_cuts 10 = .ok (.invokevirtual 294, 3) := by decide +kernel
theorem dX12_cuts_13 : decode cX12_cuts 13 = .ok (.istore_n 3, 1) := by decide +kernel
theorem dX12_cuts_14 : decode cX12_cuts 14 = .ok (.iload_n 2, 1) := by decide +kernel
theorem dX12_cuts_15 : decode cX12_cuts 15 = .ok (.ifCond .eq 9, 3) := by decide +kernel
theorem dX12_cuts_18 : decode cX12_cuts 18 = .ok (.iload_n 3, 1) := by decide +kernel
theorem dX12_cuts_19 : decode cX12_cuts 19 = .ok (.ifCond .eq 5, 3) := by decide +kernel
theorem dX12_cuts_22 : decode cX12_cuts 22 = .ok (.iconst 0, 1) := by decide +kernel
theorem dX12_cuts_23 : decode cX12_cuts 23 = .ok (.ireturn, 1) := by decide +kernel
theorem dX12_cuts_24 : decode cX12_cuts 24 = .ok (.iload_n 2, 1) := by decide +kernel
theorem dX12_cuts_25 : decode cX12_cuts 25 = .ok (.ifCond .ne 9, 3) := by decide +kernel
theorem dX12_cuts_28 : decode cX12_cuts 28 = .ok (.iload_n 3, 1) := by decide +kernel
theorem dX12_cuts_29 : decode cX12_cuts 29 = .ok (.ifCond .ne 5, 3) := by decide +kernel
theorem dX12_cuts_32 : decode cX12_cuts 32 = .ok (.iconst 1, 1) := by decide +kernel
theorem dX12_cuts_33 : decode cX12_cuts 33 = .ok (.ireturn, 1) := by decide +kernel
theorem dX12_cuts_34 : decode cX12_cuts 34 = .ok (.iload_n 2, 1) := by decide +kernel
theorem dX12_cuts_35 : decode cX12_cuts 35 = .ok (.ifCond .eq 7, 3) := by decide +kernel
theorem dX12_cuts_38 : decode cX12_cuts 38 = .ok (.iconst 0, 1) := by decide +kernel
theorem dX12_cuts_39 : decode cX12_cuts 39 = .ok (.goto 4, 3) := by decide +kernel
theorem dX12_cuts_42 : decode cX12_cuts 42 = .ok (.iconst 1, 1) := by decide +kernel
theorem dX12_cuts_43 : decode cX12_cuts 43 = .ok (.istore 4, 2) := by decide +kernel
theorem dX12_cuts_45 : decode cX12_cuts 45 = .ok (.aload_n 0, 1) := by decide +kernel
theorem dX12_cuts_46 : decode cX12_cuts 46 = .ok (.getfield 69, 3) := by decide +kernel
theorem dX12_cuts_49 : decode cX12_cuts 49 = .ok (.iload_n 1, 1) := by decide +kernel
theorem dX12_cuts_50 : decode cX12_cuts 50 = .ok (.iaload, 1) := by decide +kernel
theorem dX12_cuts_51 : decode cX12_cuts 51 = .ok (.i2l, 1) := by decide +kernel
theorem dX12_cuts_52 : decode cX12_cuts 52 = .ok (.lstore 5, 2) := by decide +kernel
theorem dX12_cuts_54 : decode cX12_cuts 54 = .ok (.iload_n 1, 1) := by decide +kernel
theorem dX12_cuts_55 : decode cX12_cuts 55 = .ok (.iconst 2, 1) := by decide +kernel
theorem dX12_cuts_56 : decode cX12_cuts 56 = .ok (.if_icmp .ge 71, 3) := by decide +kernel
theorem dX12_cuts_59 : decode cX12_cuts 59 = .ok (.aload_n 0, 1) := by decide +kernel
theorem dX12_cuts_60 : decode cX12_cuts 60 = .ok (.getfield 85, 3) := by decide +kernel
theorem dX12_cuts_63 : decode cX12_cuts 63 = .ok (.iload 4, 2) := by decide +kernel
theorem dX12_cuts_65 : decode cX12_cuts 65 = .ok (.dup2, 1) := by decide +kernel
theorem dX12_cuts_66 : decode cX12_cuts 66 = .ok (.laload, 1) := by decide +kernel
theorem dX12_cuts_67 : decode cX12_cuts 67 = .ok (.aload_n 0, 1) := by decide +kernel
theorem dX12_cuts_68 : decode cX12_cuts 68 = .ok (.getfield 85, 3) := by decide +kernel
theorem dX12_cuts_71 : decode cX12_cuts 71 = .ok (.iconst 1, 1) := by decide +kernel
theorem dX12_cuts_72 : decode cX12_cuts 72 = .ok (.iload 4, 2) := by decide +kernel
theorem dX12_cuts_74 : decode cX12_cuts 74 = .ok (.isub, 1) := by decide +kernel
theorem dX12_cuts_75 : decode cX12_cuts 75 = .ok (.laload, 1) := by decide +kernel
theorem dX12_cuts_76 : decode cX12_cuts 76 = .ok (.aload_n 0, 1) := by decide +kernel
theorem dX12_cuts_77 : decode cX12_cuts 77 = .ok (.getfield 85, 3) := by decide +kernel
theorem dX12_cuts_80 : decode cX12_cuts 80 = .ok (.iload 4, 2) := by decide +kernel
theorem dX12_cuts_82 : decode cX12_cuts 82 = .ok (.laload, 1) := by decide +kernel
theorem dX12_cuts_83 : decode cX12_cuts 83 = .ok (.lsub, 1) := by decide +kernel
theorem dX12_cuts_84 : decode cX12_cuts 84 = .ok (.lload 5, 2) := by decide +kernel
theorem dX12_cuts_86 : decode cX12_cuts 86 = .ok (.aload_n 0, 1) := by decide +kernel
theorem dX12_cuts_87 : decode cX12_cuts 87 = .ok (.getfield 81, 3) := by decide +kernel
theorem dX12_cuts_90 : decode cX12_cuts 90 = .ok (.iload 4, 2) := by decide +kernel
theorem dX12_cuts_92 : decode cX12_cuts 92 = .ok (.laload, 1) := by decide +kernel
theorem dX12_cuts_93 : decode cX12_cuts 93 = .ok (.lsub, 1) := by decide +kernel
theorem dX12_cuts_94 : decode cX12_cuts 94 = .ok (.lmul, 1) := by decide +kernel
theorem dX12_cuts_95 : decode cX12_cuts 95 = .ok (.aload_n 0, 1) := by decide +kernel
theorem dX12_cuts_96 : decode cX12_cuts 96 = .ok (.getfield 81, 3) := by decide +kernel
theorem dX12_cuts_99 : decode cX12_cuts 99 = .ok (.iconst 1, 1) := by decide +kernel
theorem dX12_cuts_100 : decode cX12_cuts 100 = .ok (.iload 4, 2) := by decide +kernel
theorem dX12_cuts_102 : decode cX12_cuts 102 = .ok (.isub, 1) := by decide +kernel
theorem dX12_cuts_103 : decode cX12_cuts 103 = .ok (.laload, 1) := by decide +kernel
theorem dX12_cuts_104 : decode cX12_cuts 104 = .ok (.aload_n 0, 1) := by decide +kernel
theorem dX12_cuts_105 : decode cX12_cuts 105 = .ok (.getfield 81, 3) := by decide +kernel
theorem dX12_cuts_108 : decode cX12_cuts 108 = .ok (.iload 4, 2) := by decide +kernel
theorem dX12_cuts_110 : decode cX12_cuts 110 = .ok (.laload, 1) := by decide +kernel
theorem dX12_cuts_111 : decode cX12_cuts 111 = .ok (.lsub, 1) := by decide +kernel
theorem dX12_cuts_112 : decode cX12_cuts 112 = .ok (.ldiv, 1) := by decide +kernel
theorem dX12_cuts_113 : decode cX12_cuts 113 = .ok (.ladd, 1) := by decide +kernel
theorem dX12_cuts_114 : decode cX12_cuts 114 = .ok (.lastore, 1) := by decide +kernel
theorem dX12_cuts_115 : decode cX12_cuts 115 = .ok (.aload_n 0, 1) := by decide +kernel
theorem dX12_cuts_116 : decode cX12_cuts 116 = .ok (.getfield 81, 3) := by decide +kernel
theorem dX12_cuts_119 : decode cX12_cuts 119 = .ok (.iload 4, 2) := by decide +kernel
theorem dX12_cuts_121 : decode cX12_cuts 121 = .ok (.lload 5, 2) := by decide +kernel
theorem dX12_cuts_123 : decode cX12_cuts 123 = .ok (.lastore, 1) := by decide +kernel
theorem dX12_cuts_124 : decode cX12_cuts 124 = .ok (.goto 68, 3) := by decide +kernel
theorem dX12_cuts_127 : decode cX12_cuts 127 = .ok (.aload_n 0, 1) := by decide +kernel
theorem dX12_cuts_128 : decode cX12_cuts 128 = .ok (.getfield 81, 3) := by decide +kernel
theorem dX12_cuts_131 : decode cX12_cuts 131 = .ok (.iload 4, 2) := by decide +kernel
theorem dX12_cuts_133 : decode cX12_cuts 133 = .ok (.dup2, 1) := by decide +kernel
theorem dX12_cuts_134 : decode cX12_cuts 134 = .ok (.laload, 1) := by decide +kernel
theorem dX12_cuts_135 : decode cX12_cuts 135 = .ok (.aload_n 0, 1) := by decide +kernel
theorem dX12_cuts_136 : decode cX12_cuts 136 = .ok (.getfield 81, 3) := by decide +kernel
theorem dX12_cuts_139 : decode cX12_cuts 139 = .ok (.iconst 1, 1) := by decide +kernel
theorem dX12_cuts_140 : decode cX12_cuts 140 = .ok (.iload 4, 2) := by decide +kernel
theorem dX12_cuts_142 : decode cX12_cuts 142 = .ok (.isub, 1) := by decide +kernel
theorem dX12_cuts_143 : decode cX12_cuts 143 = .ok (.laload, 1) := by decide +kernel
theorem dX12_cuts_144 : decode cX12_cuts 144 = .ok (.aload_n 0, 1) := by decide +kernel
theorem dX12_cuts_145 : decode cX12_cuts 145 = .ok (.getfield 81, 3) := by decide +kernel
theorem dX12_cuts_148 : decode cX12_cuts 148 = .ok (.iload 4, 2) := by decide +kernel
theorem dX12_cuts_150 : decode cX12_cuts 150 = .ok (.laload, 1) := by decide +kernel
theorem dX12_cuts_151 : decode cX12_cuts 151 = .ok (.lsub, 1) := by decide +kernel
theorem dX12_cuts_152 : decode cX12_cuts 152 = .ok (.lload 5, 2) := by decide +kernel
theorem dX12_cuts_154 : decode cX12_cuts 154 = .ok (.aload_n 0, 1) := by decide +kernel
theorem dX12_cuts_155 : decode cX12_cuts 155 = .ok (.getfield 85, 3) := by decide +kernel
theorem dX12_cuts_158 : decode cX12_cuts 158 = .ok (.iload 4, 2) := by decide +kernel
theorem dX12_cuts_160 : decode cX12_cuts 160 = .ok (.laload, 1) := by decide +kernel
theorem dX12_cuts_161 : decode cX12_cuts 161 = .ok (.lsub, 1) := by decide +kernel
theorem dX12_cuts_162 : decode cX12_cuts 162 = .ok (.lmul, 1) := by decide +kernel
theorem dX12_cuts_163 : decode cX12_cuts 163 = .ok (.aload_n 0, 1) := by decide +kernel
theorem dX12_cuts_164 : decode cX12_cuts 164 = .ok (.getfield 85, 3) := by decide +kernel
theorem dX12_cuts_167 : decode cX12_cuts 167 = .ok (.iconst 1, 1) := by decide +kernel
theorem dX12_cuts_168 : decode cX12_cuts 168 = .ok (.iload 4, 2) := by decide +kernel
theorem dX12_cuts_170 : decode cX12_cuts 170 = .ok (.isub, 1) := by decide +kernel
theorem dX12_cuts_171 : decode cX12_cuts 171 = .ok (.laload, 1) := by decide +kernel
theorem dX12_cuts_172 : decode cX12_cuts 172 = .ok (.aload_n 0, 1) := by decide +kernel
theorem dX12_cuts_173 : decode cX12_cuts 173 = .ok (.getfield 85, 3) := by decide +kernel
theorem dX12_cuts_176 : decode cX12_cuts 176 = .ok (.iload 4, 2) := by decide +kernel
theorem dX12_cuts_178 : decode cX12_cuts 178 = .ok (.laload, 1) := by decide +kernel
theorem dX12_cuts_179 : decode cX12_cuts 179 = .ok (.lsub, 1) := by decide +kernel
theorem dX12_cuts_180 : decode cX12_cuts 180 = .ok (.ldiv, 1) := by decide +kernel
theorem dX12_cuts_181 : decode cX12_cuts 181 = .ok (.ladd, 1) := by decide +kernel
theorem dX12_cuts_182 : decode cX12_cuts 182 = .ok (.lastore, 1) := by decide +kernel
theorem dX12_cuts_183 : decode cX12_cuts 183 = .ok (.aload_n 0, 1) := by decide +kernel
theorem dX12_cuts_184 : decode cX12_cuts 184 = .ok (.getfield 85, 3) := by decide +kernel
theorem dX12_cuts_187 : decode cX12_cuts 187 = .ok (.iload 4, 2) := by decide +kernel
theorem dX12_cuts_189 : decode cX12_cuts 189 = .ok (.lload 5, 2) := by decide +kernel
theorem dX12_cuts_191 : decode cX12_cuts 191 = .ok (.lastore, 1) := by decide +kernel
theorem dX12_cuts_192 : decode cX12_cuts 192 = .ok (.iconst 1, 1) := by decide +kernel
theorem dX12_cuts_193 : decode cX12_cuts 193 = .ok (.ireturn, 1) := by decide +kernel
theorem dX12_lines_0 : decode cX12_lines 0 = .ok (.aload_n 0, 1) := by decide +kernel
theorem dX12_lines_1 : decode cX12_lines 1 = .ok (.getfield 81, 3) := by decide +kernel
theorem dX12_lines_4 : decode cX12_lines 4 = .ok (.iconst 0, 1) := by decide +kernel
theorem dX12_lines_5 : decode cX12_lines 5 = .ok (.iload_n 1, 1) := by decide +kernel
theorem dX12_lines_6 : decode cX12_lines 6 = .ok (.aload_n 0, 1) := by decide +kernel
theorem dX12_lines_7 : decode cX12_lines 7 = .ok (.getfield 297, 3) := by decide +kernel
theorem dX12_lines_10 : decode cX12_lines 10 = .ok (.iadd, 1) := by decide +kernel
theorem dX12_lines_11 : decode cX12_lines 11 = .ok (.i2l, 1) := by decide +kernel
theorem dX12_lines_12 : decode cX12_lines 12 = .ok (.lastore, 1) := by decide +kernel
theorem dX12_lines_13 : decode cX12_lines 13 = .ok (.aload_n 0, 1) := by decide +kernel
theorem dX12_lines_14 : decode cX12_lines 14 = .ok (.getfield 85, 3) := by decide +kernel
theorem dX12_lines_17 : decode cX12_lines 17 = .ok (.iconst 0, 1) := by decide +kernel
theorem dX12_lines_18 : decode cX12_lines 18 = .ok (.iload_n 2, 1) := by decide +kernel
theorem dX12_lines_19 : decode cX12_lines 19 = .ok (.aload_n 0, 1) := by decide +kernel
theorem dX12_lines_20 : decode cX12_lines 20 = .ok (.getfield 300, 3) := by decide +kernel
theorem dX12_lines_23 : decode cX12_lines 23 = .ok (.iadd, 1) := by decide +kernel
theorem dX12_lines_24 : decode cX12_lines 24 = .ok (.i2l, 1) := by decide +kernel
theorem dX12_lines_25 : decode cX12_lines 25 = .ok (.lastore, 1) := by decide +kernel
theorem dX12_lines_26 : decode cX12_lines 26 = .ok (.aload_n 0, 1) := by decide +kernel
theorem dX12_lines_27 : decode cX12_lines 27 = .ok (.getfield 81, 3) := by decide +kernel
theorem dX12_lines_30 : decode cX12_lines 30 = .ok (.iconst 1, 1) := by decide +kernel
theorem dX12_lines_31 : decode cX12_lines 31 = .ok (.iload_n 3, 1) := by decide +kernel
theorem dX12_lines_32 : decode cX12_lines 32 = .ok (.aload_n 0, 1) := by decide +kernel
theorem dX12_lines_33 : decode cX12_lines 33 = .ok (.getfield 297, 3) := by decide +kernel
theorem dX12_lines_36 : decode cX12_lines 36 = .ok (.iadd, 1) := by decide +kernel
theorem dX12_lines_37 : decode cX12_lines 37 = .ok (.i2l, 1) := by decide +kernel
theorem dX12_lines_38 : decode cX12_lines 38 = .ok (.lastore, 1) := by decide +kernel
theorem dX12_lines_39 : decode cX12_lines 39 = .ok (.aload_n 0, 1) := by decide +kernel
theorem dX12_lines_40 : decode cX12_lines 40 = .ok (.getfield 85, 3) := by decide +kernel
theorem dX12_lines_43 : decode cX12_lines 43 = .ok (.iconst 1, 1) := by decide +kernel
theorem dX12_lines_44 : decode cX12_lines 44 = .ok (.iload 4, 2) := by decide +kernel
theorem dX12_lines_46 : decode cX12_lines 46 = .ok (.aload_n 0, 1) := by decide +kernel
theorem dX12_lines_47 : decode cX12_lines 47 = .ok (.getfield 300, 3) := by decide +kernel
theorem dX12_lines_50 : decode cX12_lines 50 = .ok (.iadd, 1) := by decide +kernel
theorem dX12_lines_51 : decode cX12_lines 51 = .ok (.i2l, 1) := by decide +kernel
theorem dX12_lines_52 : decode cX12_lines 52 = .ok (.lastore, 1) := by decide +kernel
theorem dX12_lines_53 : decode cX12_lines 53 = .ok (.iconst 0, 1) := by decide +kernel
theorem dX12_lines_54 : decode cX12_lines 54 = .ok (.istore 5, 2) := by decide +kernel
theorem dX12_lines_56 : decode cX12_lines 56 = .ok (.iload 5, 2) := by decide +kernel
theorem dX12_lines_58 : decode cX12_lines 58 = .ok (.iconst 4, 1) := by decide +kernel
theorem dX12_lines_59 : decode cX12_lines 59 = .ok (.if_icmp .ge 20, 3) := by decide +kernel
theorem dX12_lines_62 : decode cX12_lines 62 = .ok (.aload_n 0, 1) := by decide +kernel
theorem dX12_lines_63 : decode cX12_lines 63 = .ok (.iload 5, 2) := by decide +kernel
theorem dX12_lines_65 : decode cX12_lines 65 = .ok (.invokevirtual 303, 3) := by decide +kernel
theorem dX12_lines_68 : decode cX12_lines 68 = .ok (.ifCond .ne 5, 3) := by decide +kernel
theorem dX12_lines_71 : decode cX12_lines 71 = .ok (.iconst 1, 1) := by decide +kernel
theorem dX12_lines_72 : decode cX12_lines 72 = .ok (.ireturn, 1) := by decide +kernel
theorem dX12_lines_73 : decode cX12_lines 73 = .ok (.iinc 5 1, 3) := by decide +kernel
theorem dX12_lines_76 : decode cX12_lines 76 = .ok (.goto (-20), 3) := by decide +kernel
theorem dX12_lines_79 : decode cX12_lines 79 = .ok (.aload_n 0, 1) := by decide +kernel
theorem dX12_lines_80 : decode cX12_lines 80 = .ok (.aload_n 0, 1) := by decide +kernel
theorem dX12_lines_81 : decode cX12_lines 81 = .ok (.getfield 81, 3) := by decide +kernel
theorem dX12_lines_84 : decode cX12_lines 84 = .ok (.iconst 0, 1) := by decide +kernel
theorem dX12_lines_85 : decode cX12_lines 85 = .ok (.laload, 1) := by decide +kernel
theorem dX12_lines_86 : decode cX12_lines 86 = .ok (.aload_n 0, 1) := by decide +kernel
theorem dX12_lines_87 : decode cX12_lines 87 = .ok (.getfield 85, 3) := by decide +kernel
theorem dX12_lines_90 : decode cX12_lines 90 = .ok (.iconst 0, 1) := by decide +kernel
theorem dX12_lines_91 : decode cX12_lines 91 = .ok (.laload, 1) := by decide +kernel
theorem dX12_lines_92 : decode cX12_lines 92 = .ok (.invokevirtual 306, 3) := by decide +kernel
theorem dX12_lines_95 : decode cX12_lines 95 = .ok (.ifCond .ne 25, 3) := by decide +kernel
theorem dX12_lines_98 : decode cX12_lines 98 = .ok (.aload_n 0, 1) := by decide +kernel
theorem dX12_lines_99 : decode cX12_lines 99 = .ok (.aload_n 0, 1) := by decide +kernel
theorem dX12_lines_100 : decode cX12_lines 100 = .ok (.getfield 81, 3) := by decide +kernel
theorem dX12_lines_103 : decode cX12_lines 103 = .ok (.iconst 0, 1) := by decide +kernel
theorem dX12_lines_104 : decode cX12_lines 104 = .ok (.laload, 1) := by decide +kernel
theorem dX12_lines_105 : decode cX12_lines 105 = .ok (.aload_n 0, 1) := by decide +kernel
theorem dX12_lines_106 : decode cX12_lines 106 = .ok (.getfield 85, 3) := by decide +kernel
theorem dX12_lines_109 : decode cX12_lines 109 = .ok (.iconst 0, 1) := by decide +kernel
theorem dX12_lines_110 : decode cX12_lines 110 = .ok (.laload, 1) := by decide +kernel
theorem dX12_lines_111 : decode cX12_lines 111 = .ok (.iconst 0, 1) := by decide +kernel
theorem dX12_lines_112 : decode cX12_lines 112 = .ok (.invokevirtual 310, 3) := by decide +kernel
theorem dX12_lines_115 : decode cX12_lines 115 = .ok (.ifCond .ne 5, 3) := by decide +kernel
theorem dX12_lines_118 : decode cX12_lines 118 = .ok (.iconst 0, 1) := by decide +kernel
theorem dX12_lines_119 : decode cX12_lines 119 = .ok (.ireturn, 1) := by decide +kernel
theorem dX12_lines_120 : decode cX12_lines 120 = .ok (.aload_n 0, 1) := by decide +kernel
theorem dX12_lines_121 : decode cX12_lines 121 = .ok (.aload_n 0, 1) := by decide +kernel
theorem dX12_lines_122 : decode cX12_lines 122 = .ok (.getfield 81, 3) := by decide +kernel
theorem dX12_lines_125 : decode cX12_lines 125 = .ok (.iconst 1, 1) := by decide +kernel
theorem dX12_lines_126 : decode cX12_lines 126 = .ok (.laload, 1) := by decide +kernel
theorem dX12_lines_127 : decode cX12_lines 127 = .ok (.aload_n 0, 1) := by decide +kernel
theorem dX12_lines_128 : decode cX12_lines 128 = .ok (.getfield 85, 3) := by decide +kernel
theorem dX12_lines_131 : decode cX12_lines 131 = .ok (.iconst 1, 1) := by decide +kernel
theorem dX12_lines_132 : decode cX12_lines 132 = .ok (.laload, 1) := by decide +kernel
theorem dX12_lines_133 : decode cX12_lines 133 = .ok (.invokevirtual 306, 3) := by decide +kernel
theorem dX12_lines_136 : decode cX12_lines 136 = .ok (.ifCond .ne 23, 3) := by decide +kernel
theorem dX12_lines_139 : decode cX12_lines 139 = .ok (.aload_n 0, 1) := by decide +kernel
theorem dX12_lines_140 : decode cX12_lines 140 = .ok (.aload_n 0, 1) := by decide +kernel
theorem dX12_lines_141 : decode cX12_lines 141 = .ok (.getfield 81, 3) := by decide +kernel
theorem dX12_lines_144 : decode cX12_lines 144 = .ok (.iconst 1, 1) := by decide +kernel
theorem dX12_lines_145 : decode cX12_lines 145 = .ok (.laload, 1) := by decide +kernel
theorem dX12_lines_146 : decode cX12_lines 146 = .ok (.aload_n 0, 1) := by decide +kernel
theorem dX12_lines_147 : decode cX12_lines 147 = .ok (.getfield 85, 3) := by decide +kernel
theorem dX12_lines_150 : decode cX12_lines 150 = .ok (.iconst 1, 1) := by decide +kernel
theorem dX12_lines_151 : decode cX12_lines 151 = .ok (.laload, 1) := by decide +kernel
theorem dX12_lines_152 : decode cX12_lines 152 = .ok (.iconst 1, 1) := by decide +kernel
theorem dX12_lines_153 : decode cX12_lines 153 = .ok (.invokevirtual 310, 3) := by decide +kernel
theorem dX12_lines_156 : decode cX12_lines 156 = .ok (.ifCond .eq 7, 3) := by decide +kernel
theorem dX12_lines_159 : decode cX12_lines 159 = .ok (.iconst 1, 1) := by decide +kernel
theorem dX12_lines_160 : decode cX12_lines 160 = .ok (.goto 4, 3) := by decide +kernel
theorem dX12_lines_163 : decode cX12_lines 163 = .ok (.iconst 0, 1) := by decide +kernel
theorem dX12_lines_164 : decode cX12_lines 164 = .ok (.ireturn, 1) := by decide +kernel
theorem dX12_opens_0 : decode cX12_opens 0 = .ok (.aload_n 0, 1) := by decide +kernel
theorem dX12_opens_1 : decode cX12_opens 1 = .ok (.getfield 69, 3) := by decide +kernel
theorem dX12_opens_4 : decode cX12_opens 4 = .ok (.iconst 0, 1) := by decide +kernel
theorem dX12_opens_5 : decode cX12_opens 5 = .ok (.aload_n 0, 1) := by decide +kernel
theorem dX12_opens_6 : decode cX12_opens 6 = .ok (.getfield 38, 3) := by decide +kernel
theorem dX12_opens_9 : decode cX12_opens 9 = .ok (.iconst 5, 1) := by decide +kernel
theorem dX12_opens_10 : decode cX12_opens 10 = .ok (.iload_n 1, 1) := by decide +kernel
theorem dX12_opens_11 : decode cX12_opens 11 = .ok (.imul, 1) := by decide +kernel
theorem dX12_opens_12 : decode cX12_opens 12 = .ok (.iaload, 1) := by decide +kernel
theorem dX12_opens_13 : decode cX12_opens 13 = .ok (.iastore, 1) := by decide +kernel
theorem dX12_opens_14 : decode cX12_opens 14 = .ok (.aload_n 0, 1) := by decide +kernel
theorem dX12_opens_15 : decode cX12_opens 15 = .ok (.getfield 69, 3) := by decide +kernel
theorem dX12_opens_18 : decode cX12_opens 18 = .ok (.iconst 1, 1) := by decide +kernel
theorem dX12_opens_19 : decode cX12_opens 19 = .ok (.aload_n 0, 1) := by decide +kernel
theorem dX12_opens_20 : decode cX12_opens 20 = .ok (.getfield 38, 3) := by decide +kernel
theorem dX12_opens_23 : decode cX12_opens 23 = .ok (.iconst 5, 1) := by decide +kernel
theorem dX12_opens_24 : decode cX12_opens 24 = .ok (.iload_n 1, 1) := by decide +kernel
theorem dX12_opens_25 : decode cX12_opens 25 = .ok (.imul, 1) := by decide +kernel
theorem dX12_opens_26 : decode cX12_opens 26 = .ok (.iconst 2, 1) := by decide +kernel
theorem dX12_opens_27 : decode cX12_opens 27 = .ok (.iadd, 1) := by decide +kernel
theorem dX12_opens_28 : decode cX12_opens 28 = .ok (.iaload, 1) := by decide +kernel
theorem dX12_opens_29 : decode cX12_opens 29 = .ok (.aload_n 0, 1) := by decide +kernel
theorem dX12_opens_30 : decode cX12_opens 30 = .ok (.getfield 13, 3) := by decide +kernel
theorem dX12_opens_33 : decode cX12_opens 33 = .ok (.if_icmp .ge 16, 3) := by decide +kernel
theorem dX12_opens_36 : decode cX12_opens 36 = .ok (.aload_n 0, 1) := by decide +kernel
theorem dX12_opens_37 : decode cX12_opens 37 = .ok (.getfield 38, 3) := by decide +kernel
theorem dX12_opens_40 : decode cX12_opens 40 = .ok (.iconst 5, 1) := by decide +kernel
theorem dX12_opens_41 : decode cX12_opens 41 = .ok (.iload_n 1, 1) := by decide +kernel
theorem dX12_opens_42 : decode cX12_opens 42 = .ok (.imul, 1) := by decide +kernel
theorem dX12_opens_43 : decode cX12_opens 43 = .ok (.iconst 2, 1) := by decide +kernel
theorem dX12_opens_44 : decode cX12_opens 44 = .ok (.iadd, 1) := by decide +kernel
theorem dX12_opens_45 : decode cX12_opens 45 = .ok (.iaload, 1) := by decide +kernel
theorem dX12_opens_46 : decode cX12_opens 46 = .ok (.goto 7, 3) := by decide +kernel
theorem dX12_opens_49 : decode cX12_opens 49 = .ok (.aload_n 0, 1) := by decide +kernel
theorem dX12_opens_50 : decode cX12_opens 50 = .ok (.getfield 13, 3) := by decide +kernel
theorem dX12_opens_53 : decode cX12_opens 53 = .ok (.iastore, 1) := by decide +kernel
theorem dX12_opens_54 : decode cX12_opens 54 = .ok (.aload_n 0, 1) := by decide +kernel
theorem dX12_opens_55 : decode cX12_opens 55 = .ok (.getfield 69, 3) := by decide +kernel
theorem dX12_opens_58 : decode cX12_opens 58 = .ok (.iconst 2, 1) := by decide +kernel
theorem dX12_opens_59 : decode cX12_opens 59 = .ok (.aload_n 0, 1) := by decide +kernel
theorem dX12_opens_60 : decode cX12_opens 60 = .ok (.getfield 38, 3) := by decide +kernel
theorem dX12_opens_63 : decode cX12_opens 63 = .ok (.iconst 5, 1) := by decide +kernel
theorem dX12_opens_64 : decode cX12_opens 64 = .ok (.iload_n 1, 1) := by decide +kernel
theorem dX12_opens_65 : decode cX12_opens 65 = .ok (.imul, 1) := by decide +kernel
theorem dX12_opens_66 : decode cX12_opens 66 = .ok (.iconst 1, 1) := by decide +kernel
theorem dX12_opens_67 : decode cX12_opens 67 = .ok (.iadd, 1) := by decide +kernel
theorem dX12_opens_68 : decode cX12_opens 68 = .ok (.iaload, 1) := by decide +kernel
theorem dX12_opens_69 : decode cX12_opens 69 = .ok (.iconst 1, 1) := by decide +kernel
theorem dX12_opens_70 : decode cX12_opens 70 = .ok (.if_icmp .le 16, 3) := by decide +kernel
theorem dX12_opens_73 : decode cX12_opens 73 = .ok (.aload_n 0, 1) := by decide +kernel
theorem dX12_opens_74 : decode cX12_opens 74 = .ok (.getfield 38, 3) := by decide +kernel
theorem dX12_opens_77 : decode cX12_opens 77 = .ok (.iconst 5, 1) := by decide +kernel
theorem dX12_opens_78 : decode cX12_opens 78 = .ok (.iload_n 1, 1) := by decide +kernel
theorem dX12_opens_79 : decode cX12_opens 79 = .ok (.imul, 1) := by decide +kernel
theorem dX12_opens_80 : decode cX12_opens 80 = .ok (.iconst 1, 1) := by decide +kernel
theorem dX12_opens_81 : decode cX12_opens 81 = .ok (.iadd, 1) := by decide +kernel
theorem dX12_opens_82 : decode cX12_opens 82 = .ok (.iaload, 1) := by decide +kernel
theorem dX12_opens_83 : decode cX12_opens 83 = .ok (.goto 4, 3) := by decide +kernel
theorem dX12_opens_86 : decode cX12_opens 86 = .ok (.iconst 1, 1) := by decide +kernel
theorem dX12_opens_87 : decode cX12_opens 87 = .ok (.iastore, 1) := by decide +kernel
theorem dX12_opens_88 : decode cX12_opens 88 = .ok (.aload_n 0, 1) := by decide +kernel
theorem dX12_opens_89 : decode cX12_opens 89 = .ok (.getfield 69, 3) := by decide +kernel
theorem dX12_opens_92 : decode cX12_opens 92 = .ok (.iconst 3, 1) := by decide +kernel
theorem dX12_opens_93 : decode cX12_opens 93 = .ok (.aload_n 0, 1) := by decide +kernel
theorem dX12_opens_94 : decode cX12_opens 94 = .ok (.getfield 38, 3) := by decide +kernel
theorem dX12_opens_97 : decode cX12_opens 97 = .ok (.iconst 5, 1) := by decide +kernel
theorem dX12_opens_98 : decode cX12_opens 98 = .ok (.iload_n 1, 1) := by decide +kernel
theorem dX12_opens_99 : decode cX12_opens 99 = .ok (.imul, 1) := by decide +kernel
theorem dX12_opens_100 : decode cX12_opens 100 = .ok (.iconst 3, 1) := by decide +kernel
theorem dX12_opens_101 : decode cX12_opens 101 = .ok (.iadd, 1) := by decide +kernel
theorem dX12_opens_102 : decode cX12_opens 102 = .ok (.iaload, 1) := by decide +kernel
theorem dX12_opens_103 : decode cX12_opens 103 = .ok (.aload_n 0, 1) := by decide +kernel
theorem dX12_opens_104 : decode cX12_opens 104 = .ok (.getfield 17, 3) := by decide +kernel
theorem dX12_opens_107 : decode cX12_opens 107 = .ok (.if_icmp .ge 16, 3) := by decide +kernel
theorem dX12_opens_110 : decode cX12_opens 110 = .ok (.aload_n 0, 1) := by decide +kernel
theorem dX12_opens_111 : decode cX12_opens 111 = .ok (.getfield 38, 3) := by decide +kernel
theorem dX12_opens_114 : decode cX12_opens 114 = .ok (.iconst 5, 1) := by decide +kernel
theorem dX12_opens_115 : decode cX12_opens 115 = .ok (.iload_n 1, 1) := by decide +kernel
theorem dX12_opens_116 : decode cX12_opens 116 = .ok (.imul, 1) := by decide +kernel
theorem dX12_opens_117 : decode cX12_opens 117 = .ok (.iconst 3, 1) := by decide +kernel
theorem dX12_opens_118 : decode cX12_opens 118 = .ok (.iadd, 1) := by decide +kernel
theorem dX12_opens_119 : decode cX12_opens 119 = .ok (.iaload, 1) := by decide +kernel
theorem dX12_opens_120 : decode cX12_opens 120 = .ok (.goto 7, 3) := by decide +kernel
theorem dX12_opens_123 : decode cX12_opens 123 = .ok (.aload_n 0, 1) := by decide +kernel
theorem dX12_opens_124 : decode cX12_opens 124 = .ok (.getfield 17, 3) := by decide +kernel
theorem dX12_opens_127 : decode cX12_opens 127 = .ok (.iastore, 1) := by decide +kernel
theorem dX12_opens_128 : decode cX12_opens 128 = .ok (.return_, 1) := by decide +kernel
theorem dX12_puts_0 : decode cX12_puts 0 = .ok (.aload_n 0, 1) := by decide +kernel
theorem dX12_puts_1 : decode cX12_puts 1 = .ok (.getfield 38, 3) := by decide +kernel
theorem dX12_puts_4 : decode cX12_puts 4 = .ok (.iconst 5, 1) := by decide +kernel
theorem dX12_puts_5 : decode cX12_puts 5 = .ok (.iload_n 1, 1) := by decide +kernel
theorem dX12_puts_6 : decode cX12_puts 6 = .ok (.imul, 1) := by decide +kernel
theorem dX12_puts_7 : decode cX12_puts 7 = .ok (.iaload, 1) := by decide +kernel
theorem dX12_puts_8 : decode cX12_puts 8 = .ok (.istore_n 2, 1) := by decide +kernel
theorem dX12_puts_9 : decode cX12_puts 9 = .ok (.aload_n 0, 1) := by decide +kernel
theorem dX12_puts_10 : decode cX12_puts 10 = .ok (.getfield 38, 3) := by decide +kernel
theorem dX12_puts_13 : decode cX12_puts 13 = .ok (.iconst 5, 1) := by decide +kernel
theorem dX12_puts_14 : decode cX12_puts 14 = .ok (.iload_n 1, 1) := by decide +kernel
theorem dX12_puts_15 : decode cX12_puts 15 = .ok (.imul, 1) := by decide +kernel
theorem dX12_puts_16 : decode cX12_puts 16 = .ok (.iconst 1, 1) := by decide +kernel
theorem dX12_puts_17 : decode cX12_puts 17 = .ok (.iadd, 1) := by decide +kernel
theorem dX12_puts_18 : decode cX12_puts 18 = .ok (.iaload, 1) := by decide +kernel
theorem dX12_puts_19 : decode cX12_puts 19 = .ok (.istore_n 3, 1) := by decide +kernel
theorem dX12_puts_20 : decode cX12_puts 20 = .ok (.aload_n 0, 1) := by decide +kernel
theorem dX12_puts_21 : decode cX12_puts 21 = .ok (.getfield 38, 3) := by decide +kernel
theorem dX12_puts_24 : decode cX12_puts 24 = .ok (.iconst 5, 1) := by decide +kernel
theorem dX12_puts_25 : decode cX12_puts 25 = .ok (.iload_n 1, 1) := by decide +kernel
theorem dX12_puts_26 : decode cX12_puts 26 = .ok (.imul, 1) := by decide +kernel
theorem dX12_puts_27 : decode cX12_puts 27 = .ok (.iconst 2, 1) := by decide +kernel
theorem dX12_puts_28 : decode cX12_puts 28 = .ok (.iadd, 1) := by decide +kernel
theorem dX12_puts_29 : decode cX12_puts 29 = .ok (.iaload, 1) := by decide +kernel
theorem dX12_puts_30 : decode cX12_puts 30 = .ok (.istore 4, 2) := by decide +kernel
theorem dX12_puts_32 : decode cX12_puts 32 = .ok (.aload_n 0, 1) := by decide +kernel
theorem dX12_puts_33 : decode cX12_puts 33 = .ok (.getfield 38, 3) := by decide +kernel
theorem dX12_puts_36 : decode cX12_puts 36 = .ok (.iconst 5, 1) := by decide +kernel
theorem dX12_puts_37 : decode cX12_puts 37 = .ok (.iload_n 1, 1) := by decide +kernel
theorem dX12_puts_38 : decode cX12_puts 38 = .ok (.imul, 1) := by decide +kernel
theorem dX12_puts_39 : decode cX12_puts 39 = .ok (.iconst 3, 1) := by decide +kernel
theorem dX12_puts_40 : decode cX12_puts 40 = .ok (.iadd, 1) := by decide +kernel
theorem dX12_puts_41 : decode cX12_puts 41 = .ok (.iaload, 1) := by decide +kernel
theorem dX12_puts_42 : decode cX12_puts 42 = .ok (.istore 5, 2) := by decide +kernel
theorem dX12_puts_44 : decode cX12_puts 44 = .ok (.bipush 12, 2) := by decide +kernel
theorem dX12_puts_46 : decode cX12_puts 46 = .ok (.iload_n 2, 1) := by decide +kernel
theorem dX12_puts_47 : decode cX12_puts 47 = .ok (.imul, 1) := by decide +kernel
theorem dX12_puts_48 : decode cX12_puts 48 = .ok (.istore 6, 2) := by decide +kernel
theorem dX12_puts_50 : decode cX12_puts 50 = .ok (.iload 6, 2) := by decide +kernel
theorem dX12_puts_52 : decode cX12_puts 52 = .ok (.bipush 12, 2) := by decide +kernel
theorem dX12_puts_54 : decode cX12_puts 54 = .ok (.iload_n 2, 1) := by decide +kernel
theorem dX12_puts_55 : decode cX12_puts 55 = .ok (.imul, 1) := by decide +kernel
theorem dX12_puts_56 : decode cX12_puts 56 = .ok (.aload_n 0, 1) := by decide +kernel
theorem dX12_puts_57 : decode cX12_puts 57 = .ok (.getfield 50, 3) := by decide +kernel
theorem dX12_puts_60 : decode cX12_puts 60 = .ok (.iload_n 2, 1) := by decide +kernel
theorem dX12_puts_61 : decode cX12_puts 61 = .ok (.iaload, 1) := by decide +kernel
theorem dX12_puts_62 : decode cX12_puts 62 = .ok (.iadd, 1) := by decide +kernel
theorem dX12_puts_63 : decode cX12_puts 63 = .ok (.iconst 1, 1) := by decide +kernel
theorem dX12_puts_64 : decode cX12_puts 64 = .ok (.isub, 1) := by decide +kernel
theorem dX12_puts_65 : decode cX12_puts 65 = .ok (.if_icmp .ge 72, 3) := by decide +kernel
theorem dX12_puts_68 : decode cX12_puts 68 = .ok (.aload_n 0, 1) := by decide +kernel
theorem dX12_puts_69 : decode cX12_puts 69 = .ok (.iload_n 3, 1) := by decide +kernel
theorem dX12_puts_70 : decode cX12_puts 70 = .ok (.iload 5, 2) := by decide +kernel
theorem dX12_puts_72 : decode cX12_puts 72 = .ok (.aload_n 0, 1) := by decide +kernel
theorem dX12_puts_73 : decode cX12_puts 73 = .ok (.getfield 53, 3) := by decide +kernel
theorem dX12_puts_76 : decode cX12_puts 76 = .ok (.iload 6, 2) := by decide +kernel
theorem dX12_puts_78 : decode cX12_puts 78 = .ok (.iaload, 1) := by decide +kernel
theorem dX12_puts_79 : decode cX12_puts 79 = .ok (.imul, 1) := by decide +kernel
theorem dX12_puts_80 : decode cX12_puts 80 = .ok (.iadd, 1) := by decide +kernel
theorem dX12_puts_81 : decode cX12_puts 81 = .ok (.iload 4, 2) := by decide +kernel
theorem dX12_puts_83 : decode cX12_puts 83 = .ok (.iload 5, 2) := by decide +kernel
theorem dX12_puts_85 : decode cX12_puts 85 = .ok (.aload_n 0, 1) := by decide +kernel
theorem dX12_puts_86 : decode cX12_puts 86 = .ok (.getfield 56, 3) := by decide +kernel
theorem dX12_puts_89 : decode cX12_puts 89 = .ok (.iload 6, 2) := by decide +kernel
theorem dX12_puts_91 : decode cX12_puts 91 = .ok (.iaload, 1) := by decide +kernel
theorem dX12_puts_92 : decode cX12_puts 92 = .ok (.imul, 1) := by decide +kernel
theorem dX12_puts_93 : decode cX12_puts 93 = .ok (.iadd, 1) := by decide +kernel
theorem dX12_puts_94 : decode cX12_puts 94 = .ok (.iload_n 3, 1) := by decide +kernel
theorem dX12_puts_95 : decode cX12_puts 95 = .ok (.iload 5, 2) := by decide +kernel
theorem dX12_puts_97 : decode cX12_puts 97 = .ok (.aload_n 0, 1) := by decide +kernel
theorem dX12_puts_98 : decode cX12_puts 98 = .ok (.getfield 53, 3) := by decide +kernel
theorem dX12_puts_101 : decode cX12_puts 101 = .ok (.iload 6, 2) := by decide +kernel
theorem dX12_puts_103 : decode cX12_puts 103 = .ok (.iconst 1, 1) := by decide +kernel
theorem dX12_puts_104 : decode cX12_puts 104 = .ok (.iadd, 1) := by decide +kernel
theorem dX12_puts_105 : decode cX12_puts 105 = .ok (.iaload, 1) := by decide +kernel
theorem dX12_puts_106 : decode cX12_puts 106 = .ok (.imul, 1) := by decide +kernel
theorem dX12_puts_107 : decode cX12_puts 107 = .ok (.iadd, 1) := by decide +kernel
theorem dX12_puts_108 : decode cX12_puts 108 = .ok (.iload 4, 2) := by decide +kernel
theorem dX12_puts_110 : decode cX12_puts 110 = .ok (.iload 5, 2) := by decide +kernel
theorem dX12_puts_112 : decode cX12_puts 112 = .ok (.aload_n 0, 1) := by decide +kernel
theorem dX12_puts_113 : decode cX12_puts 113 = .ok (.getfield 56, 3) := by decide +kernel
theorem dX12_puts_116 : decode cX12_puts 116 = .ok (.iload 6, 2) := by decide +kernel
theorem dX12_puts_118 : decode cX12_puts 118 = .ok (.iconst 1, 1) := by decide +kernel
theorem dX12_puts_119 : decode cX12_puts 119 = .ok (.iadd, 1) := by decide +kernel
theorem dX12_puts_120 : decode cX12_puts 120 = .ok (.iaload, 1) := by decide +kernel
theorem dX12_puts_121 : decode cX12_puts 121 = .ok (.imul, 1) := by decide +kernel
theorem dX12_puts_122 : decode cX12_puts 122 = .ok (.iadd, 1) := by decide +kernel
theorem dX12_puts_123 : decode cX12_puts 123 = .ok (.invokevirtual 314, 3) := by decide +kernel
theorem dX12_puts_126 : decode cX12_puts 126 = .ok (.ifCond .ne 5, 3) := by decide +kernel
theorem dX12_puts_129 : decode cX12_puts 129 = .ok (.iconst 0, 1) := by decide +kernel
theorem dX12_puts_130 : decode cX12_puts 130 = .ok (.ireturn, 1) := by decide +kernel
theorem dX12_puts_131 : decode cX12_puts 131 = .ok (.iinc 6 1, 3) := by decide +kernel
theorem dX12_puts_134 : decode cX12_puts 134 = .ok (.goto (-84), 3) := by decide +kernel
theorem dX12_puts_137 : decode cX12_puts 137 = .ok (.iconst 1, 1) := by decide +kernel
theorem dX12_puts_138 : decode cX12_puts 138 = .ok (.ireturn, 1) := by decide +kernel
theorem dX12_hatches_0 : decode cX12_hatches 0 = .ok (.aload_n 0, 1) := by decide +kernel
theorem dX12_hatches_1 : decode cX12_hatches 1 = .ok (.getfield 38, 3) := by decide +kernel
theorem dX12_hatches_4 : decode cX12_hatches 4 = .ok (.iconst 5, 1) := by decide +kernel
theorem dX12_hatches_5 : decode cX12_hatches 5 = .ok (.iload_n 1, 1) := by decide +kernel
theorem dX12_hatches_6 : decode cX12_hatches 6 = .ok (.imul, 1) := by decide +kernel
theorem dX12_hatches_7 : decode cX12_hatches 7 = .ok (.iaload, 1) := by decide +kernel
theorem dX12_hatches_8 : decode cX12_hatches 8 = .ok (.istore_n 2, 1) := by decide +kernel
theorem dX12_hatches_9 : decode cX12_hatches 9 = .ok (.aload_n 0, 1) := by decide +kernel
theorem dX12_hatches_10 : decode cX12_hatches 10 = .ok (.getfield 38, 3) := by decide +kernel
theorem dX12_hatches_13 : decode cX12_hatches 13 = .ok (.iconst 5, 1) := by decide +kernel
theorem dX12_hatches_14 : decode cX12_hatches 14 = .ok (.iload_n 1, 1) := by decide +kernel
theorem dX12_hatches_15 : decode cX12_hatches 15 = .ok (.imul, 1) := by decide +kernel
theorem dX12_hatches_16 : decode cX12_hatches 16 = .ok (.iconst 2, 1) := by decide +kernel
theorem dX12_hatches_17 : decode cX12_hatches 17 = .ok (.iadd, 1) := by decide +kernel
theorem dX12_hatches_18 : decode cX12_hatches 18 = .ok (.iaload, 1) := by decide +kernel
theorem dX12_hatches_19 : decode cX12_hatches 19 = .ok (.istore_n 3, 1) := by decide +kernel
theorem dX12_hatches_20 : decode cX12_hatches 20 = .ok (.iconst 0, 1) := by decide +kernel
theorem dX12_hatches_21 : decode cX12_hatches 21 = .ok (.istore 4, 2) := by decide +kernel
theorem dX12_hatches_23 : decode cX12_hatches 23 = .ok (.aload_n 0, 1) := by decide +kernel
theorem dX12_hatches_24 : decode cX12_hatches 24 = .ok (.getfield 38, 3) := by decide +kernel
theorem dX12_hatches_27 : decode cX12_hatches 27 = .ok (.iconst 5, 1) := by decide +kernel
theorem dX12_hatches_28 : decode cX12_hatches 28 = .ok (.iload_n 1, 1) := by decide +kernel
theorem dX12_hatches_29 : decode cX12_hatches 29 = .ok (.imul, 1) := by decide +kernel
theorem dX12_hatches_30 : decode cX12_hatches 30 = .ok (.iconst 1, 1) := by decide +kernel
theorem dX12_hatches_31 : decode cX12_hatches 31 = .ok (.iadd, 1) := by decide +kernel
theorem dX12_hatches_32 : decode cX12_hatches 32 = .ok (.iaload, 1) := by decide +kernel
theorem dX12_hatches_33 : decode cX12_hatches 33 = .ok (.istore 5, 2) := by decide +kernel
theorem dX12_hatches_35 : decode cX12_hatches 35 = .ok (.iload 5, 2) := by decide +kernel
theorem dX12_hatches_37 : decode cX12_hatches 37 = .ok (.aload_n 0, 1) := by decide +kernel
theorem dX12_hatches_38 : decode cX12_hatches 38 = .ok (.getfield 38, 3) := by decide +kernel
theorem dX12_hatches_41 : decode cX12_hatches 41 = .ok (.iconst 5, 1) := by decide +kernel
theorem dX12_hatches_42 : decode cX12_hatches 42 = .ok (.iload_n 1, 1) := by decide +kernel
theorem dX12_hatches_43 : decode cX12_hatches 43 = .ok (.imul, 1) := by decide +kernel
theorem dX12_hatches_44 : decode cX12_hatches 44 = .ok (.iconst 3, 1) := by decide +kernel
theorem dX12_hatches_45 : decode cX12_hatches 45 = .ok (.iadd, 1) := by decide +kernel
theorem dX12_hatches_46 : decode cX12_hatches 46 = .ok (.iaload, 1) := by decide +kernel
theorem dX12_hatches_47 : decode cX12_hatches 47 = .ok (.if_icmp .gt 66, 3) := by decide +kernel
theorem dX12_hatches_50 : decode cX12_hatches 50 = .ok (.aload_n 0, 1) := by decide +kernel
theorem dX12_hatches_51 : decode cX12_hatches 51 = .ok (.iload 4, 2) := by decide +kernel
theorem dX12_hatches_53 : decode cX12_hatches 53 = .ok (.ifCond .eq 7, 3) := by decide +kernel
theorem dX12_hatches_56 : decode cX12_hatches 56 = .ok (.iload_n 3, 1) := by decide +kernel
theorem dX12_hatches_57 : decode cX12_hatches 57 = .ok (.goto 4, 3) := by decide +kernel
theorem dX12_hatches_60 : decode cX12_hatches 60 = .ok (.iload_n 2, 1) := by decide +kernel
theorem dX12_hatches_61 : decode cX12_hatches 61 = .ok (.iload 5, 2) := by decide +kernel
theorem dX12_hatches_63 : decode cX12_hatches 63 = .ok (.iload 4, 2) := by decide +kernel
theorem dX12_hatches_65 : decode cX12_hatches 65 = .ok (.ifCond .eq 7, 3) := by decide +kernel
theorem dX12_hatches_68 : decode cX12_hatches 68 = .ok (.iload_n 2, 1) := by decide +kernel
theorem dX12_hatches_69 : decode cX12_hatches 69 = .ok (.goto 4, 3) := by decide +kernel
theorem dX12_hatches_72 : decode cX12_hatches 72 = .ok (.iload_n 3, 1) := by decide +kernel
theorem dX12_hatches_73 : decode cX12_hatches 73 = .ok (.iload 5, 2) := by decide +kernel
theorem dX12_hatches_75 : decode cX12_hatches 75 = .ok (.invokevirtual 314, 3) := by decide +kernel
theorem dX12_hatches_78 : decode cX12_hatches 78 = .ok (.ifCond .ne 5, 3) := by decide +kernel
theorem dX12_hatches_81 : decode cX12_hatches 81 = .ok (.iconst 0, 1) := by decide +kernel
theorem dX12_hatches_82 : decode cX12_hatches 82 = .ok (.ireturn, 1) := by decide +kernel
theorem dX12_hatches_83 : decode cX12_hatches 83 = .ok (.iload 4, 2) := by decide +kernel
theorem dX12_hatches_85 : decode cX12_hatches 85 = .ok (.ifCond .ne 7, 3) := by decide +kernel
theorem dX12_hatches_88 : decode cX12_hatches 88 = .ok (.iconst 1, 1) := by decide +kernel
theorem dX12_hatches_89 : decode cX12_hatches 89 = .ok (.goto 4, 3) := by decide +kernel
theorem dX12_hatches_92 : decode cX12_hatches 92 = .ok (.iconst 0, 1) := by decide +kernel
theorem dX12_hatches_93 : decode cX12_hatches 93 = .ok (.istore 4, 2) := by decide +kernel
theorem dX12_hatches_95 : decode cX12_hatches 95 = .ok (.iload 5, 2) := by decide +kernel
theorem dX12_hatches_97 : decode cX12_hatches 97 = .ok (.aload_n 0, 1) := by decide +kernel
theorem dX12_hatches_98 : decode cX12_hatches 98 = .ok (.getfield 38, 3) := by decide +kernel
theorem dX12_hatches_101 : decode cX12_hatches 101 = .ok (.iconst 5, 1) := by decide +kernel
theorem dX12_hatches_102 : decode cX12_hatches 102 = .ok (.iload_n 1, 1) := by decide +kernel
theorem dX12_hatches_103 : decode cX12_hatches 103 = .ok (.imul, 1) := by decide +kernel
theorem dX12_hatches_104 : decode cX12_hatches 104 = .ok (.iconst 4, 1) := by decide +kernel
theorem dX12_hatches_105 : decode cX12_hatches 105 = .ok (.iadd, 1) := by decide +kernel
theorem dX12_hatches_106 : decode cX12_hatches 106 = .ok (.iaload, 1) := by decide +kernel
theorem dX12_hatches_107 : decode cX12_hatches 107 = .ok (.iadd, 1) := by decide +kernel
theorem dX12_hatches_108 : decode cX12_hatches 108 = .ok (.istore 5, 2) := by decide +kernel
theorem dX12_hatches_110 : decode cX12_hatches 110 = .ok (.goto (-75), 3) := by decide +kernel
theorem dX12_hatches_113 : decode cX12_hatches 113 = .ok (.iconst 1, 1) := by decide +kernel
theorem dX12_hatches_114 : decode cX12_hatches 114 = .ok (.ireturn, 1) := by decide +kernel
theorem dX12_lifts_0 : decode cX12_lifts 0 = .ok (.aload_n 0, 1) := by decide +kernel
theorem dX12_lifts_1 : decode cX12_lifts 1 = .ok (.getfield 38, 3) := by decide +kernel
theorem dX12_lifts_4 : decode cX12_lifts 4 = .ok (.iconst 5, 1) := by decide +kernel
theorem dX12_lifts_5 : decode cX12_lifts 5 = .ok (.iload_n 1, 1) := by decide +kernel
theorem dX12_lifts_6 : decode cX12_lifts 6 = .ok (.imul, 1) := by decide +kernel
theorem dX12_lifts_7 : decode cX12_lifts 7 = .ok (.iaload, 1) := by decide +kernel
theorem dX12_lifts_8 : decode cX12_lifts 8 = .ok (.aload_n 0, 1) := by decide +kernel
theorem dX12_lifts_9 : decode cX12_lifts 9 = .ok (.getfield 297, 3) := by decide +kernel
theorem dX12_lifts_12 : decode cX12_lifts 12 = .ok (.iadd, 1) := by decide +kernel
theorem dX12_lifts_13 : decode cX12_lifts 13 = .ok (.istore_n 2, 1) := by decide +kernel
theorem dX12_lifts_14 : decode cX12_lifts 14 = .ok (.aload_n 0, 1) := by decide +kernel
theorem dX12_lifts_15 : decode cX12_lifts 15 = .ok (.getfield 38, 3) := by decide +kernel
theorem dX12_lifts_18 : decode cX12_lifts 18 = .ok (.iconst 5, 1) := by decide +kernel
theorem dX12_lifts_19 : decode cX12_lifts 19 = .ok (.iload_n 1, 1) := by decide +kernel
theorem dX12_lifts_20 : decode cX12_lifts 20 = .ok (.imul, 1) := by decide +kernel
theorem dX12_lifts_21 : decode cX12_lifts 21 = .ok (.iconst 1, 1) := by decide +kernel
theorem dX12_lifts_22 : decode cX12_lifts 22 = .ok (.iadd, 1) := by decide +kernel
theorem dX12_lifts_23 : decode cX12_lifts 23 = .ok (.iaload, 1) := by decide +kernel
theorem dX12_lifts_24 : decode cX12_lifts 24 = .ok (.aload_n 0, 1) := by decide +kernel
theorem dX12_lifts_25 : decode cX12_lifts 25 = .ok (.getfield 300, 3) := by decide +kernel
theorem dX12_lifts_28 : decode cX12_lifts 28 = .ok (.iadd, 1) := by decide +kernel
theorem dX12_lifts_29 : decode cX12_lifts 29 = .ok (.istore_n 3, 1) := by decide +kernel
theorem dX12_lifts_30 : decode cX12_lifts 30 = .ok (.iload_n 2, 1) := by decide +kernel
theorem dX12_lifts_31 : decode cX12_lifts 31 = .ok (.aload_n 0, 1) := by decide +kernel
theorem dX12_lifts_32 : decode cX12_lifts 32 = .ok (.getfield 69, 3) := by decide +kernel
theorem dX12_lifts_35 : decode cX12_lifts 35 = .ok (.iconst 0, 1) := by decide +kernel
theorem dX12_lifts_36 : decode cX12_lifts 36 = .ok (.iaload, 1) := by decide +kernel
theorem dX12_lifts_37 : decode cX12_lifts 37 = .ok (.if_icmp .lt 44, 3) := by decide +kernel
theorem dX12_lifts_40 : decode cX12_lifts 40 = .ok (.iload_n 2, 1) := by decide +kernel
theorem dX12_lifts_41 : decode cX12_lifts 41 = .ok (.aload_n 0, 1) := by decide +kernel
theorem dX12_lifts_42 : decode cX12_lifts 42 = .ok (.getfield 69, 3) := by decide +kernel
theorem dX12_lifts_45 : decode cX12_lifts 45 = .ok (.iconst 1, 1) := by decide +kernel
theorem dX12_lifts_46 : decode cX12_lifts 46 = .ok (.iaload, 1) := by decide +kernel
theorem dX12_lifts_47 : decode cX12_lifts 47 = .ok (.if_icmp .gt 34, 3) := by decide +kernel
theorem dX12_lifts_50 : decode cX12_lifts 50 = .ok (.iload_n 3, 1) := by decide +kernel
theorem dX12_lifts_51 : decode cX12_lifts 51 = .ok (.aload_n 0, 1) := by decide +kernel
theorem dX12_lifts_52 : decode cX12_lifts 52 = .ok (.getfield 69, 3) := by decide +kernel
theorem dX12_lifts_55 : decode cX12_lifts 55 = .ok (.iconst 2, 1) := by decide +kernel
theorem dX12_lifts_56 : decode cX12_lifts 56 = .ok (.iaload, 1) := by decide +kernel
theorem dX12_lifts_57 : decode cX12_lifts 57 = .ok (.if_icmp .lt 24, 3) := by decide +kernel
theorem dX12_lifts_60 : decode cX12_lifts 60 = .ok (.iload_n 3, 1) := by decide +kernel
theorem dX12_lifts_61 : decode cX12_lifts 61 = .ok (.aload_n 0, 1) := by decide +kernel
theorem dX12_lifts_62 : decode cX12_lifts 62 = .ok (.getfield 69, 3) := by decide +kernel
theorem dX12_lifts_65 : decode cX12_lifts 65 = .ok (.iconst 3, 1) := by decide +kernel
theorem dX12_lifts_66 : decode cX12_lifts 66 = .ok (.iaload, 1) := by decide +kernel
theorem dX12_lifts_67 : decode cX12_lifts 67 = .ok (.if_icmp .gt 14, 3) := by decide +kernel
theorem dX12_lifts_70 : decode cX12_lifts 70 = .ok (.aload_n 0, 1) := by decide +kernel
theorem dX12_lifts_71 : decode cX12_lifts 71 = .ok (.iload_n 2, 1) := by decide +kernel
theorem dX12_lifts_72 : decode cX12_lifts 72 = .ok (.i2l, 1) := by decide +kernel
theorem dX12_lifts_73 : decode cX12_lifts 73 = .ok (.iload_n 3, 1) := by decide +kernel
theorem dX12_lifts_74 : decode cX12_lifts 74 = .ok (.i2l, 1) := by decide +kernel
theorem dX12_lifts_75 : decode cX12_lifts 75 = .ok (.invokevirtual 306, 3) := by decide +kernel
theorem dX12_lifts_78 : decode cX12_lifts 78 = .ok (.ifCond .eq 5, 3) := by decide +kernel
theorem dX12_lifts_81 : decode cX12_lifts 81 = .ok (.iconst 1, 1) := by decide +kernel
theorem dX12_lifts_82 : decode cX12_lifts 82 = .ok (.ireturn, 1) := by decide +kernel
theorem dX12_lifts_83 : decode cX12_lifts 83 = .ok (.aload_n 0, 1) := by decide +kernel
theorem dX12_lifts_84 : decode cX12_lifts 84 = .ok (.iload_n 2, 1) := by decide +kernel
theorem dX12_lifts_85 : decode cX12_lifts 85 = .ok (.i2l, 1) := by decide +kernel
theorem dX12_lifts_86 : decode cX12_lifts 86 = .ok (.iload_n 3, 1) := by decide +kernel
theorem dX12_lifts_87 : decode cX12_lifts 87 = .ok (.i2l, 1) := by decide +kernel
theorem dX12_lifts_88 : decode cX12_lifts 88 = .ok (.iconst 0, 1) := by decide +kernel
theorem dX12_lifts_89 : decode cX12_lifts 89 = .ok (.invokevirtual 310, 3) := by decide +kernel
theorem dX12_lifts_92 : decode cX12_lifts 92 = .ok (.ireturn, 1) := by decide +kernel
theorem dX12_does_0 : decode cX12_does 0 = .ok (.aload_n 0, 1) := by decide +kernel
theorem dX12_does_1 : decode cX12_does 1 = .ok (.getfield 35, 3) := by decide +kernel
theorem dX12_does_4 : decode cX12_does 4 = .ok (.iload_n 1, 1) := by decide +kernel
theorem dX12_does_5 : decode cX12_does 5 = .ok (.iaload, 1) := by decide +kernel
theorem dX12_does_6 : decode cX12_does 6 = .ok (.tableswitch 102 1 5 #[34, 40, 83, 89, 95], 34) := by decide +kernel
theorem dX12_does_40 : decode cX12_does 40 = .ok (.aload_n 0, 1) := by decide +kernel
theorem dX12_does_41 : decode cX12_does 41 = .ok (.iload_n 1, 1) := by decide +kernel
theorem dX12_does_42 : decode cX12_does 42 = .ok (.invokevirtual 317, 3) := by decide +kernel
theorem dX12_does_45 : decode cX12_does 45 = .ok (.ireturn, 1) := by decide +kernel
theorem dX12_does_46 : decode cX12_does 46 = .ok (.aload_n 0, 1) := by decide +kernel
theorem dX12_does_47 : decode cX12_does 47 = .ok (.aload_n 0, 1) := by decide +kernel
theorem dX12_does_48 : decode cX12_does 48 = .ok (.getfield 38, 3) := by decide +kernel
theorem dX12_does_51 : decode cX12_does 51 = .ok (.iconst 5, 1) := by decide +kernel
theorem dX12_does_52 : decode cX12_does 52 = .ok (.iload_n 1, 1) := by decide +kernel
theorem dX12_does_53 : decode cX12_does 53 = .ok (.imul, 1) := by decide +kernel
theorem dX12_does_54 : decode cX12_does 54 = .ok (.iaload, 1) := by decide +kernel
theorem dX12_does_55 : decode cX12_does 55 = .ok (.aload_n 0, 1) := by decide +kernel
theorem dX12_does_56 : decode cX12_does 56 = .ok (.getfield 38, 3) := by decide +kernel
theorem dX12_does_59 : decode cX12_does 59 = .ok (.iconst 5, 1) := by decide +kernel
theorem dX12_does_60 : decode cX12_does 60 = .ok (.iload_n 1, 1) := by decide +kernel
theorem dX12_does_61 : decode cX12_does 61 = .ok (.imul, 1) := by decide +kernel
theorem dX12_does_62 : decode cX12_does 62 = .ok (.iconst 1, 1) := by decide +kernel
theorem dX12_does_63 : decode cX12_does 63 = .ok (.iadd, 1) := by decide +kernel
theorem dX12_does_64 : decode cX12_does 64 = .ok (.iaload, 1) := by decide +kernel
theorem dX12_does_65 : decode cX12_does 65 = .ok (.aload_n 0, 1) := by decide +kernel
theorem dX12_does_66 : decode cX12_does 66 = .ok (.getfield 38, 3) := by decide +kernel
theorem dX12_does_69 : decode cX12_does 69 = .ok (.iconst 5, 1) := by decide +kernel
theorem dX12_does_70 : decode cX12_does 70 = .ok (.iload_n 1, 1) := by decide +kernel
theorem dX12_does_71 : decode cX12_does 71 = .ok (.imul, 1) := by decide +kernel
theorem dX12_does_72 : decode cX12_does 72 = .ok (.iconst 2, 1) := by decide +kernel
theorem dX12_does_73 : decode cX12_does 73 = .ok (.iadd, 1) := by decide +kernel
theorem dX12_does_74 : decode cX12_does 74 = .ok (.iaload, 1) := by decide +kernel
theorem dX12_does_75 : decode cX12_does 75 = .ok (.aload_n 0, 1) := by decide +kernel
theorem dX12_does_76 : decode cX12_does 76 = .ok (.getfield 38, 3) := by decide +kernel
theorem dX12_does_79 : decode cX12_does 79 = .ok (.iconst 5, 1) := by decide +kernel
theorem dX12_does_80 : decode cX12_does 80 = .ok (.iload_n 1, 1) := by decide +kernel
theorem dX12_does_81 : decode cX12_does 81 = .ok (.imul, 1) := by decide +kernel
theorem dX12_does_82 : decode cX12_does 82 = .ok (.iconst 3, 1) := by decide +kernel
theorem dX12_does_83 : decode cX12_does 83 = .ok (.iadd, 1) := by decide +kernel
theorem dX12_does_84 : decode cX12_does 84 = .ok (.iaload, 1) := by decide +kernel
theorem dX12_does_85 : decode cX12_does 85 = .ok (.invokevirtual 314, 3) := by decide +kernel
theorem dX12_does_88 : decode cX12_does 88 = .ok (.ireturn, 1) := by decide +kernel
theorem dX12_does_89 : decode cX12_does 89 = .ok (.aload_n 0, 1) := by decide +kernel
theorem dX12_does_90 : decode cX12_does 90 = .ok (.iload_n 1, 1) := by decide +kernel
theorem dX12_does_91 : decode cX12_does 91 = .ok (.invokevirtual 320, 3) := by decide +kernel
theorem dX12_does_94 : decode cX12_does 94 = .ok (.ireturn, 1) := by decide +kernel
theorem dX12_does_95 : decode cX12_does 95 = .ok (.aload_n 0, 1) := by decide +kernel
theorem dX12_does_96 : decode cX12_does 96 = .ok (.iload_n 1, 1) := by decide +kernel
theorem dX12_does_97 : decode cX12_does 97 = .ok (.invokevirtual 323, 3) := by decide +kernel
theorem dX12_does_100 : decode cX12_does 100 = .ok (.ireturn, 1) := by decide +kernel
theorem dX12_does_101 : decode cX12_does 101 = .ok (.aload_n 0, 1) := by decide +kernel
theorem dX12_does_102 : decode cX12_does 102 = .ok (.iload_n 1, 1) := by decide +kernel
theorem dX12_does_103 : decode cX12_does 103 = .ok (.invokevirtual 326, 3) := by decide +kernel
theorem dX12_does_106 : decode cX12_does 106 = .ok (.iconst 1, 1) := by decide +kernel
theorem dX12_does_107 : decode cX12_does 107 = .ok (.ireturn, 1) := by decide +kernel
theorem dX12_does_108 : decode cX12_does 108 = .ok (.iconst 1, 1) := by decide +kernel
theorem dX12_does_109 : decode cX12_does 109 = .ok (.ireturn, 1) := by decide +kernel
theorem dX12_keeps_0 : decode cX12_keeps 0 = .ok (.aload_n 0, 1) := by decide +kernel
theorem dX12_keeps_1 : decode cX12_keeps 1 = .ok (.getfield 78, 3) := by decide +kernel
theorem dX12_keeps_4 : decode cX12_keeps 4 = .ok (.bipush 6, 2) := by decide +kernel
theorem dX12_keeps_6 : decode cX12_keeps 6 = .ok (.iload_n 1, 1) := by decide +kernel
theorem dX12_keeps_7 : decode cX12_keeps 7 = .ok (.imul, 1) := by decide +kernel
theorem dX12_keeps_8 : decode cX12_keeps 8 = .ok (.aload_n 0, 1) := by decide +kernel
theorem dX12_keeps_9 : decode cX12_keeps 9 = .ok (.getfield 297, 3) := by decide +kernel
theorem dX12_keeps_12 : decode cX12_keeps 12 = .ok (.iastore, 1) := by decide +kernel
theorem dX12_keeps_13 : decode cX12_keeps 13 = .ok (.aload_n 0, 1) := by decide +kernel
theorem dX12_keeps_14 : decode cX12_keeps 14 = .ok (.getfield 78, 3) := by decide +kernel
theorem dX12_keeps_17 : decode cX12_keeps 17 = .ok (.bipush 6, 2) := by decide +kernel
theorem dX12_keeps_19 : decode cX12_keeps 19 = .ok (.iload_n 1, 1) := by decide +kernel
theorem dX12_keeps_20 : decode cX12_keeps 20 = .ok (.imul, 1) := by decide +kernel
theorem dX12_keeps_21 : decode cX12_keeps 21 = .ok (.iconst 1, 1) := by decide +kernel
theorem dX12_keeps_22 : decode cX12_keeps 22 = .ok (.iadd, 1) := by decide +kernel
theorem dX12_keeps_23 : decode cX12_keeps 23 = .ok (.aload_n 0, 1) := by decide +kernel
theorem dX12_keeps_24 : decode cX12_keeps 24 = .ok (.getfield 300, 3) := by decide +kernel
theorem dX12_keeps_27 : decode cX12_keeps 27 = .ok (.iastore, 1) := by decide +kernel
theorem dX12_keeps_28 : decode cX12_keeps 28 = .ok (.iconst 0, 1) := by decide +kernel
theorem dX12_keeps_29 : decode cX12_keeps 29 = .ok (.istore_n 2, 1) := by decide +kernel
theorem dX12_keeps_30 : decode cX12_keeps 30 = .ok (.iload_n 2, 1) := by decide +kernel
theorem dX12_keeps_31 : decode cX12_keeps 31 = .ok (.iconst 4, 1) := by decide +kernel
theorem dX12_keeps_32 : decode cX12_keeps 32 = .ok (.if_icmp .ge 28, 3) := by decide +kernel
theorem dX12_keeps_35 : decode cX12_keeps 35 = .ok (.aload_n 0, 1) := by decide +kernel
theorem dX12_keeps_36 : decode cX12_keeps 36 = .ok (.getfield 78, 3) := by decide +kernel
theorem dX12_keeps_39 : decode cX12_keeps 39 = .ok (.bipush 6, 2) := by decide +kernel
theorem dX12_keeps_41 : decode cX12_keeps 41 = .ok (.iload_n 1, 1) := by decide +kernel
theorem dX12_keeps_42 : decode cX12_keeps 42 = .ok (.imul, 1) := by decide +kernel
theorem dX12_keeps_43 : decode cX12_keeps 43 = .ok (.iconst 2, 1) := by decide +kernel
theorem dX12_keeps_44 : decode cX12_keeps 44 = .ok (.iadd, 1) := by decide +kernel
theorem dX12_keeps_45 : decode cX12_keeps 45 = .ok (.iload_n 2, 1) := by decide +kernel
theorem dX12_keeps_46 : decode cX12_keeps 46 = .ok (.iadd, 1) := by decide +kernel
theorem dX12_keeps_47 : decode cX12_keeps 47 = .ok (.aload_n 0, 1) := by decide +kernel
theorem dX12_keeps_48 : decode cX12_keeps 48 = .ok (.getfield 69, 3) := by decide +kernel
theorem dX12_keeps_51 : decode cX12_keeps 51 = .ok (.iload_n 2, 1) := by decide +kernel
theorem dX12_keeps_52 : decode cX12_keeps 52 = .ok (.iaload, 1) := by decide +kernel
theorem dX12_keeps_53 : decode cX12_keeps 53 = .ok (.iastore, 1) := by decide +kernel
theorem dX12_keeps_54 : decode cX12_keeps 54 = .ok (.iinc 2 1, 3) := by decide +kernel
theorem dX12_keeps_57 : decode cX12_keeps 57 = .ok (.goto (-27), 3) := by decide +kernel
theorem dX12_keeps_60 : decode cX12_keeps 60 = .ok (.return_, 1) := by decide +kernel
theorem dX12_backTo_0 : decode cX12_backTo 0 = .ok (.aload_n 0, 1) := by decide +kernel
theorem dX12_backTo_1 : decode cX12_backTo 1 = .ok (.aload_n 0, 1) := by decide +kernel
theorem dX12_backTo_2 : decode cX12_backTo 2 = .ok (.getfield 78, 3) := by decide +kernel
theorem dX12_backTo_5 : decode cX12_backTo 5 = .ok (.bipush 6, 2) := by decide +kernel
theorem dX12_backTo_7 : decode cX12_backTo 7 = .ok (.iload_n 1, 1) := by decide +kernel
theorem dX12_backTo_8 : decode cX12_backTo 8 = .ok (.imul, 1) := by decide +kernel
theorem dX12_backTo_9 : decode cX12_backTo 9 = .ok (.iaload, 1) := by decide +kernel
theorem dX12_backTo_10 : decode cX12_backTo 10 = .ok (.putfield 297, 3) := by decide +kernel
theorem dX12_backTo_13 : decode cX12_backTo 13 = .ok (.aload_n 0, 1) := by decide +kernel
theorem dX12_backTo_14 : decode cX12_backTo 14 = .ok (.aload_n 0, 1) := by decide +kernel
theorem dX12_backTo_15 : decode cX12_backTo 15 = .ok (.getfield 78, 3) := by decide +kernel
theorem dX12_backTo_18 : decode cX12_backTo 18 = .ok (.bipush 6, 2) := by decide +kernel
theorem dX12_backTo_20 : decode cX12_backTo 20 = .ok (.iload_n 1, 1) := by decide +kernel
theorem dX12_backTo_21 : decode cX12_backTo 21 = .ok (.imul, 1) := by decide +kernel
theorem dX12_backTo_22 : decode cX12_backTo 22 = .ok (.iconst 1, 1) := by decide +kernel
theorem dX12_backTo_23 : decode cX12_backTo 23 = .ok (.iadd, 1) := by decide +kernel
theorem dX12_backTo_24 : decode cX12_backTo 24 = .ok (.iaload, 1) := by decide +kernel
theorem dX12_backTo_25 : decode cX12_backTo 25 = .ok (.putfield 300, 3) := by decide +kernel
theorem dX12_backTo_28 : decode cX12_backTo 28 = .ok (.iconst 0, 1) := by decide +kernel
theorem dX12_backTo_29 : decode cX12_backTo 29 = .ok (.istore_n 2, 1) := by decide +kernel
theorem dX12_backTo_30 : decode cX12_backTo 30 = .ok (.iload_n 2, 1) := by decide +kernel
theorem dX12_backTo_31 : decode cX12_backTo 31 = .ok (.iconst 4, 1) := by decide +kernel
theorem dX12_backTo_32 : decode cX12_backTo 32 = .ok (.if_icmp .ge 28, 3) := by decide +kernel
theorem dX12_backTo_35 : decode cX12_backTo 35 = .ok (.aload_n 0, 1) := by decide +kernel
theorem dX12_backTo_36 : decode cX12_backTo 36 = .ok (.getfield 69, 3) := by decide +kernel
theorem dX12_backTo_39 : decode cX12_backTo 39 = .ok (.iload_n 2, 1) := by decide +kernel
theorem dX12_backTo_40 : decode cX12_backTo 40 = .ok (.aload_n 0, 1) := by decide +kernel
theorem dX12_backTo_41 : decode cX12_backTo 41 = .ok (.getfield 78, 3) := by decide +kernel
theorem dX12_backTo_44 : decode cX12_backTo 44 = .ok (.bipush 6, 2) := by decide +kernel
theorem dX12_backTo_46 : decode cX12_backTo 46 = .ok (.iload_n 1, 1) := by decide +kernel
theorem dX12_backTo_47 : decode cX12_backTo 47 = .ok (.imul, 1) := by decide +kernel
theorem dX12_backTo_48 : decode cX12_backTo 48 = .ok (.iconst 2, 1) := by decide +kernel
theorem dX12_backTo_49 : decode cX12_backTo 49 = .ok (.iadd, 1) := by decide +kernel
theorem dX12_backTo_50 : decode cX12_backTo 50 = .ok (.iload_n 2, 1) := by decide +kernel
theorem dX12_backTo_51 : decode cX12_backTo 51 = .ok (.iadd, 1) := by decide +kernel
theorem dX12_backTo_52 : decode cX12_backTo 52 = .ok (.iaload, 1) := by decide +kernel
theorem dX12_backTo_53 : decode cX12_backTo 53 = .ok (.iastore, 1) := by decide +kernel
theorem dX12_backTo_54 : decode cX12_backTo 54 = .ok (.iinc 2 1, 3) := by decide +kernel
theorem dX12_backTo_57 : decode cX12_backTo 57 = .ok (.goto (-27), 3) := by decide +kernel
theorem dX12_backTo_60 : decode cX12_backTo 60 = .ok (.return_, 1) := by decide +kernel
theorem dX12_doAll_0 : decode cX12_doAll 0 = .ok (.aload_n 0, 1) := by decide +kernel
theorem dX12_doAll_1 : decode cX12_doAll 1 = .ok (.iconst 0, 1) := by decide +kernel
theorem dX12_doAll_2 : decode cX12_doAll 2 = .ok (.putfield 164, 3) := by decide +kernel
theorem dX12_doAll_5 : decode cX12_doAll 5 = .ok (.aload_n 0, 1) := by decide +kernel
theorem dX12_doAll_6 : decode cX12_doAll 6 = .ok (.iconst 0, 1) := by decide +kernel
theorem dX12_doAll_7 : decode cX12_doAll 7 = .ok (.invokevirtual 167, 3) := by decide +kernel
theorem dX12_doAll_10 : decode cX12_doAll 10 = .ok (.aload_n 0, 1) := by decide +kernel
theorem dX12_doAll_11 : decode cX12_doAll 11 = .ok (.iconst 0, 1) := by decide +kernel
theorem dX12_doAll_12 : decode cX12_doAll 12 = .ok (.putfield 297, 3) := by decide +kernel
theorem dX12_doAll_15 : decode cX12_doAll 15 = .ok (.aload_n 0, 1) := by decide +kernel
theorem dX12_doAll_16 : decode cX12_doAll 16 = .ok (.iconst 0, 1) := by decide +kernel
theorem dX12_doAll_17 : decode cX12_doAll 17 = .ok (.putfield 300, 3) := by decide +kernel
theorem dX12_doAll_20 : decode cX12_doAll 20 = .ok (.aload_n 0, 1) := by decide +kernel
theorem dX12_doAll_21 : decode cX12_doAll 21 = .ok (.getfield 69, 3) := by decide +kernel
theorem dX12_doAll_24 : decode cX12_doAll 24 = .ok (.iconst 0, 1) := by decide +kernel
theorem dX12_doAll_25 : decode cX12_doAll 25 = .ok (.iconst 0, 1) := by decide +kernel
theorem dX12_doAll_26 : decode cX12_doAll 26 = .ok (.iastore, 1) := by decide +kernel
theorem dX12_doAll_27 : decode cX12_doAll 27 = .ok (.aload_n 0, 1) := by decide +kernel
theorem dX12_doAll_28 : decode cX12_doAll 28 = .ok (.getfield 69, 3) := by decide +kernel
theorem dX12_doAll_31 : decode cX12_doAll 31 = .ok (.iconst 1, 1) := by decide +kernel
theorem dX12_doAll_32 : decode cX12_doAll 32 = .ok (.aload_n 0, 1) := by decide +kernel
theorem dX12_doAll_33 : decode cX12_doAll 33 = .ok (.getfield 13, 3) := by decide +kernel
theorem dX12_doAll_36 : decode cX12_doAll 36 = .ok (.iastore, 1) := by decide +kernel
theorem dX12_doAll_37 : decode cX12_doAll 37 = .ok (.aload_n 0, 1) := by decide +kernel
theorem dX12_doAll_38 : decode cX12_doAll 38 = .ok (.getfield 69, 3) := by decide +kernel
theorem dX12_doAll_41 : decode cX12_doAll 41 = .ok (.iconst 2, 1) := by decide +kernel
theorem dX12_doAll_42 : decode cX12_doAll 42 = .ok (.iconst 1, 1) := by decide +kernel
theorem dX12_doAll_43 : decode cX12_doAll 43 = .ok (.iastore, 1) := by decide +kernel
theorem dX12_doAll_44 : decode cX12_doAll 44 = .ok (.aload_n 0, 1) := by decide +kernel
theorem dX12_doAll_45 : decode cX12_doAll 45 = .ok (.getfield 69, 3) := by decide +kernel
theorem dX12_doAll_48 : decode cX12_doAll 48 = .ok (.iconst 3, 1) := by decide +kernel
theorem dX12_doAll_49 : decode cX12_doAll 49 = .ok (.aload_n 0, 1) := by decide +kernel
theorem dX12_doAll_50 : decode cX12_doAll 50 = .ok (.getfield 17, 3) := by decide +kernel
theorem dX12_doAll_53 : decode cX12_doAll 53 = .ok (.iastore, 1) := by decide +kernel
theorem dX12_doAll_54 : decode cX12_doAll 54 = .ok (.iconst 0, 1) := by decide +kernel
theorem dX12_doAll_55 : decode cX12_doAll 55 = .ok (.istore_n 1, 1) := by decide +kernel
theorem dX12_doAll_56 : decode cX12_doAll 56 = .ok (.iconst 0, 1) := by decide +kernel
theorem dX12_doAll_57 : decode cX12_doAll 57 = .ok (.istore_n 2, 1) := by decide +kernel
theorem dX12_doAll_58 : decode cX12_doAll 58 = .ok (.iconst 0, 1) := by decide +kernel
theorem dX12_doAll_59 : decode cX12_doAll 59 = .ok (.istore_n 3, 1) := by decide +kernel
theorem dX12_doAll_60 : decode cX12_doAll 60 = .ok (.iload_n 1, 1) := by decide +kernel
theorem dX12_doAll_61 : decode cX12_doAll 61 = .ok (.ifCond .le 112, 3) := by decide +kernel
theorem dX12_doAll_64 : decode cX12_doAll 64 = .ok (.iload_n 3, 1) := by decide +kernel
theorem dX12_doAll_65 : decode cX12_doAll 65 = .ok (.aload_n 0, 1) := by decide +kernel
theorem dX12_doAll_66 : decode cX12_doAll 66 = .ok (.getfield 41, 3) := by decide +kernel
theorem dX12_doAll_69 : decode cX12_doAll 69 = .ok (.aload_n 0, 1) := by decide +kernel
theorem dX12_doAll_70 : decode cX12_doAll 70 = .ok (.getfield 72, 3) := by decide +kernel
theorem dX12_doAll_73 : decode cX12_doAll 73 = .ok (.iload_n 1, 1) := by decide +kernel
theorem dX12_doAll_74 : decode cX12_doAll 74 = .ok (.iconst 1, 1) := by decide +kernel
theorem dX12_doAll_75 : decode cX12_doAll 75 = .ok (.isub, 1) := by decide +kernel
theorem dX12_doAll_76 : decode cX12_doAll 76 = .ok (.iaload, 1) := by decide +kernel
theorem dX12_doAll_77 : decode cX12_doAll 77 = .ok (.iaload, 1) := by decide +kernel
theorem dX12_doAll_78 : decode cX12_doAll 78 = .ok (.if_icmp .ne 95, 3) := by decide +kernel
theorem dX12_doAll_81 : decode cX12_doAll 81 = .ok (.aload_n 0, 1) := by decide +kernel
theorem dX12_doAll_82 : decode cX12_doAll 82 = .ok (.getfield 72, 3) := by decide +kernel
theorem dX12_doAll_85 : decode cX12_doAll 85 = .ok (.iload_n 1, 1) := by decide +kernel
theorem dX12_doAll_86 : decode cX12_doAll 86 = .ok (.iconst 1, 1) := by decide +kernel
theorem dX12_doAll_87 : decode cX12_doAll 87 = .ok (.isub, 1) := by decide +kernel
theorem dX12_doAll_88 : decode cX12_doAll 88 = .ok (.iaload, 1) := by decide +kernel
theorem dX12_doAll_89 : decode cX12_doAll 89 = .ok (.istore 4, 2) := by decide +kernel
theorem dX12_doAll_91 : decode cX12_doAll 91 = .ok (.aload_n 0, 1) := by decide +kernel
theorem dX12_doAll_92 : decode cX12_doAll 92 = .ok (.getfield 75, 3) := by decide +kernel
theorem dX12_doAll_95 : decode cX12_doAll 95 = .ok (.iload_n 1, 1) := by decide +kernel
theorem dX12_doAll_96 : decode cX12_doAll 96 = .ok (.iconst 1, 1) := by decide +kernel
theorem dX12_doAll_97 : decode cX12_doAll 97 = .ok (.isub, 1) := by decide +kernel
theorem dX12_doAll_98 : decode cX12_doAll 98 = .ok (.dup2, 1) := by decide +kernel
theorem dX12_doAll_99 : decode cX12_doAll 99 = .ok (.iaload, 1) := by decide +kernel
theorem dX12_doAll_100 : decode cX12_doAll 100 = .ok (.iconst 1, 1) := by decide +kernel
theorem dX12_doAll_101 : decode cX12_doAll 101 = .ok (.isub, 1) := by decide +kernel
theorem dX12_doAll_102 : decode cX12_doAll 102 = .ok (.iastore, 1) := by decide +kernel
theorem dX12_doAll_103 : decode cX12_doAll 103 = .ok (.aload_n 0, 1) := by decide +kernel
theorem dX12_doAll_104 : decode cX12_doAll 104 = .ok (.getfield 75, 3) := by decide +kernel
theorem dX12_doAll_107 : decode cX12_doAll 107 = .ok (.iload_n 1, 1) := by decide +kernel
theorem dX12_doAll_108 : decode cX12_doAll 108 = .ok (.iconst 1, 1) := by decide +kernel
theorem dX12_doAll_109 : decode cX12_doAll 109 = .ok (.isub, 1) := by decide +kernel
theorem dX12_doAll_110 : decode cX12_doAll 110 = .ok (.iaload, 1) := by decide +kernel
theorem dX12_doAll_111 : decode cX12_doAll 111 = .ok (.ifCond .le 51, 3) := by decide +kernel
theorem dX12_doAll_114 : decode cX12_doAll 114 = .ok (.aload_n 0, 1) := by decide +kernel
theorem dX12_doAll_115 : decode cX12_doAll 115 = .ok (.dup, 1) := by decide +kernel
theorem dX12_doAll_116 : decode cX12_doAll 116 = .ok (.getfield 297, 3) := by decide +kernel
theorem dX12_doAll_119 : decode cX12_doAll 119 = .ok (.aload_n 0, 1) := by decide +kernel
theorem dX12_doAll_120 : decode cX12_doAll 120 = .ok (.getfield 38, 3) := by decide +kernel
theorem dX12_doAll_123 : decode cX12_doAll 123 = .ok (.iconst 5, 1) := by decide +kernel
theorem dX12_doAll_124 : decode cX12_doAll 124 = .ok (.iload 4, 2) := by decide +kernel
theorem dX12_doAll_126 : decode cX12_doAll 126 = .ok (.imul, 1) := by decide +kernel
theorem dX12_doAll_127 : decode cX12_doAll 127 = .ok (.iconst 1, 1) := by decide +kernel
theorem dX12_doAll_128 : decode cX12_doAll 128 = .ok (.iadd, 1) := by decide +kernel
theorem dX12_doAll_129 : decode cX12_doAll 129 = .ok (.iaload, 1) := by decide +kernel
theorem dX12_doAll_130 : decode cX12_doAll 130 = .ok (.iadd, 1) := by decide +kernel
theorem dX12_doAll_131 : decode cX12_doAll 131 = .ok (.putfield 297, 3) := by decide +kernel
theorem dX12_doAll_134 : decode cX12_doAll 134 = .ok (.aload_n 0, 1) := by decide +kernel
theorem dX12_doAll_135 : decode cX12_doAll 135 = .ok (.dup, 1) := by decide +kernel
theorem dX12_doAll_136 : decode cX12_doAll 136 = .ok (.getfield 300, 3) := by decide +kernel
theorem dX12_doAll_139 : decode cX12_doAll 139 = .ok (.aload_n 0, 1) := by decide +kernel
theorem dX12_doAll_140 : decode cX12_doAll 140 = .ok (.getfield 38, 3) := by decide +kernel
theorem dX12_doAll_143 : decode cX12_doAll 143 = .ok (.iconst 5, 1) := by decide +kernel
theorem dX12_doAll_144 : decode cX12_doAll 144 = .ok (.iload 4, 2) := by decide +kernel
theorem dX12_doAll_146 : decode cX12_doAll 146 = .ok (.imul, 1) := by decide +kernel
theorem dX12_doAll_147 : decode cX12_doAll 147 = .ok (.iconst 2, 1) := by decide +kernel
theorem dX12_doAll_148 : decode cX12_doAll 148 = .ok (.iadd, 1) := by decide +kernel
theorem dX12_doAll_149 : decode cX12_doAll 149 = .ok (.iaload, 1) := by decide +kernel
theorem dX12_doAll_150 : decode cX12_doAll 150 = .ok (.iadd, 1) := by decide +kernel
theorem dX12_doAll_151 : decode cX12_doAll 151 = .ok (.putfield 300, 3) := by decide +kernel
theorem dX12_doAll_154 : decode cX12_doAll 154 = .ok (.iload 4, 2) := by decide +kernel
theorem dX12_doAll_156 : decode cX12_doAll 156 = .ok (.iconst 1, 1) := by decide +kernel
theorem dX12_doAll_157 : decode cX12_doAll 157 = .ok (.iadd, 1) := by decide +kernel
theorem dX12_doAll_158 : decode cX12_doAll 158 = .ok (.istore_n 3, 1) := by decide +kernel
theorem dX12_doAll_159 : decode cX12_doAll 159 = .ok (.goto (-99), 3) := by decide +kernel
theorem dX12_doAll_162 : decode cX12_doAll 162 = .ok (.iinc 1 (-1), 3) := by decide +kernel
theorem dX12_doAll_165 : decode cX12_doAll 165 = .ok (.aload_n 0, 1) := by decide +kernel
theorem dX12_doAll_166 : decode cX12_doAll 166 = .ok (.iload_n 1, 1) := by decide +kernel
theorem dX12_doAll_167 : decode cX12_doAll 167 = .ok (.invokevirtual 329, 3) := by decide +kernel
theorem dX12_doAll_170 : decode cX12_doAll 170 = .ok (.goto (-110), 3) := by decide +kernel
theorem dX12_doAll_173 : decode cX12_doAll 173 = .ok (.iload_n 3, 1) := by decide +kernel
theorem dX12_doAll_174 : decode cX12_doAll 174 = .ok (.aload_n 0, 1) := by decide +kernel
theorem dX12_doAll_175 : decode cX12_doAll 175 = .ok (.getfield 276, 3) := by decide +kernel
theorem dX12_doAll_178 : decode cX12_doAll 178 = .ok (.if_icmp .ne 4, 3) := by decide +kernel
theorem dX12_doAll_181 : decode cX12_doAll 181 = .ok (.return_, 1) := by decide +kernel
theorem dX12_doAll_182 : decode cX12_doAll 182 = .ok (.iload_n 2, 1) := by decide +kernel
theorem dX12_doAll_183 : decode cX12_doAll 183 = .ok (.sipush 3000, 3) := by decide +kernel
theorem dX12_doAll_186 : decode cX12_doAll 186 = .ok (.if_icmp .ne 9, 3) := by decide +kernel
theorem dX12_doAll_189 : decode cX12_doAll 189 = .ok (.aload_n 0, 1) := by decide +kernel
theorem dX12_doAll_190 : decode cX12_doAll 190 = .ok (.iconst 1, 1) := by decide +kernel
theorem dX12_doAll_191 : decode cX12_doAll 191 = .ok (.putfield 291, 3) := by decide +kernel
theorem dX12_doAll_194 : decode cX12_doAll 194 = .ok (.return_, 1) := by decide +kernel
theorem dX12_doAll_195 : decode cX12_doAll 195 = .ok (.iinc 2 1, 3) := by decide +kernel
theorem dX12_doAll_198 : decode cX12_doAll 198 = .ok (.aload_n 0, 1) := by decide +kernel
theorem dX12_doAll_199 : decode cX12_doAll 199 = .ok (.getfield 35, 3) := by decide +kernel
theorem dX12_doAll_202 : decode cX12_doAll 202 = .ok (.iload_n 3, 1) := by decide +kernel
theorem dX12_doAll_203 : decode cX12_doAll 203 = .ok (.iaload, 1) := by decide +kernel
theorem dX12_doAll_204 : decode cX12_doAll 204 = .ok (.bipush 6, 2) := by decide +kernel
theorem dX12_doAll_206 : decode cX12_doAll 206 = .ok (.if_icmp .eq 18, 3) := by decide +kernel
theorem dX12_doAll_209 : decode cX12_doAll 209 = .ok (.aload_n 0, 1) := by decide +kernel
theorem dX12_doAll_210 : decode cX12_doAll 210 = .ok (.iload_n 3, 1) := by decide +kernel
theorem dX12_doAll_211 : decode cX12_doAll 211 = .ok (.invokevirtual 332, 3) := by decide +kernel
theorem dX12_doAll_214 : decode cX12_doAll 214 = .ok (.ifCond .ne 4, 3) := by decide +kernel
theorem dX12_doAll_217 : decode cX12_doAll 217 = .ok (.return_, 1) := by decide +kernel
theorem dX12_doAll_218 : decode cX12_doAll 218 = .ok (.iinc 3 1, 3) := by decide +kernel
theorem dX12_doAll_221 : decode cX12_doAll 221 = .ok (.goto (-161), 3) := by decide +kernel
theorem dX12_doAll_224 : decode cX12_doAll 224 = .ok (.aload_n 0, 1) := by decide +kernel
theorem dX12_doAll_225 : decode cX12_doAll 225 = .ok (.getfield 38, 3) := by decide +kernel
theorem dX12_doAll_228 : decode cX12_doAll 228 = .ok (.iconst 5, 1) := by decide +kernel
theorem dX12_doAll_229 : decode cX12_doAll 229 = .ok (.iload_n 3, 1) := by decide +kernel
theorem dX12_doAll_230 : decode cX12_doAll 230 = .ok (.imul, 1) := by decide +kernel
theorem dX12_doAll_231 : decode cX12_doAll 231 = .ok (.iaload, 1) := by decide +kernel
theorem dX12_doAll_232 : decode cX12_doAll 232 = .ok (.ifCond .ne 13, 3) := by decide +kernel
theorem dX12_doAll_235 : decode cX12_doAll 235 = .ok (.aload_n 0, 1) := by decide +kernel
theorem dX12_doAll_236 : decode cX12_doAll 236 = .ok (.getfield 41, 3) := by decide +kernel
theorem dX12_doAll_239 : decode cX12_doAll 239 = .ok (.iload_n 3, 1) := by decide +kernel
theorem dX12_doAll_240 : decode cX12_doAll 240 = .ok (.iaload, 1) := by decide +kernel
theorem dX12_doAll_241 : decode cX12_doAll 241 = .ok (.istore_n 3, 1) := by decide +kernel
theorem dX12_doAll_242 : decode cX12_doAll 242 = .ok (.goto (-182), 3) := by decide +kernel
theorem dX12_doAll_245 : decode cX12_doAll 245 = .ok (.aload_n 0, 1) := by decide +kernel
theorem dX12_doAll_246 : decode cX12_doAll 246 = .ok (.iload_n 1, 1) := by decide +kernel
theorem dX12_doAll_247 : decode cX12_doAll 247 = .ok (.invokevirtual 335, 3) := by decide +kernel
theorem dX12_doAll_250 : decode cX12_doAll 250 = .ok (.aload_n 0, 1) := by decide +kernel
theorem dX12_doAll_251 : decode cX12_doAll 251 = .ok (.getfield 72, 3) := by decide +kernel
theorem dX12_doAll_254 : decode cX12_doAll 254 = .ok (.iload_n 1, 1) := by decide +kernel
theorem dX12_doAll_255 : decode cX12_doAll 255 = .ok (.iload_n 3, 1) := by decide +kernel
theorem dX12_doAll_256 : decode cX12_doAll 256 = .ok (.iastore, 1) := by decide +kernel
theorem dX12_doAll_257 : decode cX12_doAll 257 = .ok (.aload_n 0, 1) := by decide +kernel
theorem dX12_doAll_258 : decode cX12_doAll 258 = .ok (.getfield 75, 3) := by decide +kernel
theorem dX12_doAll_261 : decode cX12_doAll 261 = .ok (.iload_n 1, 1) := by decide +kernel
theorem dX12_doAll_262 : decode cX12_doAll 262 = .ok (.aload_n 0, 1) := by decide +kernel
theorem dX12_doAll_263 : decode cX12_doAll 263 = .ok (.getfield 38, 3) := by decide +kernel
theorem dX12_doAll_266 : decode cX12_doAll 266 = .ok (.iconst 5, 1) := by decide +kernel
theorem dX12_doAll_267 : decode cX12_doAll 267 = .ok (.iload_n 3, 1) := by decide +kernel
theorem dX12_doAll_268 : decode cX12_doAll 268 = .ok (.imul, 1) := by decide +kernel
theorem dX12_doAll_269 : decode cX12_doAll 269 = .ok (.iaload, 1) := by decide +kernel
theorem dX12_doAll_270 : decode cX12_doAll 270 = .ok (.iastore, 1) := by decide +kernel
theorem dX12_doAll_271 : decode cX12_doAll 271 = .ok (.iinc 1 1, 3) := by decide +kernel
theorem dX12_doAll_274 : decode cX12_doAll 274 = .ok (.iinc 3 1, 3) := by decide +kernel
theorem dX12_doAll_277 : decode cX12_doAll 277 = .ok (.goto (-217), 3) := by decide +kernel
theorem dX12_draw_0 : decode cX12_draw 0 = .ok (.aload_n 0, 1) := by decide +kernel
theorem dX12_draw_1 : decode cX12_draw 1 = .ok (.iconst 0, 1) := by decide +kernel
theorem dX12_draw_2 : decode cX12_draw 2 = .ok (.putfield 127, 3) := by decide +kernel
theorem dX12_draw_5 : decode cX12_draw 5 = .ok (.iload_n 1, 1) := by decide +kernel
theorem dX12_draw_6 : decode cX12_draw 6 = .ok (.ifCond .lt 11, 3) := by decide +kernel
theorem dX12_draw_9 : decode cX12_draw 9 = .ok (.iload_n 1, 1) := by decide +kernel
theorem dX12_draw_10 : decode cX12_draw 10 = .ok (.aload_n 0, 1) := by decide +kernel
theorem dX12_draw_11 : decode cX12_draw 11 = .ok (.getfield 130, 3) := by decide +kernel
theorem dX12_draw_14 : decode cX12_draw 14 = .ok (.if_icmp .le 6, 3) := by decide +kernel
theorem dX12_draw_17 : decode cX12_draw 17 = .ok (.bipush (-2), 2) := by decide +kernel
theorem dX12_draw_19 : decode cX12_draw 19 = .ok (.ireturn, 1) := by decide +kernel
theorem dX12_draw_20 : decode cX12_draw 20 = .ok (.aload_n 0, 1) := by decide +kernel
theorem dX12_draw_21 : decode cX12_draw 21 = .ok (.iload_n 1, 1) := by decide +kernel
theorem dX12_draw_22 : decode cX12_draw 22 = .ok (.putfield 219, 3) := by decide +kernel
theorem dX12_draw_25 : decode cX12_draw 25 = .ok (.aload_n 0, 1) := by decide +kernel
theorem dX12_draw_26 : decode cX12_draw 26 = .ok (.iconst 0, 1) := by decide +kernel
theorem dX12_draw_27 : decode cX12_draw 27 = .ok (.putfield 130, 3) := by decide +kernel
theorem dX12_draw_30 : decode cX12_draw 30 = .ok (.aload_n 0, 1) := by decide +kernel
theorem dX12_draw_31 : decode cX12_draw 31 = .ok (.iconst 0, 1) := by decide +kernel
theorem dX12_draw_32 : decode cX12_draw 32 = .ok (.putfield 213, 3) := by decide +kernel
theorem dX12_draw_35 : decode cX12_draw 35 = .ok (.aload_n 0, 1) := by decide +kernel
theorem dX12_draw_36 : decode cX12_draw 36 = .ok (.iconst (-1), 1) := by decide +kernel
theorem dX12_draw_37 : decode cX12_draw 37 = .ok (.putfield 32, 3) := by decide +kernel
theorem dX12_draw_40 : decode cX12_draw 40 = .ok (.aload_n 0, 1) := by decide +kernel
theorem dX12_draw_41 : decode cX12_draw 41 = .ok (.iconst 0, 1) := by decide +kernel
theorem dX12_draw_42 : decode cX12_draw 42 = .ok (.putfield 291, 3) := by decide +kernel
theorem dX12_draw_45 : decode cX12_draw 45 = .ok (.aload_n 0, 1) := by decide +kernel
theorem dX12_draw_46 : decode cX12_draw 46 = .ok (.iconst 0, 1) := by decide +kernel
theorem dX12_draw_47 : decode cX12_draw 47 = .ok (.putfield 276, 3) := by decide +kernel
theorem dX12_draw_50 : decode cX12_draw 50 = .ok (.aload_n 0, 1) := by decide +kernel
theorem dX12_draw_51 : decode cX12_draw 51 = .ok (.iconst 0, 1) := by decide +kernel
theorem dX12_draw_52 : decode cX12_draw 52 = .ok (.putfield 273, 3) := by decide +kernel
theorem dX12_draw_55 : decode cX12_draw 55 = .ok (.aload_n 0, 1) := by decide +kernel
theorem dX12_draw_56 : decode cX12_draw 56 = .ok (.iconst 0, 1) := by decide +kernel
theorem dX12_draw_57 : decode cX12_draw 57 = .ok (.putfield 244, 3) := by decide +kernel
theorem dX12_draw_60 : decode cX12_draw 60 = .ok (.aload_n 0, 1) := by decide +kernel
theorem dX12_draw_61 : decode cX12_draw 61 = .ok (.iconst 0, 1) := by decide +kernel
theorem dX12_draw_62 : decode cX12_draw 62 = .ok (.putfield 222, 3) := by decide +kernel
theorem dX12_draw_65 : decode cX12_draw 65 = .ok (.aload_n 0, 1) := by decide +kernel
theorem dX12_draw_66 : decode cX12_draw 66 = .ok (.invokevirtual 253, 3) := by decide +kernel
theorem dX12_draw_69 : decode cX12_draw 69 = .ok (.aload_n 0, 1) := by decide +kernel
theorem dX12_draw_70 : decode cX12_draw 70 = .ok (.getfield 225, 3) := by decide +kernel
theorem dX12_draw_73 : decode cX12_draw 73 = .ok (.ifCond .ne 10, 3) := by decide +kernel
theorem dX12_draw_76 : decode cX12_draw 76 = .ok (.aload_n 0, 1) := by decide +kernel
theorem dX12_draw_77 : decode cX12_draw 77 = .ok (.getfield 273, 3) := by decide +kernel
theorem dX12_draw_80 : decode cX12_draw 80 = .ok (.ifCond .le 12, 3) := by decide +kernel
theorem dX12_draw_83 : decode cX12_draw 83 = .ok (.aload_n 0, 1) := by decide +kernel
theorem dX12_draw_84 : decode cX12_draw 84 = .ok (.invokevirtual 338, 3) := by decide +kernel
theorem dX12_draw_87 : decode cX12_draw 87 = .ok (.ifCond .ne (-18), 3) := by decide +kernel
theorem dX12_draw_90 : decode cX12_draw 90 = .ok (.iconst (-1), 1) := by decide +kernel
theorem dX12_draw_91 : decode cX12_draw 91 = .ok (.ireturn, 1) := by decide +kernel
theorem dX12_draw_92 : decode cX12_draw 92 = .ok (.aload_n 0, 1) := by decide +kernel
theorem dX12_draw_93 : decode cX12_draw 93 = .ok (.invokevirtual 341, 3) := by decide +kernel
theorem dX12_draw_96 : decode cX12_draw 96 = .ok (.aload_n 0, 1) := by decide +kernel
theorem dX12_draw_97 : decode cX12_draw 97 = .ok (.invokevirtual 174, 3) := by decide +kernel
theorem dX12_draw_100 : decode cX12_draw 100 = .ok (.aload_n 0, 1) := by decide +kernel
theorem dX12_draw_101 : decode cX12_draw 101 = .ok (.getfield 164, 3) := by decide +kernel
theorem dX12_draw_104 : decode cX12_draw 104 = .ok (.ireturn, 1) := by decide +kernel
theorem dX12_fault_0 : decode cX12_fault 0 = .ok (.aload_n 0, 1) := by decide +kernel
theorem dX12_fault_1 : decode cX12_fault 1 = .ok (.iconst 0, 1) := by decide +kernel
theorem dX12_fault_2 : decode cX12_fault 2 = .ok (.putfield 127, 3) := by decide +kernel
theorem dX12_fault_5 : decode cX12_fault 5 = .ok (.iload_n 1, 1) := by decide +kernel
theorem dX12_fault_6 : decode cX12_fault 6 = .ok (.ifCond .ne 10, 3) := by decide +kernel
theorem dX12_fault_9 : decode cX12_fault 9 = .ok (.aload_n 0, 1) := by decide +kernel
theorem dX12_fault_10 : decode cX12_fault 10 = .ok (.getfield 213, 3) := by decide +kernel
theorem dX12_fault_13 : decode cX12_fault 13 = .ok (.goto 36, 3) := by decide +kernel
theorem dX12_fault_16 : decode cX12_fault 16 = .ok (.iload_n 1, 1) := by decide +kernel
theorem dX12_fault_17 : decode cX12_fault 17 = .ok (.iconst 1, 1) := by decide +kernel
theorem dX12_fault_18 : decode cX12_fault 18 = .ok (.if_icmp .ne 10, 3) := by decide +kernel
theorem dX12_fault_21 : decode cX12_fault 21 = .ok (.aload_n 0, 1) := by decide +kernel
theorem dX12_fault_22 : decode cX12_fault 22 = .ok (.getfield 32, 3) := by decide +kernel
theorem dX12_fault_25 : decode cX12_fault 25 = .ok (.goto 24, 3) := by decide +kernel
theorem dX12_fault_28 : decode cX12_fault 28 = .ok (.iload_n 1, 1) := by decide +kernel
theorem dX12_fault_29 : decode cX12_fault 29 = .ok (.iconst 2, 1) := by decide +kernel
theorem dX12_fault_30 : decode cX12_fault 30 = .ok (.if_icmp .ne 18, 3) := by decide +kernel
theorem dX12_fault_33 : decode cX12_fault 33 = .ok (.aload_n 0, 1) := by decide +kernel
theorem dX12_fault_34 : decode cX12_fault 34 = .ok (.getfield 291, 3) := by decide +kernel
theorem dX12_fault_37 : decode cX12_fault 37 = .ok (.ifCond .eq 7, 3) := by decide +kernel
theorem dX12_fault_40 : decode cX12_fault 40 = .ok (.iconst 1, 1) := by decide +kernel
theorem dX12_fault_41 : decode cX12_fault 41 = .ok (.goto 8, 3) := by decide +kernel
theorem dX12_fault_44 : decode cX12_fault 44 = .ok (.iconst 0, 1) := by decide +kernel
theorem dX12_fault_45 : decode cX12_fault 45 = .ok (.goto 4, 3) := by decide +kernel
theorem dX12_fault_48 : decode cX12_fault 48 = .ok (.iconst (-1), 1) := by decide +kernel
theorem dX12_fault_49 : decode cX12_fault 49 = .ok (.ireturn, 1) := by decide +kernel
theorem dX12_leftAt_0 : decode cX12_leftAt 0 = .ok (.aload_n 0, 1) := by decide +kernel
theorem dX12_leftAt_1 : decode cX12_leftAt 1 = .ok (.bipush 100, 2) := by decide +kernel
theorem dX12_leftAt_3 : decode cX12_leftAt 3 = .ok (.aload_n 0, 1) := by decide +kernel
theorem dX12_leftAt_4 : decode cX12_leftAt 4 = .ok (.getfield 59, 3) := by decide +kernel
theorem dX12_leftAt_7 : decode cX12_leftAt 7 = .ok (.iload_n 1, 1) := by decide +kernel
theorem dX12_leftAt_8 : decode cX12_leftAt 8 = .ok (.iaload, 1) := by decide +kernel
theorem dX12_leftAt_9 : decode cX12_leftAt 9 = .ok (.imul, 1) := by decide +kernel
theorem dX12_leftAt_10 : decode cX12_leftAt 10 = .ok (.bipush 100, 2) := by decide +kernel
theorem dX12_leftAt_12 : decode cX12_leftAt 12 = .ok (.aload_n 0, 1) := by decide +kernel
theorem dX12_leftAt_13 : decode cX12_leftAt 13 = .ok (.getfield 62, 3) := by decide +kernel
theorem dX12_leftAt_16 : decode cX12_leftAt 16 = .ok (.iload_n 1, 1) := by decide +kernel
theorem dX12_leftAt_17 : decode cX12_leftAt 17 = .ok (.iaload, 1) := by decide +kernel
theorem dX12_leftAt_18 : decode cX12_leftAt 18 = .ok (.imul, 1) := by decide +kernel
theorem dX12_leftAt_19 : decode cX12_leftAt 19 = .ok (.invokevirtual 188, 3) := by decide +kernel
theorem dX12_leftAt_22 : decode cX12_leftAt 22 = .ok (.ireturn, 1) := by decide +kernel
theorem dX12_rightAt_0 : decode cX12_rightAt 0 = .ok (.aload_n 0, 1) := by decide +kernel
theorem dX12_rightAt_1 : decode cX12_rightAt 1 = .ok (.bipush 100, 2) := by decide +kernel
theorem dX12_rightAt_3 : decode cX12_rightAt 3 = .ok (.aload_n 0, 1) := by decide +kernel
theorem dX12_rightAt_4 : decode cX12_rightAt 4 = .ok (.getfield 59, 3) := by decide +kernel
theorem dX12_rightAt_7 : decode cX12_rightAt 7 = .ok (.iload_n 1, 1) := by decide +kernel
theorem dX12_rightAt_8 : decode cX12_rightAt 8 = .ok (.iaload, 1) := by decide +kernel
theorem dX12_rightAt_9 : decode cX12_rightAt 9 = .ok (.imul, 1) := by decide +kernel
theorem dX12_rightAt_10 : decode cX12_rightAt 10 = .ok (.bipush 100, 2) := by decide +kernel
theorem dX12_rightAt_12 : decode cX12_rightAt 12 = .ok (.aload_n 0, 1) := by decide +kernel
theorem dX12_rightAt_13 : decode cX12_rightAt 13 = .ok (.getfield 62, 3) := by decide +kernel
theorem dX12_rightAt_16 : decode cX12_rightAt 16 = .ok (.iload_n 1, 1) := by decide +kernel
theorem dX12_rightAt_17 : decode cX12_rightAt 17 = .ok (.iaload, 1) := by decide +kernel
theorem dX12_rightAt_18 : decode cX12_rightAt 18 = .ok (.imul, 1) := by decide +kernel
theorem dX12_rightAt_19 : decode cX12_rightAt 19 = .ok (.invokevirtual 191, 3) := by decide +kernel
theorem dX12_rightAt_22 : decode cX12_rightAt 22 = .ok (.ireturn, 1) := by decide +kernel
theorem dX12_ticksOf_0 : decode cX12_ticksOf 0 = .ok (.aload_n 0, 1) := by decide +kernel
theorem dX12_ticksOf_1 : decode cX12_ticksOf 1 = .ok (.iload_n 1, 1) := by decide +kernel
theorem dX12_ticksOf_2 : decode cX12_ticksOf 2 = .ok (.iconst 1, 1) := by decide +kernel
theorem dX12_ticksOf_3 : decode cX12_ticksOf 3 = .ok (.iadd, 1) := by decide +kernel
theorem dX12_ticksOf_4 : decode cX12_ticksOf 4 = .ok (.invokevirtual 344, 3) := by decide +kernel
theorem dX12_ticksOf_7 : decode cX12_ticksOf 7 = .ok (.aload_n 0, 1) := by decide +kernel
theorem dX12_ticksOf_8 : decode cX12_ticksOf 8 = .ok (.iload_n 1, 1) := by decide +kernel
theorem dX12_ticksOf_9 : decode cX12_ticksOf 9 = .ok (.invokevirtual 344, 3) := by decide +kernel
theorem dX12_ticksOf_12 : decode cX12_ticksOf 12 = .ok (.isub, 1) := by decide +kernel
theorem dX12_ticksOf_13 : decode cX12_ticksOf 13 = .ok (.invokestatic 198, 3) := by decide +kernel
theorem dX12_ticksOf_16 : decode cX12_ticksOf 16 = .ok (.istore_n 2, 1) := by decide +kernel
theorem dX12_ticksOf_17 : decode cX12_ticksOf 17 = .ok (.aload_n 0, 1) := by decide +kernel
theorem dX12_ticksOf_18 : decode cX12_ticksOf 18 = .ok (.iload_n 1, 1) := by decide +kernel
theorem dX12_ticksOf_19 : decode cX12_ticksOf 19 = .ok (.iconst 1, 1) := by decide +kernel
theorem dX12_ticksOf_20 : decode cX12_ticksOf 20 = .ok (.iadd, 1) := by decide +kernel
theorem dX12_ticksOf_21 : decode cX12_ticksOf 21 = .ok (.invokevirtual 347, 3) := by decide +kernel
theorem dX12_ticksOf_24 : decode cX12_ticksOf 24 = .ok (.aload_n 0, 1) := by decide +kernel
theorem dX12_ticksOf_25 : decode cX12_ticksOf 25 = .ok (.iload_n 1, 1) := by decide +kernel
theorem dX12_ticksOf_26 : decode cX12_ticksOf 26 = .ok (.invokevirtual 347, 3) := by decide +kernel
theorem dX12_ticksOf_29 : decode cX12_ticksOf 29 = .ok (.isub, 1) := by decide +kernel
theorem dX12_ticksOf_30 : decode cX12_ticksOf 30 = .ok (.invokestatic 198, 3) := by decide +kernel
theorem dX12_ticksOf_33 : decode cX12_ticksOf 33 = .ok (.istore_n 3, 1) := by decide +kernel
theorem dX12_ticksOf_34 : decode cX12_ticksOf 34 = .ok (.iload_n 2, 1) := by decide +kernel
theorem dX12_ticksOf_35 : decode cX12_ticksOf 35 = .ok (.iload_n 3, 1) := by decide +kernel
theorem dX12_ticksOf_36 : decode cX12_ticksOf 36 = .ok (.if_icmp .le 7, 3) := by decide +kernel
theorem dX12_ticksOf_39 : decode cX12_ticksOf 39 = .ok (.iload_n 2, 1) := by decide +kernel
theorem dX12_ticksOf_40 : decode cX12_ticksOf 40 = .ok (.goto 4, 3) := by decide +kernel
theorem dX12_ticksOf_43 : decode cX12_ticksOf 43 = .ok (.iload_n 3, 1) := by decide +kernel
theorem dX12_ticksOf_44 : decode cX12_ticksOf 44 = .ok (.ireturn, 1) := by decide +kernel
theorem dX12_isMove_0 : decode cX12_isMove 0 = .ok (.iload_n 1, 1) := by decide +kernel
theorem dX12_isMove_1 : decode cX12_isMove 1 = .ok (.ifCond .lt 15, 3) := by decide +kernel
theorem dX12_isMove_4 : decode cX12_isMove 4 = .ok (.iload_n 1, 1) := by decide +kernel
theorem dX12_isMove_5 : decode cX12_isMove 5 = .ok (.aload_n 0, 1) := by decide +kernel
theorem dX12_isMove_6 : decode cX12_isMove 6 = .ok (.getfield 164, 3) := by decide +kernel
theorem dX12_isMove_9 : decode cX12_isMove 9 = .ok (.if_icmp .ge 7, 3) := by decide +kernel
theorem dX12_isMove_12 : decode cX12_isMove 12 = .ok (.iconst 1, 1) := by decide +kernel
theorem dX12_isMove_13 : decode cX12_isMove 13 = .ok (.goto 4, 3) := by decide +kernel
theorem dX12_isMove_16 : decode cX12_isMove 16 = .ok (.iconst 0, 1) := by decide +kernel
theorem dX12_isMove_17 : decode cX12_isMove 17 = .ok (.ireturn, 1) := by decide +kernel
theorem dX12_fails_0 : decode cX12_fails 0 = .ok (.aload_n 0, 1) := by decide +kernel
theorem dX12_fails_1 : decode cX12_fails 1 = .ok (.iload_n 1, 1) := by decide +kernel
theorem dX12_fails_2 : decode cX12_fails 2 = .ok (.putfield 127, 3) := by decide +kernel
theorem dX12_fails_5 : decode cX12_fails 5 = .ok (.iconst 0, 1) := by decide +kernel
theorem dX12_fails_6 : decode cX12_fails 6 = .ok (.ireturn, 1) := by decide +kernel
theorem dX12_look_0 : decode cX12_look 0 = .ok (.aload_n 0, 1) := by decide +kernel
theorem dX12_look_1 : decode cX12_look 1 = .ok (.iconst 0, 1) := by decide +kernel
theorem dX12_look_2 : decode cX12_look 2 = .ok (.putfield 127, 3) := by decide +kernel
theorem dX12_look_5 : decode cX12_look 5 = .ok (.aload_n 0, 1) := by decide +kernel
theorem dX12_look_6 : decode cX12_look 6 = .ok (.iload_n 1, 1) := by decide +kernel
theorem dX12_look_7 : decode cX12_look 7 = .ok (.invokevirtual 350, 3) := by decide +kernel
theorem dX12_look_10 : decode cX12_look 10 = .ok (.ifCond .ne 9, 3) := by decide +kernel
theorem dX12_look_13 : decode cX12_look 13 = .ok (.aload_n 0, 1) := by decide +kernel
theorem dX12_look_14 : decode cX12_look 14 = .ok (.iconst 1, 1) := by decide +kernel
theorem dX12_look_15 : decode cX12_look 15 = .ok (.invokevirtual 353, 3) := by decide +kernel
theorem dX12_look_18 : decode cX12_look 18 = .ok (.ireturn, 1) := by decide +kernel
theorem dX12_look_19 : decode cX12_look 19 = .ok (.iload_n 2, 1) := by decide +kernel
theorem dX12_look_20 : decode cX12_look 20 = .ok (.tableswitch 97 0 5 #[40, 49, 58, 75, 81, 89], 40) := by decide +kernel
theorem dX12_look_60 : decode cX12_look 60 = .ok (.aload_n 0, 1) := by decide +kernel
theorem dX12_look_61 : decode cX12_look 61 = .ok (.getfield 59, 3) := by decide +kernel
theorem dX12_look_64 : decode cX12_look 64 = .ok (.iload_n 1, 1) := by decide +kernel
theorem dX12_look_65 : decode cX12_look 65 = .ok (.iconst 1, 1) := by decide +kernel
theorem dX12_look_66 : decode cX12_look 66 = .ok (.iadd, 1) := by decide +kernel
theorem dX12_look_67 : decode cX12_look 67 = .ok (.iaload, 1) := by decide +kernel
theorem dX12_look_68 : decode cX12_look 68 = .ok (.ireturn, 1) := by decide +kernel
theorem dX12_look_69 : decode cX12_look 69 = .ok (.aload_n 0, 1) := by decide +kernel
theorem dX12_look_70 : decode cX12_look 70 = .ok (.getfield 62, 3) := by decide +kernel
theorem dX12_look_73 : decode cX12_look 73 = .ok (.iload_n 1, 1) := by decide +kernel
theorem dX12_look_74 : decode cX12_look 74 = .ok (.iconst 1, 1) := by decide +kernel
theorem dX12_look_75 : decode cX12_look 75 = .ok (.iadd, 1) := by decide +kernel
theorem dX12_look_76 : decode cX12_look 76 = .ok (.iaload, 1) := by decide +kernel
theorem dX12_look_77 : decode cX12_look 77 = .ok (.ireturn, 1) := by decide +kernel
theorem dX12_look_78 : decode cX12_look 78 = .ok (.aload_n 0, 1) := by decide +kernel
theorem dX12_look_79 : decode cX12_look 79 = .ok (.getfield 65, 3) := by decide +kernel
theorem dX12_look_82 : decode cX12_look 82 = .ok (.iload_n 1, 1) := by decide +kernel
theorem dX12_look_83 : decode cX12_look 83 = .ok (.iconst 1, 1) := by decide +kernel
theorem dX12_look_84 : decode cX12_look 84 = .ok (.iadd, 1) := by decide +kernel
theorem dX12_look_85 : decode cX12_look 85 = .ok (.baload, 1) := by decide +kernel
theorem dX12_look_86 : decode cX12_look 86 = .ok (.ifCond .eq 7, 3) := by decide +kernel
theorem dX12_look_89 : decode cX12_look 89 = .ok (.iconst 1, 1) := by decide +kernel
theorem dX12_look_90 : decode cX12_look 90 = .ok (.goto 4, 3) := by decide +kernel
theorem dX12_look_93 : decode cX12_look 93 = .ok (.iconst 0, 1) := by decide +kernel
theorem dX12_look_94 : decode cX12_look 94 = .ok (.ireturn, 1) := by decide +kernel
theorem dX12_look_95 : decode cX12_look 95 = .ok (.aload_n 0, 1) := by decide +kernel
theorem dX12_look_96 : decode cX12_look 96 = .ok (.iload_n 1, 1) := by decide +kernel
theorem dX12_look_97 : decode cX12_look 97 = .ok (.invokevirtual 356, 3) := by decide +kernel
theorem dX12_look_100 : decode cX12_look 100 = .ok (.ireturn, 1) := by decide +kernel
theorem dX12_look_101 : decode cX12_look 101 = .ok (.aload_n 0, 1) := by decide +kernel
theorem dX12_look_102 : decode cX12_look 102 = .ok (.iload_n 1, 1) := by decide +kernel
theorem dX12_look_103 : decode cX12_look 103 = .ok (.iconst 1, 1) := by decide +kernel
theorem dX12_look_104 : decode cX12_look 104 = .ok (.iadd, 1) := by decide +kernel
theorem dX12_look_105 : decode cX12_look 105 = .ok (.invokevirtual 344, 3) := by decide +kernel
theorem dX12_look_108 : decode cX12_look 108 = .ok (.ireturn, 1) := by decide +kernel
theorem dX12_look_109 : decode cX12_look 109 = .ok (.aload_n 0, 1) := by decide +kernel
theorem dX12_look_110 : decode cX12_look 110 = .ok (.iload_n 1, 1) := by decide +kernel
theorem dX12_look_111 : decode cX12_look 111 = .ok (.iconst 1, 1) := by decide +kernel
theorem dX12_look_112 : decode cX12_look 112 = .ok (.iadd, 1) := by decide +kernel
theorem dX12_look_113 : decode cX12_look 113 = .ok (.invokevirtual 347, 3) := by decide +kernel
theorem dX12_look_116 : decode cX12_look 116 = .ok (.ireturn, 1) := by decide +kernel
theorem dX12_look_117 : decode cX12_look 117 = .ok (.aload_n 0, 1) := by decide +kernel
theorem dX12_look_118 : decode cX12_look 118 = .ok (.iconst 2, 1) := by decide +kernel
theorem dX12_look_119 : decode cX12_look 119 = .ok (.invokevirtual 353, 3) := by decide +kernel
theorem dX12_look_122 : decode cX12_look 122 = .ok (.ireturn, 1) := by decide +kernel
theorem dX12_layWay_0 : decode cX12_layWay 0 = .ok (.aload_n 0, 1) := by decide +kernel
theorem dX12_layWay_1 : decode cX12_layWay 1 = .ok (.iload_n 1, 1) := by decide +kernel
theorem dX12_layWay_2 : decode cX12_layWay 2 = .ok (.putfield 359, 3) := by decide +kernel
theorem dX12_layWay_5 : decode cX12_layWay 5 = .ok (.aload_n 0, 1) := by decide +kernel
theorem dX12_layWay_6 : decode cX12_layWay 6 = .ok (.iload_n 2, 1) := by decide +kernel
theorem dX12_layWay_7 : decode cX12_layWay 7 = .ok (.putfield 362, 3) := by decide +kernel
theorem dX12_layWay_10 : decode cX12_layWay 10 = .ok (.aload_n 0, 1) := by decide +kernel
theorem dX12_layWay_11 : decode cX12_layWay 11 = .ok (.iload_n 3, 1) := by decide +kernel
theorem dX12_layWay_12 : decode cX12_layWay 12 = .ok (.iload_n 1, 1) := by decide +kernel
theorem dX12_layWay_13 : decode cX12_layWay 13 = .ok (.isub, 1) := by decide +kernel
theorem dX12_layWay_14 : decode cX12_layWay 14 = .ok (.putfield 365, 3) := by decide +kernel
theorem dX12_layWay_17 : decode cX12_layWay 17 = .ok (.aload_n 0, 1) := by decide +kernel
theorem dX12_layWay_18 : decode cX12_layWay 18 = .ok (.iload 4, 2) := by decide +kernel
theorem dX12_layWay_20 : decode cX12_layWay 20 = .ok (.iload_n 2, 1) := by decide +kernel
theorem dX12_layWay_21 : decode cX12_layWay 21 = .ok (.isub, 1) := by decide +kernel
theorem dX12_layWay_22 : decode cX12_layWay 22 = .ok (.putfield 368, 3) := by decide +kernel
theorem dX12_layWay_25 : decode cX12_layWay 25 = .ok (.aload_n 0, 1) := by decide +kernel
theorem dX12_layWay_26 : decode cX12_layWay 26 = .ok (.aload_n 0, 1) := by decide +kernel
theorem dX12_layWay_27 : decode cX12_layWay 27 = .ok (.getfield 365, 3) := by decide +kernel
theorem dX12_layWay_30 : decode cX12_layWay 30 = .ok (.invokestatic 198, 3) := by decide +kernel
theorem dX12_layWay_33 : decode cX12_layWay 33 = .ok (.aload_n 0, 1) := by decide +kernel
theorem dX12_layWay_34 : decode cX12_layWay 34 = .ok (.getfield 368, 3) := by decide +kernel
theorem dX12_layWay_37 : decode cX12_layWay 37 = .ok (.invokestatic 198, 3) := by decide +kernel
theorem dX12_layWay_40 : decode cX12_layWay 40 = .ok (.if_icmp .le 13, 3) := by decide +kernel
theorem dX12_layWay_43 : decode cX12_layWay 43 = .ok (.aload_n 0, 1) := by decide +kernel
theorem dX12_layWay_44 : decode cX12_layWay 44 = .ok (.getfield 365, 3) := by decide +kernel
theorem dX12_layWay_47 : decode cX12_layWay 47 = .ok (.invokestatic 198, 3) := by decide +kernel
theorem dX12_layWay_50 : decode cX12_layWay 50 = .ok (.goto 10, 3) := by decide +kernel
theorem dX12_layWay_53 : decode cX12_layWay 53 = .ok (.aload_n 0, 1) := by decide +kernel
theorem dX12_layWay_54 : decode cX12_layWay 54 = .ok (.getfield 368, 3) := by decide +kernel
theorem dX12_layWay_57 : decode cX12_layWay 57 = .ok (.invokestatic 198, 3) := by decide +kernel
theorem dX12_layWay_60 : decode cX12_layWay 60 = .ok (.putfield 371, 3) := by decide +kernel
theorem dX12_layWay_63 : decode cX12_layWay 63 = .ok (.return_, 1) := by decide +kernel
theorem dX12_wayLeft_0 : decode cX12_wayLeft 0 = .ok (.aload_n 0, 1) := by decide +kernel
theorem dX12_wayLeft_1 : decode cX12_wayLeft 1 = .ok (.getfield 371, 3) := by decide +kernel
theorem dX12_wayLeft_4 : decode cX12_wayLeft 4 = .ok (.ifCond .ne 10, 3) := by decide +kernel
theorem dX12_wayLeft_7 : decode cX12_wayLeft 7 = .ok (.aload_n 0, 1) := by decide +kernel
theorem dX12_wayLeft_8 : decode cX12_wayLeft 8 = .ok (.getfield 359, 3) := by decide +kernel
theorem dX12_wayLeft_11 : decode cX12_wayLeft 11 = .ok (.goto 23, 3) := by decide +kernel
theorem dX12_wayLeft_14 : decode cX12_wayLeft 14 = .ok (.aload_n 0, 1) := by decide +kernel
theorem dX12_wayLeft_15 : decode cX12_wayLeft 15 = .ok (.getfield 359, 3) := by decide +kernel
theorem dX12_wayLeft_18 : decode cX12_wayLeft 18 = .ok (.aload_n 0, 1) := by decide +kernel
theorem dX12_wayLeft_19 : decode cX12_wayLeft 19 = .ok (.getfield 365, 3) := by decide +kernel
theorem dX12_wayLeft_22 : decode cX12_wayLeft 22 = .ok (.i2l, 1) := by decide +kernel
theorem dX12_wayLeft_23 : decode cX12_wayLeft 23 = .ok (.iload_n 1, 1) := by decide +kernel
theorem dX12_wayLeft_24 : decode cX12_wayLeft 24 = .ok (.i2l, 1) := by decide +kernel
theorem dX12_wayLeft_25 : decode cX12_wayLeft 25 = .ok (.lmul, 1) := by decide +kernel
theorem dX12_wayLeft_26 : decode cX12_wayLeft 26 = .ok (.aload_n 0, 1) := by decide +kernel
theorem dX12_wayLeft_27 : decode cX12_wayLeft 27 = .ok (.getfield 371, 3) := by decide +kernel
theorem dX12_wayLeft_30 : decode cX12_wayLeft 30 = .ok (.i2l, 1) := by decide +kernel
theorem dX12_wayLeft_31 : decode cX12_wayLeft 31 = .ok (.ldiv, 1) := by decide +kernel
theorem dX12_wayLeft_32 : decode cX12_wayLeft 32 = .ok (.l2i, 1) := by decide +kernel
theorem dX12_wayLeft_33 : decode cX12_wayLeft 33 = .ok (.iadd, 1) := by decide +kernel
theorem dX12_wayLeft_34 : decode cX12_wayLeft 34 = .ok (.ireturn, 1) := by decide +kernel
theorem dX12_wayRight_0 : decode cX12_wayRight 0 = .ok (.aload_n 0, 1) := by decide +kernel
theorem dX12_wayRight_1 : decode cX12_wayRight 1 = .ok (.getfield 371, 3) := by decide +kernel
theorem dX12_wayRight_4 : decode cX12_wayRight 4 = .ok (.ifCond .ne 10, 3) := by decide +kernel
theorem dX12_wayRight_7 : decode cX12_wayRight 7 = .ok (.aload_n 0, 1) := by decide +kernel
theorem dX12_wayRight_8 : decode cX12_wayRight 8 = .ok (.getfield 362, 3) := by decide +kernel
theorem dX12_wayRight_11 : decode cX12_wayRight 11 = .ok (.goto 23, 3) := by decide +kernel
theorem dX12_wayRight_14 : decode cX12_wayRight 14 = .ok (.aload_n 0, 1) := by decide +kernel
theorem dX12_wayRight_15 : decode cX12_wayRight 15 = .ok (.getfield 362, 3) := by decide +kernel
theorem dX12_wayRight_18 : decode cX12_wayRight 18 = .ok (.aload_n 0, 1) := by decide +kernel
theorem dX12_wayRight_19 : decode cX12_wayRight 19 = .ok (.getfield 368, 3) := by decide +kernel
theorem dX12_wayRight_22 : decode cX12_wayRight 22 = .ok (.i2l, 1) := by decide +kernel
theorem dX12_wayRight_23 : decode cX12_wayRight 23 = .ok (.iload_n 1, 1) := by decide +kernel
theorem dX12_wayRight_24 : decode cX12_wayRight 24 = .ok (.i2l, 1) := by decide +kernel
theorem dX12_wayRight_25 : decode cX12_wayRight 25 = .ok (.lmul, 1) := by decide +kernel
theorem dX12_wayRight_26 : decode cX12_wayRight 26 = .ok (.aload_n 0, 1) := by decide +kernel
theorem dX12_wayRight_27 : decode cX12_wayRight 27 = .ok (.getfield 371, 3) := by decide +kernel
theorem dX12_wayRight_30 : decode cX12_wayRight 30 = .ok (.i2l, 1) := by decide +kernel
theorem dX12_wayRight_31 : decode cX12_wayRight 31 = .ok (.ldiv, 1) := by decide +kernel
theorem dX12_wayRight_32 : decode cX12_wayRight 32 = .ok (.l2i, 1) := by decide +kernel
theorem dX12_wayRight_33 : decode cX12_wayRight 33 = .ok (.iadd, 1) := by decide +kernel
theorem dX12_wayRight_34 : decode cX12_wayRight 34 = .ok (.ireturn, 1) := by decide +kernel
theorem dX12_strays_0 : decode cX12_strays 0 = .ok (.lload 5, 2) := by decide +kernel
theorem dX12_strays_2 : decode cX12_strays 2 = .ok (.lload 5, 2) := by decide +kernel
theorem dX12_strays_4 : decode cX12_strays 4 = .ok (.lmul, 1) := by decide +kernel
theorem dX12_strays_5 : decode cX12_strays 5 = .ok (.lload 7, 2) := by decide +kernel
theorem dX12_strays_7 : decode cX12_strays 7 = .ok (.lload 7, 2) := by decide +kernel
theorem dX12_strays_9 : decode cX12_strays 9 = .ok (.lmul, 1) := by decide +kernel
theorem dX12_strays_10 : decode cX12_strays 10 = .ok (.ladd, 1) := by decide +kernel
theorem dX12_strays_11 : decode cX12_strays 11 = .ok (.invokestatic 140, 3) := by decide +kernel
theorem dX12_strays_14 : decode cX12_strays 14 = .ok (.lstore 9, 2) := by decide +kernel
theorem dX12_strays_16 : decode cX12_strays 16 = .ok (.lload 9, 2) := by decide +kernel
theorem dX12_strays_18 : decode cX12_strays 18 = .ok (.lconst 0, 1) := by decide +kernel
theorem dX12_strays_19 : decode cX12_strays 19 = .ok (.lcmp, 1) := by decide +kernel
theorem dX12_strays_20 : decode cX12_strays 20 = .ok (.ifCond .ne 6, 3) := by decide +kernel
theorem dX12_strays_23 : decode cX12_strays 23 = .ok (.lconst 1, 1) := by decide +kernel
theorem dX12_strays_24 : decode cX12_strays 24 = .ok (.lstore 9, 2) := by decide +kernel
theorem dX12_strays_26 : decode cX12_strays 26 = .ok (.lconst 0, 1) := by decide +kernel
theorem dX12_strays_27 : decode cX12_strays 27 = .ok (.lstore 11, 2) := by decide +kernel
theorem dX12_strays_29 : decode cX12_strays 29 = .ok (.iconst 0, 1) := by decide +kernel
theorem dX12_strays_30 : decode cX12_strays 30 = .ok (.istore 13, 2) := by decide +kernel
theorem dX12_strays_32 : decode cX12_strays 32 = .ok (.iload 13, 2) := by decide +kernel
theorem dX12_strays_34 : decode cX12_strays 34 = .ok (.aload_n 0, 1) := by decide +kernel
theorem dX12_strays_35 : decode cX12_strays 35 = .ok (.getfield 371, 3) := by decide +kernel
theorem dX12_strays_38 : decode cX12_strays 38 = .ok (.if_icmp .gt 93, 3) := by decide +kernel
theorem dX12_strays_41 : decode cX12_strays 41 = .ok (.aload_n 0, 1) := by decide +kernel
theorem dX12_strays_42 : decode cX12_strays 42 = .ok (.iload 13, 2) := by decide +kernel
theorem dX12_strays_44 : decode cX12_strays 44 = .ok (.invokevirtual 374, 3) := by decide +kernel
theorem dX12_strays_47 : decode cX12_strays 47 = .ok (.istore 14, 2) := by decide +kernel
theorem dX12_strays_49 : decode cX12_strays 49 = .ok (.aload_n 0, 1) := by decide +kernel
theorem dX12_strays_50 : decode cX12_strays 50 = .ok (.iload 13, 2) := by decide +kernel
theorem dX12_strays_52 : decode cX12_strays 52 = .ok (.invokevirtual 377, 3) := by decide +kernel
theorem dX12_strays_55 : decode cX12_strays 55 = .ok (.istore 15, 2) := by decide +kernel
theorem dX12_strays_57 : decode cX12_strays 57 = .ok (.lload 5, 2) := by decide +kernel
theorem dX12_strays_59 : decode cX12_strays 59 = .ok (.aload_n 0, 1) := by decide +kernel
theorem dX12_strays_60 : decode cX12_strays 60 = .ok (.iload 14, 2) := by decide +kernel
theorem dX12_strays_62 : decode cX12_strays 62 = .ok (.iload 15, 2) := by decide +kernel
theorem dX12_strays_64 : decode cX12_strays 64 = .ok (.invokevirtual 195, 3) := by decide +kernel
theorem dX12_strays_67 : decode cX12_strays 67 = .ok (.i2l, 1) := by decide +kernel
theorem dX12_strays_68 : decode cX12_strays 68 = .ok (.lload_n 3, 1) := by decide +kernel
theorem dX12_strays_69 : decode cX12_strays 69 = .ok (.lsub, 1) := by decide +kernel
theorem dX12_strays_70 : decode cX12_strays 70 = .ok (.lmul, 1) := by decide +kernel
theorem dX12_strays_71 : decode cX12_strays 71 = .ok (.lload 7, 2) := by decide +kernel
theorem dX12_strays_73 : decode cX12_strays 73 = .ok (.aload_n 0, 1) := by decide +kernel
theorem dX12_strays_74 : decode cX12_strays 74 = .ok (.iload 14, 2) := by decide +kernel
theorem dX12_strays_76 : decode cX12_strays 76 = .ok (.iload 15, 2) := by decide +kernel
theorem dX12_strays_78 : decode cX12_strays 78 = .ok (.invokevirtual 156, 3) := by decide +kernel
theorem dX12_strays_81 : decode cX12_strays 81 = .ok (.i2l, 1) := by decide +kernel
theorem dX12_strays_82 : decode cX12_strays 82 = .ok (.lload_n 1, 1) := by decide +kernel
theorem dX12_strays_83 : decode cX12_strays 83 = .ok (.lsub, 1) := by decide +kernel
theorem dX12_strays_84 : decode cX12_strays 84 = .ok (.lmul, 1) := by decide +kernel
theorem dX12_strays_85 : decode cX12_strays 85 = .ok (.lsub, 1) := by decide +kernel
theorem dX12_strays_86 : decode cX12_strays 86 = .ok (.lstore 16, 2) := by decide +kernel
theorem dX12_strays_88 : decode cX12_strays 88 = .ok (.lload 16, 2) := by decide +kernel
theorem dX12_strays_90 : decode cX12_strays 90 = .ok (.lconst 0, 1) := by decide +kernel
theorem dX12_strays_91 : decode cX12_strays 91 = .ok (.lcmp, 1) := by decide +kernel
theorem dX12_strays_92 : decode cX12_strays 92 = .ok (.ifCond .ge 9, 3) := by decide +kernel
theorem dX12_strays_95 : decode cX12_strays 95 = .ok (.lload 16, 2) := by decide +kernel
theorem dX12_strays_97 : decode cX12_strays 97 = .ok (.lneg, 1) := by decide +kernel
theorem dX12_strays_98 : decode cX12_strays 98 = .ok (.goto 5, 3) := by decide +kernel
theorem dX12_strays_101 : decode cX12_strays 101 = .ok (.lload 16, 2) := by decide +kernel
theorem dX12_strays_103 : decode cX12_strays 103 = .ok (.lload 9, 2) := by decide +kernel
theorem dX12_strays_105 : decode cX12_strays 105 = .ok (.ldiv, 1) := by decide +kernel
theorem dX12_strays_106 : decode cX12_strays 106 = .ok (.lstore 16, 2) := by decide +kernel
theorem dX12_strays_108 : decode cX12_strays 108 = .ok (.lload 16, 2) := by decide +kernel
theorem dX12_strays_110 : decode cX12_strays 110 = .ok (.lload 11, 2) := by decide +kernel
theorem dX12_strays_112 : decode cX12_strays 112 = .ok (.lcmp, 1) := by decide +kernel
theorem dX12_strays_113 : decode cX12_strays 113 = .ok (.ifCond .le 8, 3) := by decide +kernel
theorem dX12_strays_116 : decode cX12_strays 116 = .ok (.lload 16, 2) := by decide +kernel
theorem dX12_strays_118 : decode cX12_strays 118 = .ok (.goto 5, 3) := by decide +kernel
theorem dX12_strays_121 : decode cX12_strays 121 = .ok (.lload 11, 2) := by decide +kernel
theorem dX12_strays_123 : decode cX12_strays 123 = .ok (.lstore 11, 2) := by decide +kernel
theorem dX12_strays_125 : decode cX12_strays 125 = .ok (.iinc 13 1, 3) := by decide +kernel
theorem dX12_strays_128 : decode cX12_strays 128 = .ok (.goto (-96), 3) := by decide +kernel
theorem dX12_strays_131 : decode cX12_strays 131 = .ok (.lload 11, 2) := by decide +kernel
theorem dX12_strays_133 : decode cX12_strays 133 = .ok (.l2i, 1) := by decide +kernel
theorem dX12_strays_134 : decode cX12_strays 134 = .ok (.ireturn, 1) := by decide +kernel
theorem dX12_sag_0 : decode cX12_sag 0 = .ok (.aload_n 0, 1) := by decide +kernel
theorem dX12_sag_1 : decode cX12_sag 1 = .ok (.iconst 0, 1) := by decide +kernel
theorem dX12_sag_2 : decode cX12_sag 2 = .ok (.putfield 127, 3) := by decide +kernel
theorem dX12_sag_5 : decode cX12_sag 5 = .ok (.aload_n 0, 1) := by decide +kernel
theorem dX12_sag_6 : decode cX12_sag 6 = .ok (.iload_n 1, 1) := by decide +kernel
theorem dX12_sag_7 : decode cX12_sag 7 = .ok (.invokevirtual 350, 3) := by decide +kernel
theorem dX12_sag_10 : decode cX12_sag 10 = .ok (.ifCond .ne 5, 3) := by decide +kernel
theorem dX12_sag_13 : decode cX12_sag 13 = .ok (.iconst (-1), 1) := by decide +kernel
theorem dX12_sag_14 : decode cX12_sag 14 = .ok (.ireturn, 1) := by decide +kernel
theorem dX12_sag_15 : decode cX12_sag 15 = .ok (.aload_n 0, 1) := by decide +kernel
theorem dX12_sag_16 : decode cX12_sag 16 = .ok (.aload_n 0, 1) := by decide +kernel
theorem dX12_sag_17 : decode cX12_sag 17 = .ok (.iload_n 1, 1) := by decide +kernel
theorem dX12_sag_18 : decode cX12_sag 18 = .ok (.invokevirtual 344, 3) := by decide +kernel
theorem dX12_sag_21 : decode cX12_sag 21 = .ok (.aload_n 0, 1) := by decide +kernel
theorem dX12_sag_22 : decode cX12_sag 22 = .ok (.iload_n 1, 1) := by decide +kernel
theorem dX12_sag_23 : decode cX12_sag 23 = .ok (.invokevirtual 347, 3) := by decide +kernel
theorem dX12_sag_26 : decode cX12_sag 26 = .ok (.aload_n 0, 1) := by decide +kernel
theorem dX12_sag_27 : decode cX12_sag 27 = .ok (.iload_n 1, 1) := by decide +kernel
theorem dX12_sag_28 : decode cX12_sag 28 = .ok (.iconst 1, 1) := by decide +kernel
theorem dX12_sag_29 : decode cX12_sag 29 = .ok (.iadd, 1) := by decide +kernel
theorem dX12_sag_30 : decode cX12_sag 30 = .ok (.invokevirtual 344, 3) := by decide +kernel
theorem dX12_sag_33 : decode cX12_sag 33 = .ok (.aload_n 0, 1) := by decide +kernel
theorem dX12_sag_34 : decode cX12_sag 34 = .ok (.iload_n 1, 1) := by decide +kernel
theorem dX12_sag_35 : decode cX12_sag 35 = .ok (.iconst 1, 1) := by decide +kernel
theorem dX12_sag_36 : decode cX12_sag 36 = .ok (.iadd, 1) := by decide +kernel
theorem dX12_sag_37 : decode cX12_sag 37 = .ok (.invokevirtual 347, 3) := by decide +kernel
theorem dX12_sag_40 : decode cX12_sag 40 = .ok (.invokevirtual 380, 3) := by decide +kernel
theorem dX12_sag_43 : decode cX12_sag 43 = .ok (.aload_n 0, 1) := by decide +kernel
theorem dX12_sag_44 : decode cX12_sag 44 = .ok (.aload_n 0, 1) := by decide +kernel
theorem dX12_sag_45 : decode cX12_sag 45 = .ok (.getfield 371, 3) := by decide +kernel
theorem dX12_sag_48 : decode cX12_sag 48 = .ok (.invokevirtual 374, 3) := by decide +kernel
theorem dX12_sag_51 : decode cX12_sag 51 = .ok (.istore_n 2, 1) := by decide +kernel
theorem dX12_sag_52 : decode cX12_sag 52 = .ok (.aload_n 0, 1) := by decide +kernel
theorem dX12_sag_53 : decode cX12_sag 53 = .ok (.aload_n 0, 1) := by decide +kernel
theorem dX12_sag_54 : decode cX12_sag 54 = .ok (.getfield 371, 3) := by decide +kernel
theorem dX12_sag_57 : decode cX12_sag 57 = .ok (.invokevirtual 377, 3) := by decide +kernel
theorem dX12_sag_60 : decode cX12_sag 60 = .ok (.istore_n 3, 1) := by decide +kernel
theorem dX12_sag_61 : decode cX12_sag 61 = .ok (.aload_n 0, 1) := by decide +kernel
theorem dX12_sag_62 : decode cX12_sag 62 = .ok (.aload_n 0, 1) := by decide +kernel
theorem dX12_sag_63 : decode cX12_sag 63 = .ok (.getfield 359, 3) := by decide +kernel
theorem dX12_sag_66 : decode cX12_sag 66 = .ok (.aload_n 0, 1) := by decide +kernel
theorem dX12_sag_67 : decode cX12_sag 67 = .ok (.getfield 362, 3) := by decide +kernel
theorem dX12_sag_70 : decode cX12_sag 70 = .ok (.invokevirtual 156, 3) := by decide +kernel
theorem dX12_sag_73 : decode cX12_sag 73 = .ok (.i2l, 1) := by decide +kernel
theorem dX12_sag_74 : decode cX12_sag 74 = .ok (.lstore 4, 2) := by decide +kernel
theorem dX12_sag_76 : decode cX12_sag 76 = .ok (.aload_n 0, 1) := by decide +kernel
theorem dX12_sag_77 : decode cX12_sag 77 = .ok (.aload_n 0, 1) := by decide +kernel
theorem dX12_sag_78 : decode cX12_sag 78 = .ok (.getfield 359, 3) := by decide +kernel
theorem dX12_sag_81 : decode cX12_sag 81 = .ok (.aload_n 0, 1) := by decide +kernel
theorem dX12_sag_82 : decode cX12_sag 82 = .ok (.getfield 362, 3) := by decide +kernel
theorem dX12_sag_85 : decode cX12_sag 85 = .ok (.invokevirtual 195, 3) := by decide +kernel
theorem dX12_sag_88 : decode cX12_sag 88 = .ok (.i2l, 1) := by decide +kernel
theorem dX12_sag_89 : decode cX12_sag 89 = .ok (.lstore 6, 2) := by decide +kernel
theorem dX12_sag_91 : decode cX12_sag 91 = .ok (.aload_n 0, 1) := by decide +kernel
theorem dX12_sag_92 : decode cX12_sag 92 = .ok (.lload 4, 2) := by decide +kernel
theorem dX12_sag_94 : decode cX12_sag 94 = .ok (.lload 6, 2) := by decide +kernel
theorem dX12_sag_96 : decode cX12_sag 96 = .ok (.aload_n 0, 1) := by decide +kernel
theorem dX12_sag_97 : decode cX12_sag 97 = .ok (.iload_n 2, 1) := by decide +kernel
theorem dX12_sag_98 : decode cX12_sag 98 = .ok (.iload_n 3, 1) := by decide +kernel
theorem dX12_sag_99 : decode cX12_sag 99 = .ok (.invokevirtual 156, 3) := by decide +kernel
theorem dX12_sag_102 : decode cX12_sag 102 = .ok (.i2l, 1) := by decide +kernel
theorem dX12_sag_103 : decode cX12_sag 103 = .ok (.lload 4, 2) := by decide +kernel
theorem dX12_sag_105 : decode cX12_sag 105 = .ok (.lsub, 1) := by decide +kernel
theorem dX12_sag_106 : decode cX12_sag 106 = .ok (.aload_n 0, 1) := by decide +kernel
theorem dX12_sag_107 : decode cX12_sag 107 = .ok (.iload_n 2, 1) := by decide +kernel
theorem dX12_sag_108 : decode cX12_sag 108 = .ok (.iload_n 3, 1) := by decide +kernel
theorem dX12_sag_109 : decode cX12_sag 109 = .ok (.invokevirtual 195, 3) := by decide +kernel
theorem dX12_sag_112 : decode cX12_sag 112 = .ok (.i2l, 1) := by decide +kernel
theorem dX12_sag_113 : decode cX12_sag 113 = .ok (.lload 6, 2) := by decide +kernel
theorem dX12_sag_115 : decode cX12_sag 115 = .ok (.lsub, 1) := by decide +kernel
theorem dX12_sag_116 : decode cX12_sag 116 = .ok (.invokevirtual 384, 3) := by decide +kernel
theorem dX12_sag_119 : decode cX12_sag 119 = .ok (.ireturn, 1) := by decide +kernel
theorem dX12_straysIn_0 : decode cX12_straysIn 0 = .ok (.bipush 100, 2) := by decide +kernel
theorem dX12_straysIn_2 : decode cX12_straysIn 2 = .ok (.aload_n 0, 1) := by decide +kernel
theorem dX12_straysIn_3 : decode cX12_straysIn 3 = .ok (.getfield 59, 3) := by decide +kernel
theorem dX12_straysIn_6 : decode cX12_straysIn 6 = .ok (.iload_n 1, 1) := by decide +kernel
theorem dX12_straysIn_7 : decode cX12_straysIn 7 = .ok (.iaload, 1) := by decide +kernel
theorem dX12_straysIn_8 : decode cX12_straysIn 8 = .ok (.imul, 1) := by decide +kernel
theorem dX12_straysIn_9 : decode cX12_straysIn 9 = .ok (.istore_n 3, 1) := by decide +kernel
theorem dX12_straysIn_10 : decode cX12_straysIn 10 = .ok (.bipush 100, 2) := by decide +kernel
theorem dX12_straysIn_12 : decode cX12_straysIn 12 = .ok (.aload_n 0, 1) := by decide +kernel
theorem dX12_straysIn_13 : decode cX12_straysIn 13 = .ok (.getfield 62, 3) := by decide +kernel
theorem dX12_straysIn_16 : decode cX12_straysIn 16 = .ok (.iload_n 1, 1) := by decide +kernel
theorem dX12_straysIn_17 : decode cX12_straysIn 17 = .ok (.iaload, 1) := by decide +kernel
theorem dX12_straysIn_18 : decode cX12_straysIn 18 = .ok (.imul, 1) := by decide +kernel
theorem dX12_straysIn_19 : decode cX12_straysIn 19 = .ok (.istore 4, 2) := by decide +kernel
theorem dX12_straysIn_21 : decode cX12_straysIn 21 = .ok (.bipush 100, 2) := by decide +kernel
theorem dX12_straysIn_23 : decode cX12_straysIn 23 = .ok (.aload_n 0, 1) := by decide +kernel
theorem dX12_straysIn_24 : decode cX12_straysIn 24 = .ok (.getfield 59, 3) := by decide +kernel
theorem dX12_straysIn_27 : decode cX12_straysIn 27 = .ok (.iload_n 1, 1) := by decide +kernel
theorem dX12_straysIn_28 : decode cX12_straysIn 28 = .ok (.iconst 1, 1) := by decide +kernel
theorem dX12_straysIn_29 : decode cX12_straysIn 29 = .ok (.iadd, 1) := by decide +kernel
theorem dX12_straysIn_30 : decode cX12_straysIn 30 = .ok (.iaload, 1) := by decide +kernel
theorem dX12_straysIn_31 : decode cX12_straysIn 31 = .ok (.imul, 1) := by decide +kernel
theorem dX12_straysIn_32 : decode cX12_straysIn 32 = .ok (.iload_n 3, 1) := by decide +kernel
theorem dX12_straysIn_33 : decode cX12_straysIn 33 = .ok (.isub, 1) := by decide +kernel
theorem dX12_straysIn_34 : decode cX12_straysIn 34 = .ok (.istore 5, 2) := by decide +kernel
theorem dX12_straysIn_36 : decode cX12_straysIn 36 = .ok (.bipush 100, 2) := by decide +kernel
theorem dX12_straysIn_38 : decode cX12_straysIn 38 = .ok (.aload_n 0, 1) := by decide +kernel
theorem dX12_straysIn_39 : decode cX12_straysIn 39 = .ok (.getfield 62, 3) := by decide +kernel
theorem dX12_straysIn_42 : decode cX12_straysIn 42 = .ok (.iload_n 1, 1) := by decide +kernel
theorem dX12_straysIn_43 : decode cX12_straysIn 43 = .ok (.iconst 1, 1) := by decide +kernel
theorem dX12_straysIn_44 : decode cX12_straysIn 44 = .ok (.iadd, 1) := by decide +kernel
theorem dX12_straysIn_45 : decode cX12_straysIn 45 = .ok (.iaload, 1) := by decide +kernel
theorem dX12_straysIn_46 : decode cX12_straysIn 46 = .ok (.imul, 1) := by decide +kernel
theorem dX12_straysIn_47 : decode cX12_straysIn 47 = .ok (.iload 4, 2) := by decide +kernel
theorem dX12_straysIn_49 : decode cX12_straysIn 49 = .ok (.isub, 1) := by decide +kernel
theorem dX12_straysIn_50 : decode cX12_straysIn 50 = .ok (.istore 6, 2) := by decide +kernel
theorem dX12_straysIn_52 : decode cX12_straysIn 52 = .ok (.iconst 0, 1) := by decide +kernel
theorem dX12_straysIn_53 : decode cX12_straysIn 53 = .ok (.istore 7, 2) := by decide +kernel
theorem dX12_straysIn_55 : decode cX12_straysIn 55 = .ok (.aload_n 0, 1) := by decide +kernel
theorem dX12_straysIn_56 : decode cX12_straysIn 56 = .ok (.iload_n 3, 1) := by decide +kernel
theorem dX12_straysIn_57 : decode cX12_straysIn 57 = .ok (.iload 4, 2) := by decide +kernel
theorem dX12_straysIn_59 : decode cX12_straysIn 59 = .ok (.invokevirtual 188, 3) := by decide +kernel
theorem dX12_straysIn_62 : decode cX12_straysIn 62 = .ok (.istore 8, 2) := by decide +kernel
theorem dX12_straysIn_64 : decode cX12_straysIn 64 = .ok (.aload_n 0, 1) := by decide +kernel
theorem dX12_straysIn_65 : decode cX12_straysIn 65 = .ok (.iload_n 3, 1) := by decide +kernel
theorem dX12_straysIn_66 : decode cX12_straysIn 66 = .ok (.iload 4, 2) := by decide +kernel
theorem dX12_straysIn_68 : decode cX12_straysIn 68 = .ok (.invokevirtual 191, 3) := by decide +kernel
theorem dX12_straysIn_71 : decode cX12_straysIn 71 = .ok (.istore 9, 2) := by decide +kernel
theorem dX12_straysIn_73 : decode cX12_straysIn 73 = .ok (.iconst 1, 1) := by decide +kernel
theorem dX12_straysIn_74 : decode cX12_straysIn 74 = .ok (.istore 10, 2) := by decide +kernel
theorem dX12_straysIn_76 : decode cX12_straysIn 76 = .ok (.iload 10, 2) := by decide +kernel
theorem dX12_straysIn_78 : decode cX12_straysIn 78 = .ok (.iload_n 2, 1) := by decide +kernel
theorem dX12_straysIn_79 : decode cX12_straysIn 79 = .ok (.if_icmp .gt 105, 3) := by decide +kernel
theorem dX12_straysIn_82 : decode cX12_straysIn 82 = .ok (.iload_n 3, 1) := by decide +kernel
theorem dX12_straysIn_83 : decode cX12_straysIn 83 = .ok (.iload 5, 2) := by decide +kernel
theorem dX12_straysIn_85 : decode cX12_straysIn 85 = .ok (.iload 10, 2) := by decide +kernel
theorem dX12_straysIn_87 : decode cX12_straysIn 87 = .ok (.imul, 1) := by decide +kernel
theorem dX12_straysIn_88 : decode cX12_straysIn 88 = .ok (.iload_n 2, 1) := by decide +kernel
theorem dX12_straysIn_89 : decode cX12_straysIn 89 = .ok (.idiv, 1) := by decide +kernel
theorem dX12_straysIn_90 : decode cX12_straysIn 90 = .ok (.iadd, 1) := by decide +kernel
theorem dX12_straysIn_91 : decode cX12_straysIn 91 = .ok (.istore 11, 2) := by decide +kernel
theorem dX12_straysIn_93 : decode cX12_straysIn 93 = .ok (.iload 4, 2) := by decide +kernel
theorem dX12_straysIn_95 : decode cX12_straysIn 95 = .ok (.iload 6, 2) := by decide +kernel
theorem dX12_straysIn_97 : decode cX12_straysIn 97 = .ok (.iload 10, 2) := by decide +kernel
theorem dX12_straysIn_99 : decode cX12_straysIn 99 = .ok (.imul, 1) := by decide +kernel
theorem dX12_straysIn_100 : decode cX12_straysIn 100 = .ok (.iload_n 2, 1) := by decide +kernel
theorem dX12_straysIn_101 : decode cX12_straysIn 101 = .ok (.idiv, 1) := by decide +kernel
theorem dX12_straysIn_102 : decode cX12_straysIn 102 = .ok (.iadd, 1) := by decide +kernel
theorem dX12_straysIn_103 : decode cX12_straysIn 103 = .ok (.istore 12, 2) := by decide +kernel
theorem dX12_straysIn_105 : decode cX12_straysIn 105 = .ok (.aload_n 0, 1) := by decide +kernel
theorem dX12_straysIn_106 : decode cX12_straysIn 106 = .ok (.iload 11, 2) := by decide +kernel
theorem dX12_straysIn_108 : decode cX12_straysIn 108 = .ok (.iload 12, 2) := by decide +kernel
theorem dX12_straysIn_110 : decode cX12_straysIn 110 = .ok (.invokevirtual 188, 3) := by decide +kernel
theorem dX12_straysIn_113 : decode cX12_straysIn 113 = .ok (.istore 13, 2) := by decide +kernel
theorem dX12_straysIn_115 : decode cX12_straysIn 115 = .ok (.aload_n 0, 1) := by decide +kernel
theorem dX12_straysIn_116 : decode cX12_straysIn 116 = .ok (.iload 11, 2) := by decide +kernel
theorem dX12_straysIn_118 : decode cX12_straysIn 118 = .ok (.iload 12, 2) := by decide +kernel
theorem dX12_straysIn_120 : decode cX12_straysIn 120 = .ok (.invokevirtual 191, 3) := by decide +kernel
theorem dX12_straysIn_123 : decode cX12_straysIn 123 = .ok (.istore 14, 2) := by decide +kernel
theorem dX12_straysIn_125 : decode cX12_straysIn 125 = .ok (.aload_n 0, 1) := by decide +kernel
theorem dX12_straysIn_126 : decode cX12_straysIn 126 = .ok (.iload 8, 2) := by decide +kernel
theorem dX12_straysIn_128 : decode cX12_straysIn 128 = .ok (.iload 9, 2) := by decide +kernel
theorem dX12_straysIn_130 : decode cX12_straysIn 130 = .ok (.iload 13, 2) := by decide +kernel
theorem dX12_straysIn_132 : decode cX12_straysIn 132 = .ok (.iload 14, 2) := by decide +kernel
theorem dX12_straysIn_134 : decode cX12_straysIn 134 = .ok (.invokevirtual 380, 3) := by decide +kernel
theorem dX12_straysIn_137 : decode cX12_straysIn 137 = .ok (.aload_n 0, 1) := by decide +kernel
theorem dX12_straysIn_138 : decode cX12_straysIn 138 = .ok (.iload_n 3, 1) := by decide +kernel
theorem dX12_straysIn_139 : decode cX12_straysIn 139 = .ok (.i2l, 1) := by decide +kernel
theorem dX12_straysIn_140 : decode cX12_straysIn 140 = .ok (.iload 4, 2) := by decide +kernel
theorem dX12_straysIn_142 : decode cX12_straysIn 142 = .ok (.i2l, 1) := by decide +kernel
theorem dX12_straysIn_143 : decode cX12_straysIn 143 = .ok (.iload 5, 2) := by decide +kernel
theorem dX12_straysIn_145 : decode cX12_straysIn 145 = .ok (.i2l, 1) := by decide +kernel
theorem dX12_straysIn_146 : decode cX12_straysIn 146 = .ok (.iload 6, 2) := by decide +kernel
theorem dX12_straysIn_148 : decode cX12_straysIn 148 = .ok (.i2l, 1) := by decide +kernel
theorem dX12_straysIn_149 : decode cX12_straysIn 149 = .ok (.invokevirtual 384, 3) := by decide +kernel
theorem dX12_straysIn_152 : decode cX12_straysIn 152 = .ok (.istore 15, 2) := by decide +kernel
theorem dX12_straysIn_154 : decode cX12_straysIn 154 = .ok (.iload 15, 2) := by decide +kernel
theorem dX12_straysIn_156 : decode cX12_straysIn 156 = .ok (.iload 7, 2) := by decide +kernel
theorem dX12_straysIn_158 : decode cX12_straysIn 158 = .ok (.if_icmp .le 8, 3) := by decide +kernel
theorem dX12_straysIn_161 : decode cX12_straysIn 161 = .ok (.iload 15, 2) := by decide +kernel
theorem dX12_straysIn_163 : decode cX12_straysIn 163 = .ok (.goto 5, 3) := by decide +kernel
theorem dX12_straysIn_166 : decode cX12_straysIn 166 = .ok (.iload 7, 2) := by decide +kernel
theorem dX12_straysIn_168 : decode cX12_straysIn 168 = .ok (.istore 7, 2) := by decide +kernel
theorem dX12_straysIn_170 : decode cX12_straysIn 170 = .ok (.iload 13, 2) := by decide +kernel
theorem dX12_straysIn_172 : decode cX12_straysIn 172 = .ok (.istore 8, 2) := by decide +kernel
theorem dX12_straysIn_174 : decode cX12_straysIn 174 = .ok (.iload 14, 2) := by decide +kernel
theorem dX12_straysIn_176 : decode cX12_straysIn 176 = .ok (.istore 9, 2) := by decide +kernel
theorem dX12_straysIn_178 : decode cX12_straysIn 178 = .ok (.iinc 10 1, 3) := by decide +kernel
theorem dX12_straysIn_181 : decode cX12_straysIn 181 = .ok (.goto (-105), 3) := by decide +kernel
theorem dX12_straysIn_184 : decode cX12_straysIn 184 = .ok (.iload 7, 2) := by decide +kernel
theorem dX12_straysIn_186 : decode cX12_straysIn 186 = .ok (.ireturn, 1) := by decide +kernel
theorem dX12_parts_0 : decode cX12_parts 0 = .ok (.aload_n 0, 1) := by decide +kernel
theorem dX12_parts_1 : decode cX12_parts 1 = .ok (.iconst 0, 1) := by decide +kernel
theorem dX12_parts_2 : decode cX12_parts 2 = .ok (.putfield 127, 3) := by decide +kernel
theorem dX12_parts_5 : decode cX12_parts 5 = .ok (.aload_n 0, 1) := by decide +kernel
theorem dX12_parts_6 : decode cX12_parts 6 = .ok (.iload_n 1, 1) := by decide +kernel
theorem dX12_parts_7 : decode cX12_parts 7 = .ok (.invokevirtual 350, 3) := by decide +kernel
theorem dX12_parts_10 : decode cX12_parts 10 = .ok (.ifCond .eq 7, 3) := by decide +kernel
theorem dX12_parts_13 : decode cX12_parts 13 = .ok (.iload_n 2, 1) := by decide +kernel
theorem dX12_parts_14 : decode cX12_parts 14 = .ok (.ifCond .ge 5, 3) := by decide +kernel
theorem dX12_parts_17 : decode cX12_parts 17 = .ok (.iconst (-1), 1) := by decide +kernel
theorem dX12_parts_18 : decode cX12_parts 18 = .ok (.ireturn, 1) := by decide +kernel
theorem dX12_parts_19 : decode cX12_parts 19 = .ok (.iconst 1, 1) := by decide +kernel
theorem dX12_parts_20 : decode cX12_parts 20 = .ok (.istore_n 3, 1) := by decide +kernel
theorem dX12_parts_21 : decode cX12_parts 21 = .ok (.iload_n 3, 1) := by decide +kernel
theorem dX12_parts_22 : decode cX12_parts 22 = .ok (.bipush 64, 2) := by decide +kernel
theorem dX12_parts_24 : decode cX12_parts 24 = .ok (.if_icmp .gt 21, 3) := by decide +kernel
theorem dX12_parts_27 : decode cX12_parts 27 = .ok (.aload_n 0, 1) := by decide +kernel
theorem dX12_parts_28 : decode cX12_parts 28 = .ok (.iload_n 1, 1) := by decide +kernel
theorem dX12_parts_29 : decode cX12_parts 29 = .ok (.iload_n 3, 1) := by decide +kernel
theorem dX12_parts_30 : decode cX12_parts 30 = .ok (.invokevirtual 388, 3) := by decide +kernel
theorem dX12_parts_33 : decode cX12_parts 33 = .ok (.iload_n 2, 1) := by decide +kernel
theorem dX12_parts_34 : decode cX12_parts 34 = .ok (.if_icmp .gt 5, 3) := by decide +kernel
theorem dX12_parts_37 : decode cX12_parts 37 = .ok (.iload_n 3, 1) := by decide +kernel
theorem dX12_parts_38 : decode cX12_parts 38 = .ok (.ireturn, 1) := by decide +kernel
theorem dX12_parts_39 : decode cX12_parts 39 = .ok (.iinc 3 1, 3) := by decide +kernel
theorem dX12_parts_42 : decode cX12_parts 42 = .ok (.goto (-21), 3) := by decide +kernel
theorem dX12_parts_45 : decode cX12_parts 45 = .ok (.iconst (-1), 1) := by decide +kernel
theorem dX12_parts_46 : decode cX12_parts 46 = .ok (.ireturn, 1) := by decide +kernel
theorem dX12_skips_0 : decode cX12_skips 0 = .ok (.aload_n 0, 1) := by decide +kernel
theorem dX12_skips_1 : decode cX12_skips 1 = .ok (.iconst 0, 1) := by decide +kernel
theorem dX12_skips_2 : decode cX12_skips 2 = .ok (.putfield 127, 3) := by decide +kernel
theorem dX12_skips_5 : decode cX12_skips 5 = .ok (.iload_n 1, 1) := by decide +kernel
theorem dX12_skips_6 : decode cX12_skips 6 = .ok (.ifCond .ge 5, 3) := by decide +kernel
theorem dX12_skips_9 : decode cX12_skips 9 = .ok (.iconst (-1), 1) := by decide +kernel
theorem dX12_skips_10 : decode cX12_skips 10 = .ok (.ireturn, 1) := by decide +kernel
theorem dX12_skips_11 : decode cX12_skips 11 = .ok (.iconst 0, 1) := by decide +kernel
theorem dX12_skips_12 : decode cX12_skips 12 = .ok (.istore_n 2, 1) := by decide +kernel
theorem dX12_skips_13 : decode cX12_skips 13 = .ok (.iconst 0, 1) := by decide +kernel
theorem dX12_skips_14 : decode cX12_skips 14 = .ok (.istore_n 3, 1) := by decide +kernel
theorem dX12_skips_15 : decode cX12_skips 15 = .ok (.iload_n 3, 1) := by decide +kernel
theorem dX12_skips_16 : decode cX12_skips 16 = .ok (.aload_n 0, 1) := by decide +kernel
theorem dX12_skips_17 : decode cX12_skips 17 = .ok (.getfield 164, 3) := by decide +kernel
theorem dX12_skips_20 : decode cX12_skips 20 = .ok (.if_icmp .ge 113, 3) := by decide +kernel
theorem dX12_skips_23 : decode cX12_skips 23 = .ok (.aload_n 0, 1) := by decide +kernel
theorem dX12_skips_24 : decode cX12_skips 24 = .ok (.getfield 65, 3) := by decide +kernel
theorem dX12_skips_27 : decode cX12_skips 27 = .ok (.iload_n 3, 1) := by decide +kernel
theorem dX12_skips_28 : decode cX12_skips 28 = .ok (.iconst 1, 1) := by decide +kernel
theorem dX12_skips_29 : decode cX12_skips 29 = .ok (.iadd, 1) := by decide +kernel
theorem dX12_skips_30 : decode cX12_skips 30 = .ok (.baload, 1) := by decide +kernel
theorem dX12_skips_31 : decode cX12_skips 31 = .ok (.ifCond .ne 6, 3) := by decide +kernel
theorem dX12_skips_34 : decode cX12_skips 34 = .ok (.goto 93, 3) := by decide +kernel
theorem dX12_skips_37 : decode cX12_skips 37 = .ok (.aload_n 0, 1) := by decide +kernel
theorem dX12_skips_38 : decode cX12_skips 38 = .ok (.aload_n 0, 1) := by decide +kernel
theorem dX12_skips_39 : decode cX12_skips 39 = .ok (.iload_n 3, 1) := by decide +kernel
theorem dX12_skips_40 : decode cX12_skips 40 = .ok (.invokevirtual 344, 3) := by decide +kernel
theorem dX12_skips_43 : decode cX12_skips 43 = .ok (.aload_n 0, 1) := by decide +kernel
theorem dX12_skips_44 : decode cX12_skips 44 = .ok (.iload_n 3, 1) := by decide +kernel
theorem dX12_skips_45 : decode cX12_skips 45 = .ok (.invokevirtual 347, 3) := by decide +kernel
theorem dX12_skips_48 : decode cX12_skips 48 = .ok (.aload_n 0, 1) := by decide +kernel
theorem dX12_skips_49 : decode cX12_skips 49 = .ok (.iload_n 3, 1) := by decide +kernel
theorem dX12_skips_50 : decode cX12_skips 50 = .ok (.iconst 1, 1) := by decide +kernel
theorem dX12_skips_51 : decode cX12_skips 51 = .ok (.iadd, 1) := by decide +kernel
theorem dX12_skips_52 : decode cX12_skips 52 = .ok (.invokevirtual 344, 3) := by decide +kernel
theorem dX12_skips_55 : decode cX12_skips 55 = .ok (.aload_n 0, 1) := by decide +kernel
theorem dX12_skips_56 : decode cX12_skips 56 = .ok (.iload_n 3, 1) := by decide +kernel
theorem dX12_skips_57 : decode cX12_skips 57 = .ok (.iconst 1, 1) := by decide +kernel
theorem dX12_skips_58 : decode cX12_skips 58 = .ok (.iadd, 1) := by decide +kernel
theorem dX12_skips_59 : decode cX12_skips 59 = .ok (.invokevirtual 347, 3) := by decide +kernel
theorem dX12_skips_62 : decode cX12_skips 62 = .ok (.invokevirtual 380, 3) := by decide +kernel
theorem dX12_skips_65 : decode cX12_skips 65 = .ok (.iconst 1, 1) := by decide +kernel
theorem dX12_skips_66 : decode cX12_skips 66 = .ok (.istore 4, 2) := by decide +kernel
theorem dX12_skips_68 : decode cX12_skips 68 = .ok (.iload 4, 2) := by decide +kernel
theorem dX12_skips_70 : decode cX12_skips 70 = .ok (.aload_n 0, 1) := by decide +kernel
theorem dX12_skips_71 : decode cX12_skips 71 = .ok (.getfield 371, 3) := by decide +kernel
theorem dX12_skips_74 : decode cX12_skips 74 = .ok (.if_icmp .gt 53, 3) := by decide +kernel
theorem dX12_skips_77 : decode cX12_skips 77 = .ok (.iload_n 2, 1) := by decide +kernel
theorem dX12_skips_78 : decode cX12_skips 78 = .ok (.aload_n 0, 1) := by decide +kernel
theorem dX12_skips_79 : decode cX12_skips 79 = .ok (.aload_n 0, 1) := by decide +kernel
theorem dX12_skips_80 : decode cX12_skips 80 = .ok (.iload 4, 2) := by decide +kernel
theorem dX12_skips_82 : decode cX12_skips 82 = .ok (.iconst 1, 1) := by decide +kernel
theorem dX12_skips_83 : decode cX12_skips 83 = .ok (.isub, 1) := by decide +kernel
theorem dX12_skips_84 : decode cX12_skips 84 = .ok (.invokevirtual 374, 3) := by decide +kernel
theorem dX12_skips_87 : decode cX12_skips 87 = .ok (.aload_n 0, 1) := by decide +kernel
theorem dX12_skips_88 : decode cX12_skips 88 = .ok (.iload 4, 2) := by decide +kernel
theorem dX12_skips_90 : decode cX12_skips 90 = .ok (.iconst 1, 1) := by decide +kernel
theorem dX12_skips_91 : decode cX12_skips 91 = .ok (.isub, 1) := by decide +kernel
theorem dX12_skips_92 : decode cX12_skips 92 = .ok (.invokevirtual 377, 3) := by decide +kernel
theorem dX12_skips_95 : decode cX12_skips 95 = .ok (.aload_n 0, 1) := by decide +kernel
theorem dX12_skips_96 : decode cX12_skips 96 = .ok (.iload 4, 2) := by decide +kernel
theorem dX12_skips_98 : decode cX12_skips 98 = .ok (.invokevirtual 374, 3) := by decide +kernel
theorem dX12_skips_101 : decode cX12_skips 101 = .ok (.aload_n 0, 1) := by decide +kernel
theorem dX12_skips_102 : decode cX12_skips 102 = .ok (.iload 4, 2) := by decide +kernel
theorem dX12_skips_104 : decode cX12_skips 104 = .ok (.invokevirtual 377, 3) := by decide +kernel
theorem dX12_skips_107 : decode cX12_skips 107 = .ok (.invokevirtual 202, 3) := by decide +kernel
theorem dX12_skips_110 : decode cX12_skips 110 = .ok (.iload_n 1, 1) := by decide +kernel
theorem dX12_skips_111 : decode cX12_skips 111 = .ok (.if_icmp .le 7, 3) := by decide +kernel
theorem dX12_skips_114 : decode cX12_skips 114 = .ok (.iconst 1, 1) := by decide +kernel
theorem dX12_skips_115 : decode cX12_skips 115 = .ok (.goto 4, 3) := by decide +kernel
theorem dX12_skips_118 : decode cX12_skips 118 = .ok (.iconst 0, 1) := by decide +kernel
theorem dX12_skips_119 : decode cX12_skips 119 = .ok (.iadd, 1) := by decide +kernel
theorem dX12_skips_120 : decode cX12_skips 120 = .ok (.istore_n 2, 1) := by decide +kernel
theorem dX12_skips_121 : decode cX12_skips 121 = .ok (.iinc 4 1, 3) := by decide +kernel
theorem dX12_skips_124 : decode cX12_skips 124 = .ok (.goto (-56), 3) := by decide +kernel
theorem dX12_skips_127 : decode cX12_skips 127 = .ok (.iinc 3 1, 3) := by decide +kernel
theorem dX12_skips_130 : decode cX12_skips 130 = .ok (.goto (-115), 3) := by decide +kernel
theorem dX12_skips_133 : decode cX12_skips 133 = .ok (.iload_n 2, 1) := by decide +kernel
theorem dX12_skips_134 : decode cX12_skips 134 = .ok (.ireturn, 1) := by decide +kernel
theorem dX12_ticks_0 : decode cX12_ticks 0 = .ok (.aload_n 0, 1) := by decide +kernel
theorem dX12_ticks_1 : decode cX12_ticks 1 = .ok (.iconst 0, 1) := by decide +kernel
theorem dX12_ticks_2 : decode cX12_ticks 2 = .ok (.putfield 127, 3) := by decide +kernel
theorem dX12_ticks_5 : decode cX12_ticks 5 = .ok (.iload_n 1, 1) := by decide +kernel
theorem dX12_ticks_6 : decode cX12_ticks 6 = .ok (.iconst 0, 1) := by decide +kernel
theorem dX12_ticks_7 : decode cX12_ticks 7 = .ok (.iconst 1, 1) := by decide +kernel
theorem dX12_ticks_8 : decode cX12_ticks 8 = .ok (.invokestatic 160, 3) := by decide +kernel
theorem dX12_ticks_11 : decode cX12_ticks 11 = .ok (.ifCond .ne 5, 3) := by decide +kernel
theorem dX12_ticks_14 : decode cX12_ticks 14 = .ok (.iconst (-1), 1) := by decide +kernel
theorem dX12_ticks_15 : decode cX12_ticks 15 = .ok (.ireturn, 1) := by decide +kernel
theorem dX12_ticks_16 : decode cX12_ticks 16 = .ok (.iconst 0, 1) := by decide +kernel
theorem dX12_ticks_17 : decode cX12_ticks 17 = .ok (.istore_n 2, 1) := by decide +kernel
theorem dX12_ticks_18 : decode cX12_ticks 18 = .ok (.iconst 0, 1) := by decide +kernel
theorem dX12_ticks_19 : decode cX12_ticks 19 = .ok (.istore_n 3, 1) := by decide +kernel
theorem dX12_ticks_20 : decode cX12_ticks 20 = .ok (.iload_n 3, 1) := by decide +kernel
theorem dX12_ticks_21 : decode cX12_ticks 21 = .ok (.aload_n 0, 1) := by decide +kernel
theorem dX12_ticks_22 : decode cX12_ticks 22 = .ok (.getfield 164, 3) := by decide +kernel
theorem dX12_ticks_25 : decode cX12_ticks 25 = .ok (.if_icmp .ge 36, 3) := by decide +kernel
theorem dX12_ticks_28 : decode cX12_ticks 28 = .ok (.iload_n 2, 1) := by decide +kernel
theorem dX12_ticks_29 : decode cX12_ticks 29 = .ok (.iload_n 1, 1) := by decide +kernel
theorem dX12_ticks_30 : decode cX12_ticks 30 = .ok (.ifCond .eq 14, 3) := by decide +kernel
theorem dX12_ticks_33 : decode cX12_ticks 33 = .ok (.aload_n 0, 1) := by decide +kernel
theorem dX12_ticks_34 : decode cX12_ticks 34 = .ok (.getfield 65, 3) := by decide +kernel
theorem dX12_ticks_37 : decode cX12_ticks 37 = .ok (.iload_n 3, 1) := by decide +kernel
theorem dX12_ticks_38 : decode cX12_ticks 38 = .ok (.iconst 1, 1) := by decide +kernel
theorem dX12_ticks_39 : decode cX12_ticks 39 = .ok (.iadd, 1) := by decide +kernel
theorem dX12_ticks_40 : decode cX12_ticks 40 = .ok (.baload, 1) := by decide +kernel
theorem dX12_ticks_41 : decode cX12_ticks 41 = .ok (.ifCond .eq 11, 3) := by decide +kernel
theorem dX12_ticks_44 : decode cX12_ticks 44 = .ok (.aload_n 0, 1) := by decide +kernel
theorem dX12_ticks_45 : decode cX12_ticks 45 = .ok (.iload_n 3, 1) := by decide +kernel
theorem dX12_ticks_46 : decode cX12_ticks 46 = .ok (.invokevirtual 356, 3) := by decide +kernel
theorem dX12_ticks_49 : decode cX12_ticks 49 = .ok (.goto 4, 3) := by decide +kernel
theorem dX12_ticks_52 : decode cX12_ticks 52 = .ok (.iconst 0, 1) := by decide +kernel
theorem dX12_ticks_53 : decode cX12_ticks 53 = .ok (.iadd, 1) := by decide +kernel
theorem dX12_ticks_54 : decode cX12_ticks 54 = .ok (.istore_n 2, 1) := by decide +kernel
theorem dX12_ticks_55 : decode cX12_ticks 55 = .ok (.iinc 3 1, 3) := by decide +kernel
theorem dX12_ticks_58 : decode cX12_ticks 58 = .ok (.goto (-38), 3) := by decide +kernel
theorem dX12_ticks_61 : decode cX12_ticks 61 = .ok (.iload_n 2, 1) := by decide +kernel
theorem dX12_ticks_62 : decode cX12_ticks 62 = .ok (.ireturn, 1) := by decide +kernel
theorem dX12_miss_0 : decode cX12_miss 0 = .ok (.aload_n 0, 1) := by decide +kernel
theorem dX12_miss_1 : decode cX12_miss 1 = .ok (.iconst 0, 1) := by decide +kernel
theorem dX12_miss_2 : decode cX12_miss 2 = .ok (.putfield 127, 3) := by decide +kernel
theorem dX12_miss_5 : decode cX12_miss 5 = .ok (.aload_n 0, 1) := by decide +kernel
theorem dX12_miss_6 : decode cX12_miss 6 = .ok (.iload_n 1, 1) := by decide +kernel
theorem dX12_miss_7 : decode cX12_miss 7 = .ok (.invokevirtual 350, 3) := by decide +kernel
theorem dX12_miss_10 : decode cX12_miss 10 = .ok (.ifCond .eq 23, 3) := by decide +kernel
theorem dX12_miss_13 : decode cX12_miss 13 = .ok (.iload_n 2, 1) := by decide +kernel
theorem dX12_miss_14 : decode cX12_miss 14 = .ok (.iconst 0, 1) := by decide +kernel
theorem dX12_miss_15 : decode cX12_miss 15 = .ok (.iconst 1, 1) := by decide +kernel
theorem dX12_miss_16 : decode cX12_miss 16 = .ok (.invokestatic 160, 3) := by decide +kernel
theorem dX12_miss_19 : decode cX12_miss 19 = .ok (.ifCond .eq 14, 3) := by decide +kernel
theorem dX12_miss_22 : decode cX12_miss 22 = .ok (.iload_n 3, 1) := by decide +kernel
theorem dX12_miss_23 : decode cX12_miss 23 = .ok (.bipush (-9), 2) := by decide +kernel
theorem dX12_miss_25 : decode cX12_miss 25 = .ok (.bipush 9, 2) := by decide +kernel
theorem dX12_miss_27 : decode cX12_miss 27 = .ok (.invokestatic 160, 3) := by decide +kernel
theorem dX12_miss_30 : decode cX12_miss 30 = .ok (.ifCond .ne 5, 3) := by decide +kernel
theorem dX12_miss_33 : decode cX12_miss 33 = .ok (.iconst 0, 1) := by decide +kernel
theorem dX12_miss_34 : decode cX12_miss 34 = .ok (.ireturn, 1) := by decide +kernel
theorem dX12_miss_35 : decode cX12_miss 35 = .ok (.aload_n 0, 1) := by decide +kernel
theorem dX12_miss_36 : decode cX12_miss 36 = .ok (.getfield 88, 3) := by decide +kernel
theorem dX12_miss_39 : decode cX12_miss 39 = .ok (.iconst 2, 1) := by decide +kernel
theorem dX12_miss_40 : decode cX12_miss 40 = .ok (.iload_n 1, 1) := by decide +kernel
theorem dX12_miss_41 : decode cX12_miss 41 = .ok (.imul, 1) := by decide +kernel
theorem dX12_miss_42 : decode cX12_miss 42 = .ok (.iload_n 2, 1) := by decide +kernel
theorem dX12_miss_43 : decode cX12_miss 43 = .ok (.iadd, 1) := by decide +kernel
theorem dX12_miss_44 : decode cX12_miss 44 = .ok (.iload_n 3, 1) := by decide +kernel
theorem dX12_miss_45 : decode cX12_miss 45 = .ok (.iastore, 1) := by decide +kernel
theorem dX12_miss_46 : decode cX12_miss 46 = .ok (.iconst 1, 1) := by decide +kernel
theorem dX12_miss_47 : decode cX12_miss 47 = .ok (.ireturn, 1) := by decide +kernel
theorem dX12_moreBy_0 : decode cX12_moreBy 0 = .ok (.iconst 0, 1) := by decide +kernel
theorem dX12_moreBy_1 : decode cX12_moreBy 1 = .ok (.istore_n 3, 1) := by decide +kernel
theorem dX12_moreBy_2 : decode cX12_moreBy 2 = .ok (.iconst 0, 1) := by decide +kernel
theorem dX12_moreBy_3 : decode cX12_moreBy 3 = .ok (.istore 4, 2) := by decide +kernel
theorem dX12_moreBy_5 : decode cX12_moreBy 5 = .ok (.iload 4, 2) := by decide +kernel
theorem dX12_moreBy_7 : decode cX12_moreBy 7 = .ok (.iload_n 1, 1) := by decide +kernel
theorem dX12_moreBy_8 : decode cX12_moreBy 8 = .ok (.if_icmp .gt 23, 3) := by decide +kernel
theorem dX12_moreBy_11 : decode cX12_moreBy 11 = .ok (.iload_n 3, 1) := by decide +kernel
theorem dX12_moreBy_12 : decode cX12_moreBy 12 = .ok (.aload_n 0, 1) := by decide +kernel
theorem dX12_moreBy_13 : decode cX12_moreBy 13 = .ok (.getfield 88, 3) := by decide +kernel
theorem dX12_moreBy_16 : decode cX12_moreBy 16 = .ok (.iconst 2, 1) := by decide +kernel
theorem dX12_moreBy_17 : decode cX12_moreBy 17 = .ok (.iload 4, 2) := by decide +kernel
theorem dX12_moreBy_19 : decode cX12_moreBy 19 = .ok (.imul, 1) := by decide +kernel
theorem dX12_moreBy_20 : decode cX12_moreBy 20 = .ok (.iload_n 2, 1) := by decide +kernel
theorem dX12_moreBy_21 : decode cX12_moreBy 21 = .ok (.iadd, 1) := by decide +kernel
theorem dX12_moreBy_22 : decode cX12_moreBy 22 = .ok (.iaload, 1) := by decide +kernel
theorem dX12_moreBy_23 : decode cX12_moreBy 23 = .ok (.iadd, 1) := by decide +kernel
theorem dX12_moreBy_24 : decode cX12_moreBy 24 = .ok (.istore_n 3, 1) := by decide +kernel
theorem dX12_moreBy_25 : decode cX12_moreBy 25 = .ok (.iinc 4 1, 3) := by decide +kernel
theorem dX12_moreBy_28 : decode cX12_moreBy 28 = .ok (.goto (-23), 3) := by decide +kernel
theorem dX12_moreBy_31 : decode cX12_moreBy 31 = .ok (.iload_n 3, 1) := by decide +kernel
theorem dX12_moreBy_32 : decode cX12_moreBy 32 = .ok (.ireturn, 1) := by decide +kernel
theorem dX12_real_0 : decode cX12_real 0 = .ok (.aload_n 0, 1) := by decide +kernel
theorem dX12_real_1 : decode cX12_real 1 = .ok (.iconst 0, 1) := by decide +kernel
theorem dX12_real_2 : decode cX12_real 2 = .ok (.putfield 127, 3) := by decide +kernel
theorem dX12_real_5 : decode cX12_real 5 = .ok (.aload_n 0, 1) := by decide +kernel
theorem dX12_real_6 : decode cX12_real 6 = .ok (.iload_n 1, 1) := by decide +kernel
theorem dX12_real_7 : decode cX12_real 7 = .ok (.invokevirtual 350, 3) := by decide +kernel
theorem dX12_real_10 : decode cX12_real 10 = .ok (.ifCond .eq 12, 3) := by decide +kernel
theorem dX12_real_13 : decode cX12_real 13 = .ok (.iload_n 2, 1) := by decide +kernel
theorem dX12_real_14 : decode cX12_real 14 = .ok (.iconst 0, 1) := by decide +kernel
theorem dX12_real_15 : decode cX12_real 15 = .ok (.iconst 1, 1) := by decide +kernel
theorem dX12_real_16 : decode cX12_real 16 = .ok (.invokestatic 160, 3) := by decide +kernel
theorem dX12_real_19 : decode cX12_real 19 = .ok (.ifCond .ne 6, 3) := by decide +kernel
theorem dX12_real_22 : decode cX12_real 22 = .ok (.ldc 194, 2) := by decide +kernel
theorem dX12_real_24 : decode cX12_real 24 = .ok (.ireturn, 1) := by decide +kernel
theorem dX12_real_25 : decode cX12_real 25 = .ok (.aload_n 0, 1) := by decide +kernel
theorem dX12_real_26 : decode cX12_real 26 = .ok (.iload_n 1, 1) := by decide +kernel
theorem dX12_real_27 : decode cX12_real 27 = .ok (.iconst 1, 1) := by decide +kernel
theorem dX12_real_28 : decode cX12_real 28 = .ok (.iadd, 1) := by decide +kernel
theorem dX12_real_29 : decode cX12_real 29 = .ok (.invokevirtual 344, 3) := by decide +kernel
theorem dX12_real_32 : decode cX12_real 32 = .ok (.aload_n 0, 1) := by decide +kernel
theorem dX12_real_33 : decode cX12_real 33 = .ok (.iload_n 1, 1) := by decide +kernel
theorem dX12_real_34 : decode cX12_real 34 = .ok (.iconst 0, 1) := by decide +kernel
theorem dX12_real_35 : decode cX12_real 35 = .ok (.invokevirtual 391, 3) := by decide +kernel
theorem dX12_real_38 : decode cX12_real 38 = .ok (.iadd, 1) := by decide +kernel
theorem dX12_real_39 : decode cX12_real 39 = .ok (.istore_n 3, 1) := by decide +kernel
theorem dX12_real_40 : decode cX12_real 40 = .ok (.aload_n 0, 1) := by decide +kernel
theorem dX12_real_41 : decode cX12_real 41 = .ok (.iload_n 1, 1) := by decide +kernel
theorem dX12_real_42 : decode cX12_real 42 = .ok (.iconst 1, 1) := by decide +kernel
theorem dX12_real_43 : decode cX12_real 43 = .ok (.iadd, 1) := by decide +kernel
theorem dX12_real_44 : decode cX12_real 44 = .ok (.invokevirtual 347, 3) := by decide +kernel
theorem dX12_real_47 : decode cX12_real 47 = .ok (.aload_n 0, 1) := by decide +kernel
theorem dX12_real_48 : decode cX12_real 48 = .ok (.iload_n 1, 1) := by decide +kernel
theorem dX12_real_49 : decode cX12_real 49 = .ok (.iconst 1, 1) := by decide +kernel
theorem dX12_real_50 : decode cX12_real 50 = .ok (.invokevirtual 391, 3) := by decide +kernel
theorem dX12_real_53 : decode cX12_real 53 = .ok (.iadd, 1) := by decide +kernel
theorem dX12_real_54 : decode cX12_real 54 = .ok (.istore 4, 2) := by decide +kernel
theorem dX12_real_56 : decode cX12_real 56 = .ok (.iload_n 2, 1) := by decide +kernel
theorem dX12_real_57 : decode cX12_real 57 = .ok (.ifCond .ne 13, 3) := by decide +kernel
theorem dX12_real_60 : decode cX12_real 60 = .ok (.aload_n 0, 1) := by decide +kernel
theorem dX12_real_61 : decode cX12_real 61 = .ok (.iload_n 3, 1) := by decide +kernel
theorem dX12_real_62 : decode cX12_real 62 = .ok (.iload 4, 2) := by decide +kernel
theorem dX12_real_64 : decode cX12_real 64 = .ok (.invokevirtual 156, 3) := by decide +kernel
theorem dX12_real_67 : decode cX12_real 67 = .ok (.goto 10, 3) := by decide +kernel
theorem dX12_real_70 : decode cX12_real 70 = .ok (.aload_n 0, 1) := by decide +kernel
theorem dX12_real_71 : decode cX12_real 71 = .ok (.iload_n 3, 1) := by decide +kernel
theorem dX12_real_72 : decode cX12_real 72 = .ok (.iload 4, 2) := by decide +kernel
theorem dX12_real_74 : decode cX12_real 74 = .ok (.invokevirtual 195, 3) := by decide +kernel
theorem dX12_real_77 : decode cX12_real 77 = .ok (.ireturn, 1) := by decide +kernel
theorem dX12_seen_0 : decode cX12_seen 0 = .ok (.aload_n 0, 1) := by decide +kernel
theorem dX12_seen_1 : decode cX12_seen 1 = .ok (.iconst 0, 1) := by decide +kernel
theorem dX12_seen_2 : decode cX12_seen 2 = .ok (.putfield 127, 3) := by decide +kernel
theorem dX12_seen_5 : decode cX12_seen 5 = .ok (.aload_n 0, 1) := by decide +kernel
theorem dX12_seen_6 : decode cX12_seen 6 = .ok (.iload_n 1, 1) := by decide +kernel
theorem dX12_seen_7 : decode cX12_seen 7 = .ok (.invokevirtual 350, 3) := by decide +kernel
theorem dX12_seen_10 : decode cX12_seen 10 = .ok (.ifCond .eq 34, 3) := by decide +kernel
theorem dX12_seen_13 : decode cX12_seen 13 = .ok (.aload_n 0, 1) := by decide +kernel
theorem dX12_seen_14 : decode cX12_seen 14 = .ok (.getfield 177, 3) := by decide +kernel
theorem dX12_seen_17 : decode cX12_seen 17 = .ok (.bipush 12, 2) := by decide +kernel
theorem dX12_seen_19 : decode cX12_seen 19 = .ok (.if_icmp .eq 25, 3) := by decide +kernel
theorem dX12_seen_22 : decode cX12_seen 22 = .ok (.aload_n 0, 1) := by decide +kernel
theorem dX12_seen_23 : decode cX12_seen 23 = .ok (.getfield 177, 3) := by decide +kernel
theorem dX12_seen_26 : decode cX12_seen 26 = .ok (.ifCond .le 20, 3) := by decide +kernel
theorem dX12_seen_29 : decode cX12_seen 29 = .ok (.iload_n 1, 1) := by decide +kernel
theorem dX12_seen_30 : decode cX12_seen 30 = .ok (.aload_n 0, 1) := by decide +kernel
theorem dX12_seen_31 : decode cX12_seen 31 = .ok (.getfield 91, 3) := by decide +kernel
theorem dX12_seen_34 : decode cX12_seen 34 = .ok (.aload_n 0, 1) := by decide +kernel
theorem dX12_seen_35 : decode cX12_seen 35 = .ok (.getfield 177, 3) := by decide +kernel
theorem dX12_seen_38 : decode cX12_seen 38 = .ok (.iconst 1, 1) := by decide +kernel
theorem dX12_seen_39 : decode cX12_seen 39 = .ok (.isub, 1) := by decide +kernel
theorem dX12_seen_40 : decode cX12_seen 40 = .ok (.iaload, 1) := by decide +kernel
theorem dX12_seen_41 : decode cX12_seen 41 = .ok (.if_icmp .gt 5, 3) := by decide +kernel
theorem dX12_seen_44 : decode cX12_seen 44 = .ok (.iconst (-1), 1) := by decide +kernel
theorem dX12_seen_45 : decode cX12_seen 45 = .ok (.ireturn, 1) := by decide +kernel
theorem dX12_seen_46 : decode cX12_seen 46 = .ok (.aload_n 0, 1) := by decide +kernel
theorem dX12_seen_47 : decode cX12_seen 47 = .ok (.getfield 91, 3) := by decide +kernel
theorem dX12_seen_50 : decode cX12_seen 50 = .ok (.aload_n 0, 1) := by decide +kernel
theorem dX12_seen_51 : decode cX12_seen 51 = .ok (.getfield 177, 3) := by decide +kernel
theorem dX12_seen_54 : decode cX12_seen 54 = .ok (.iload_n 1, 1) := by decide +kernel
theorem dX12_seen_55 : decode cX12_seen 55 = .ok (.iastore, 1) := by decide +kernel
theorem dX12_seen_56 : decode cX12_seen 56 = .ok (.aload_n 0, 1) := by decide +kernel
theorem dX12_seen_57 : decode cX12_seen 57 = .ok (.getfield 94, 3) := by decide +kernel
theorem dX12_seen_60 : decode cX12_seen 60 = .ok (.aload_n 0, 1) := by decide +kernel
theorem dX12_seen_61 : decode cX12_seen 61 = .ok (.getfield 177, 3) := by decide +kernel
theorem dX12_seen_64 : decode cX12_seen 64 = .ok (.iload_n 2, 1) := by decide +kernel
theorem dX12_seen_65 : decode cX12_seen 65 = .ok (.iastore, 1) := by decide +kernel
theorem dX12_seen_66 : decode cX12_seen 66 = .ok (.aload_n 0, 1) := by decide +kernel
theorem dX12_seen_67 : decode cX12_seen 67 = .ok (.getfield 97, 3) := by decide +kernel
theorem dX12_seen_70 : decode cX12_seen 70 = .ok (.aload_n 0, 1) := by decide +kernel
theorem dX12_seen_71 : decode cX12_seen 71 = .ok (.getfield 177, 3) := by decide +kernel
theorem dX12_seen_74 : decode cX12_seen 74 = .ok (.iload_n 3, 1) := by decide +kernel
theorem dX12_seen_75 : decode cX12_seen 75 = .ok (.iastore, 1) := by decide +kernel
theorem dX12_seen_76 : decode cX12_seen 76 = .ok (.aload_n 0, 1) := by decide +kernel
theorem dX12_seen_77 : decode cX12_seen 77 = .ok (.dup, 1) := by decide +kernel
theorem dX12_seen_78 : decode cX12_seen 78 = .ok (.getfield 177, 3) := by decide +kernel
theorem dX12_seen_81 : decode cX12_seen 81 = .ok (.iconst 1, 1) := by decide +kernel
theorem dX12_seen_82 : decode cX12_seen 82 = .ok (.iadd, 1) := by decide +kernel
theorem dX12_seen_83 : decode cX12_seen 83 = .ok (.putfield 177, 3) := by decide +kernel
theorem dX12_seen_86 : decode cX12_seen 86 = .ok (.aload_n 0, 1) := by decide +kernel
theorem dX12_seen_87 : decode cX12_seen 87 = .ok (.getfield 177, 3) := by decide +kernel
theorem dX12_seen_90 : decode cX12_seen 90 = .ok (.ireturn, 1) := by decide +kernel
theorem dX12_forget_0 : decode cX12_forget 0 = .ok (.aload_n 0, 1) := by decide +kernel
theorem dX12_forget_1 : decode cX12_forget 1 = .ok (.iconst 0, 1) := by decide +kernel
theorem dX12_forget_2 : decode cX12_forget 2 = .ok (.putfield 127, 3) := by decide +kernel
theorem dX12_forget_5 : decode cX12_forget 5 = .ok (.aload_n 0, 1) := by decide +kernel
theorem dX12_forget_6 : decode cX12_forget 6 = .ok (.getfield 177, 3) := by decide +kernel
theorem dX12_forget_9 : decode cX12_forget 9 = .ok (.istore_n 1, 1) := by decide +kernel
theorem dX12_forget_10 : decode cX12_forget 10 = .ok (.aload_n 0, 1) := by decide +kernel
theorem dX12_forget_11 : decode cX12_forget 11 = .ok (.iconst 0, 1) := by decide +kernel
theorem dX12_forget_12 : decode cX12_forget 12 = .ok (.putfield 177, 3) := by decide +kernel
theorem dX12_forget_15 : decode cX12_forget 15 = .ok (.iload_n 1, 1) := by decide +kernel
theorem dX12_forget_16 : decode cX12_forget 16 = .ok (.ireturn, 1) := by decide +kernel
theorem dX12_fits_0 : decode cX12_fits 0 = .ok (.aload_n 0, 1) := by decide +kernel
theorem dX12_fits_1 : decode cX12_fits 1 = .ok (.aload_n 0, 1) := by decide +kernel
theorem dX12_fits_2 : decode cX12_fits 2 = .ok (.getfield 91, 3) := by decide +kernel
theorem dX12_fits_5 : decode cX12_fits 5 = .ok (.iload_n 1, 1) := by decide +kernel
theorem dX12_fits_6 : decode cX12_fits 6 = .ok (.iaload, 1) := by decide +kernel
theorem dX12_fits_7 : decode cX12_fits 7 = .ok (.iconst 1, 1) := by decide +kernel
theorem dX12_fits_8 : decode cX12_fits 8 = .ok (.iadd, 1) := by decide +kernel
theorem dX12_fits_9 : decode cX12_fits 9 = .ok (.invokevirtual 344, 3) := by decide +kernel
theorem dX12_fits_12 : decode cX12_fits 12 = .ok (.iload_n 2, 1) := by decide +kernel
theorem dX12_fits_13 : decode cX12_fits 13 = .ok (.iadd, 1) := by decide +kernel
theorem dX12_fits_14 : decode cX12_fits 14 = .ok (.istore 5, 2) := by decide +kernel
theorem dX12_fits_16 : decode cX12_fits 16 = .ok (.aload_n 0, 1) := by decide +kernel
theorem dX12_fits_17 : decode cX12_fits 17 = .ok (.aload_n 0, 1) := by decide +kernel
theorem dX12_fits_18 : decode cX12_fits 18 = .ok (.getfield 91, 3) := by decide +kernel
theorem dX12_fits_21 : decode cX12_fits 21 = .ok (.iload_n 1, 1) := by decide +kernel
theorem dX12_fits_22 : decode cX12_fits 22 = .ok (.iaload, 1) := by decide +kernel
theorem dX12_fits_23 : decode cX12_fits 23 = .ok (.iconst 1, 1) := by decide +kernel
theorem dX12_fits_24 : decode cX12_fits 24 = .ok (.iadd, 1) := by decide +kernel
theorem dX12_fits_25 : decode cX12_fits 25 = .ok (.invokevirtual 347, 3) := by decide +kernel
theorem dX12_fits_28 : decode cX12_fits 28 = .ok (.iload_n 3, 1) := by decide +kernel
theorem dX12_fits_29 : decode cX12_fits 29 = .ok (.iadd, 1) := by decide +kernel
theorem dX12_fits_30 : decode cX12_fits 30 = .ok (.istore 6, 2) := by decide +kernel
theorem dX12_fits_32 : decode cX12_fits 32 = .ok (.aload_n 0, 1) := by decide +kernel
theorem dX12_fits_33 : decode cX12_fits 33 = .ok (.iload 5, 2) := by decide +kernel
theorem dX12_fits_35 : decode cX12_fits 35 = .ok (.iload 6, 2) := by decide +kernel
theorem dX12_fits_37 : decode cX12_fits 37 = .ok (.invokevirtual 156, 3) := by decide +kernel
theorem dX12_fits_40 : decode cX12_fits 40 = .ok (.i2l, 1) := by decide +kernel
theorem dX12_fits_41 : decode cX12_fits 41 = .ok (.aload_n 0, 1) := by decide +kernel
theorem dX12_fits_42 : decode cX12_fits 42 = .ok (.getfield 94, 3) := by decide +kernel
theorem dX12_fits_45 : decode cX12_fits 45 = .ok (.iload_n 1, 1) := by decide +kernel
theorem dX12_fits_46 : decode cX12_fits 46 = .ok (.iaload, 1) := by decide +kernel
theorem dX12_fits_47 : decode cX12_fits 47 = .ok (.i2l, 1) := by decide +kernel
theorem dX12_fits_48 : decode cX12_fits 48 = .ok (.lsub, 1) := by decide +kernel
theorem dX12_fits_49 : decode cX12_fits 49 = .ok (.lstore 7, 2) := by decide +kernel
theorem dX12_fits_51 : decode cX12_fits 51 = .ok (.aload_n 0, 1) := by decide +kernel
theorem dX12_fits_52 : decode cX12_fits 52 = .ok (.iload 5, 2) := by decide +kernel
theorem dX12_fits_54 : decode cX12_fits 54 = .ok (.iload 6, 2) := by decide +kernel
theorem dX12_fits_56 : decode cX12_fits 56 = .ok (.invokevirtual 195, 3) := by decide +kernel
theorem dX12_fits_59 : decode cX12_fits 59 = .ok (.i2l, 1) := by decide +kernel
theorem dX12_fits_60 : decode cX12_fits 60 = .ok (.aload_n 0, 1) := by decide +kernel
theorem dX12_fits_61 : decode cX12_fits 61 = .ok (.getfield 97, 3) := by decide +kernel
theorem dX12_fits_64 : decode cX12_fits 64 = .ok (.iload_n 1, 1) := by decide +kernel
theorem dX12_fits_65 : decode cX12_fits 65 = .ok (.iaload, 1) := by decide +kernel
theorem dX12_fits_66 : decode cX12_fits 66 = .ok (.i2l, 1) := by decide +kernel
theorem dX12_fits_67 : decode cX12_fits 67 = .ok (.lsub, 1) := by decide +kernel
theorem dX12_fits_68 : decode cX12_fits 68 = .ok (.lstore 9, 2) := by decide +kernel
theorem dX12_fits_70 : decode cX12_fits 70 = .ok (.lload 7, 2) := by decide +kernel
theorem dX12_fits_72 : decode cX12_fits 72 = .ok (.iload 4, 2) := by decide +kernel
theorem dX12_fits_74 : decode cX12_fits 74 = .ok (.i2l, 1) := by decide +kernel
theorem dX12_fits_75 : decode cX12_fits 75 = .ok (.lcmp, 1) := by decide +kernel
theorem dX12_fits_76 : decode cX12_fits 76 = .ok (.ifCond .gt 36, 3) := by decide +kernel
theorem dX12_fits_79 : decode cX12_fits 79 = .ok (.lload 7, 2) := by decide +kernel
theorem dX12_fits_81 : decode cX12_fits 81 = .ok (.lneg, 1) := by decide +kernel
theorem dX12_fits_82 : decode cX12_fits 82 = .ok (.iload 4, 2) := by decide +kernel
theorem dX12_fits_84 : decode cX12_fits 84 = .ok (.i2l, 1) := by decide +kernel
theorem dX12_fits_85 : decode cX12_fits 85 = .ok (.lcmp, 1) := by decide +kernel
theorem dX12_fits_86 : decode cX12_fits 86 = .ok (.ifCond .gt 26, 3) := by decide +kernel
theorem dX12_fits_89 : decode cX12_fits 89 = .ok (.lload 9, 2) := by decide +kernel
theorem dX12_fits_91 : decode cX12_fits 91 = .ok (.iload 4, 2) := by decide +kernel
theorem dX12_fits_93 : decode cX12_fits 93 = .ok (.i2l, 1) := by decide +kernel
theorem dX12_fits_94 : decode cX12_fits 94 = .ok (.lcmp, 1) := by decide +kernel
theorem dX12_fits_95 : decode cX12_fits 95 = .ok (.ifCond .gt 17, 3) := by decide +kernel
theorem dX12_fits_98 : decode cX12_fits 98 = .ok (.lload 9, 2) := by decide +kernel
theorem dX12_fits_100 : decode cX12_fits 100 = .ok (.lneg, 1) := by decide +kernel
theorem dX12_fits_101 : decode cX12_fits 101 = .ok (.iload 4, 2) := by decide +kernel
theorem dX12_fits_103 : decode cX12_fits 103 = .ok (.i2l, 1) := by decide +kernel
theorem dX12_fits_104 : decode cX12_fits 104 = .ok (.lcmp, 1) := by decide +kernel
theorem dX12_fits_105 : decode cX12_fits 105 = .ok (.ifCond .gt 7, 3) := by decide +kernel
theorem dX12_fits_108 : decode cX12_fits 108 = .ok (.iconst 1, 1) := by decide +kernel
theorem dX12_fits_109 : decode cX12_fits 109 = .ok (.goto 4, 3) := by decide +kernel
theorem dX12_fits_112 : decode cX12_fits 112 = .ok (.iconst 0, 1) := by decide +kernel
theorem dX12_fits_113 : decode cX12_fits 113 = .ok (.ireturn, 1) := by decide +kernel
theorem dX12_goesOn_0 : decode cX12_goesOn 0 = .ok (.ldc_w 394, 3) := by decide +kernel
theorem dX12_goesOn_3 : decode cX12_goesOn 3 = .ok (.istore 4, 2) := by decide +kernel
theorem dX12_goesOn_5 : decode cX12_goesOn 5 = .ok (.iconst 0, 1) := by decide +kernel
theorem dX12_goesOn_6 : decode cX12_goesOn 6 = .ok (.istore 5, 2) := by decide +kernel
theorem dX12_goesOn_8 : decode cX12_goesOn 8 = .ok (.iload 5, 2) := by decide +kernel
theorem dX12_goesOn_10 : decode cX12_goesOn 10 = .ok (.sipush 169, 3) := by decide +kernel
theorem dX12_goesOn_13 : decode cX12_goesOn 13 = .ok (.if_icmp .ge 109, 3) := by decide +kernel
theorem dX12_goesOn_16 : decode cX12_goesOn 16 = .ok (.aload_n 0, 1) := by decide +kernel
theorem dX12_goesOn_17 : decode cX12_goesOn 17 = .ok (.getfield 100, 3) := by decide +kernel
theorem dX12_goesOn_20 : decode cX12_goesOn 20 = .ok (.sipush 169, 3) := by decide +kernel
theorem dX12_goesOn_23 : decode cX12_goesOn 23 = .ok (.iload_n 1, 1) := by decide +kernel
theorem dX12_goesOn_24 : decode cX12_goesOn 24 = .ok (.imul, 1) := by decide +kernel
theorem dX12_goesOn_25 : decode cX12_goesOn 25 = .ok (.iload 5, 2) := by decide +kernel
theorem dX12_goesOn_27 : decode cX12_goesOn 27 = .ok (.iadd, 1) := by decide +kernel
theorem dX12_goesOn_28 : decode cX12_goesOn 28 = .ok (.iaload, 1) := by decide +kernel
theorem dX12_goesOn_29 : decode cX12_goesOn 29 = .ok (.istore 6, 2) := by decide +kernel
theorem dX12_goesOn_31 : decode cX12_goesOn 31 = .ok (.iload 6, 2) := by decide +kernel
theorem dX12_goesOn_33 : decode cX12_goesOn 33 = .ok (.ldc_w 394, 3) := by decide +kernel
theorem dX12_goesOn_36 : decode cX12_goesOn 36 = .ok (.if_icmp .lt 6, 3) := by decide +kernel
theorem dX12_goesOn_39 : decode cX12_goesOn 39 = .ok (.goto 77, 3) := by decide +kernel
theorem dX12_goesOn_42 : decode cX12_goesOn 42 = .ok (.iload 6, 2) := by decide +kernel
theorem dX12_goesOn_44 : decode cX12_goesOn 44 = .ok (.iload 5, 2) := by decide +kernel
theorem dX12_goesOn_46 : decode cX12_goesOn 46 = .ok (.bipush 13, 2) := by decide +kernel
theorem dX12_goesOn_48 : decode cX12_goesOn 48 = .ok (.idiv, 1) := by decide +kernel
theorem dX12_goesOn_49 : decode cX12_goesOn 49 = .ok (.bipush 6, 2) := by decide +kernel
theorem dX12_goesOn_51 : decode cX12_goesOn 51 = .ok (.isub, 1) := by decide +kernel
theorem dX12_goesOn_52 : decode cX12_goesOn 52 = .ok (.iload_n 2, 1) := by decide +kernel
theorem dX12_goesOn_53 : decode cX12_goesOn 53 = .ok (.isub, 1) := by decide +kernel
theorem dX12_goesOn_54 : decode cX12_goesOn 54 = .ok (.invokestatic 198, 3) := by decide +kernel
theorem dX12_goesOn_57 : decode cX12_goesOn 57 = .ok (.iload 5, 2) := by decide +kernel
theorem dX12_goesOn_59 : decode cX12_goesOn 59 = .ok (.bipush 13, 2) := by decide +kernel
theorem dX12_goesOn_61 : decode cX12_goesOn 61 = .ok (.irem, 1) := by decide +kernel
theorem dX12_goesOn_62 : decode cX12_goesOn 62 = .ok (.bipush 6, 2) := by decide +kernel
theorem dX12_goesOn_64 : decode cX12_goesOn 64 = .ok (.isub, 1) := by decide +kernel
theorem dX12_goesOn_65 : decode cX12_goesOn 65 = .ok (.iload_n 3, 1) := by decide +kernel
theorem dX12_goesOn_66 : decode cX12_goesOn 66 = .ok (.isub, 1) := by decide +kernel
theorem dX12_goesOn_67 : decode cX12_goesOn 67 = .ok (.invokestatic 198, 3) := by decide +kernel
theorem dX12_goesOn_70 : decode cX12_goesOn 70 = .ok (.iadd, 1) := by decide +kernel
theorem dX12_goesOn_71 : decode cX12_goesOn 71 = .ok (.iadd, 1) := by decide +kernel
theorem dX12_goesOn_72 : decode cX12_goesOn 72 = .ok (.istore 6, 2) := by decide +kernel
theorem dX12_goesOn_74 : decode cX12_goesOn 74 = .ok (.iload 6, 2) := by decide +kernel
theorem dX12_goesOn_76 : decode cX12_goesOn 76 = .ok (.iload 4, 2) := by decide +kernel
theorem dX12_goesOn_78 : decode cX12_goesOn 78 = .ok (.if_icmp .lt 6, 3) := by decide +kernel
theorem dX12_goesOn_81 : decode cX12_goesOn 81 = .ok (.goto 35, 3) := by decide +kernel
theorem dX12_goesOn_84 : decode cX12_goesOn 84 = .ok (.iload 6, 2) := by decide +kernel
theorem dX12_goesOn_86 : decode cX12_goesOn 86 = .ok (.istore 4, 2) := by decide +kernel
theorem dX12_goesOn_88 : decode cX12_goesOn 88 = .ok (.aload_n 0, 1) := by decide +kernel
theorem dX12_goesOn_89 : decode cX12_goesOn 89 = .ok (.getfield 103, 3) := by decide +kernel
theorem dX12_goesOn_92 : decode cX12_goesOn 92 = .ok (.iload_n 1, 1) := by decide +kernel
theorem dX12_goesOn_93 : decode cX12_goesOn 93 = .ok (.iload 5, 2) := by decide +kernel
theorem dX12_goesOn_95 : decode cX12_goesOn 95 = .ok (.bipush 13, 2) := by decide +kernel
theorem dX12_goesOn_97 : decode cX12_goesOn 97 = .ok (.idiv, 1) := by decide +kernel
theorem dX12_goesOn_98 : decode cX12_goesOn 98 = .ok (.bipush 6, 2) := by decide +kernel
theorem dX12_goesOn_100 : decode cX12_goesOn 100 = .ok (.isub, 1) := by decide +kernel
theorem dX12_goesOn_101 : decode cX12_goesOn 101 = .ok (.iastore, 1) := by decide +kernel
theorem dX12_goesOn_102 : decode cX12_goesOn 102 = .ok (.aload_n 0, 1) := by decide +kernel
theorem dX12_goesOn_103 : decode cX12_goesOn 103 = .ok (.getfield 106, 3) := by decide +kernel
theorem dX12_goesOn_106 : decode cX12_goesOn 106 = .ok (.iload_n 1, 1) := by decide +kernel
theorem dX12_goesOn_107 : decode cX12_goesOn 107 = .ok (.iload 5, 2) := by decide +kernel
theorem dX12_goesOn_109 : decode cX12_goesOn 109 = .ok (.bipush 13, 2) := by decide +kernel
theorem dX12_goesOn_111 : decode cX12_goesOn 111 = .ok (.irem, 1) := by decide +kernel
theorem dX12_goesOn_112 : decode cX12_goesOn 112 = .ok (.bipush 6, 2) := by decide +kernel
theorem dX12_goesOn_114 : decode cX12_goesOn 114 = .ok (.isub, 1) := by decide +kernel
theorem dX12_goesOn_115 : decode cX12_goesOn 115 = .ok (.iastore, 1) := by decide +kernel
theorem dX12_goesOn_116 : decode cX12_goesOn 116 = .ok (.iinc 5 1, 3) := by decide +kernel
theorem dX12_goesOn_119 : decode cX12_goesOn 119 = .ok (.goto (-111), 3) := by decide +kernel
theorem dX12_goesOn_122 : decode cX12_goesOn 122 = .ok (.iload 4, 2) := by decide +kernel
theorem dX12_goesOn_124 : decode cX12_goesOn 124 = .ok (.ireturn, 1) := by decide +kernel
theorem dX12_finds_0 : decode cX12_finds 0 = .ok (.aload_n 0, 1) := by decide +kernel
theorem dX12_finds_1 : decode cX12_finds 1 = .ok (.getfield 177, 3) := by decide +kernel
theorem dX12_finds_4 : decode cX12_finds 4 = .ok (.iconst 1, 1) := by decide +kernel
theorem dX12_finds_5 : decode cX12_finds 5 = .ok (.isub, 1) := by decide +kernel
theorem dX12_finds_6 : decode cX12_finds 6 = .ok (.istore_n 2, 1) := by decide +kernel
theorem dX12_finds_7 : decode cX12_finds 7 = .ok (.iload_n 2, 1) := by decide +kernel
theorem dX12_finds_8 : decode cX12_finds 8 = .ok (.ifCond .lt 104, 3) := by decide +kernel
theorem dX12_finds_11 : decode cX12_finds 11 = .ok (.iconst 0, 1) := by decide +kernel
theorem dX12_finds_12 : decode cX12_finds 12 = .ok (.istore_n 3, 1) := by decide +kernel
theorem dX12_finds_13 : decode cX12_finds 13 = .ok (.iload_n 3, 1) := by decide +kernel
theorem dX12_finds_14 : decode cX12_finds 14 = .ok (.sipush 169, 3) := by decide +kernel
theorem dX12_finds_17 : decode cX12_finds 17 = .ok (.if_icmp .ge 89, 3) := by decide +kernel
theorem dX12_finds_20 : decode cX12_finds 20 = .ok (.aload_n 0, 1) := by decide +kernel
theorem dX12_finds_21 : decode cX12_finds 21 = .ok (.iload_n 2, 1) := by decide +kernel
theorem dX12_finds_22 : decode cX12_finds 22 = .ok (.iload_n 3, 1) := by decide +kernel
theorem dX12_finds_23 : decode cX12_finds 23 = .ok (.bipush 13, 2) := by decide +kernel
theorem dX12_finds_25 : decode cX12_finds 25 = .ok (.idiv, 1) := by decide +kernel
theorem dX12_finds_26 : decode cX12_finds 26 = .ok (.bipush 6, 2) := by decide +kernel
theorem dX12_finds_28 : decode cX12_finds 28 = .ok (.isub, 1) := by decide +kernel
theorem dX12_finds_29 : decode cX12_finds 29 = .ok (.iload_n 3, 1) := by decide +kernel
theorem dX12_finds_30 : decode cX12_finds 30 = .ok (.bipush 13, 2) := by decide +kernel
theorem dX12_finds_32 : decode cX12_finds 32 = .ok (.irem, 1) := by decide +kernel
theorem dX12_finds_33 : decode cX12_finds 33 = .ok (.bipush 6, 2) := by decide +kernel
theorem dX12_finds_35 : decode cX12_finds 35 = .ok (.isub, 1) := by decide +kernel
theorem dX12_finds_36 : decode cX12_finds 36 = .ok (.iload_n 1, 1) := by decide +kernel
theorem dX12_finds_37 : decode cX12_finds 37 = .ok (.invokevirtual 395, 3) := by decide +kernel
theorem dX12_finds_40 : decode cX12_finds 40 = .ok (.istore 4, 2) := by decide +kernel
theorem dX12_finds_42 : decode cX12_finds 42 = .ok (.aload_n 0, 1) := by decide +kernel
theorem dX12_finds_43 : decode cX12_finds 43 = .ok (.getfield 100, 3) := by decide +kernel
theorem dX12_finds_46 : decode cX12_finds 46 = .ok (.sipush 169, 3) := by decide +kernel
theorem dX12_finds_49 : decode cX12_finds 49 = .ok (.iload_n 2, 1) := by decide +kernel
theorem dX12_finds_50 : decode cX12_finds 50 = .ok (.imul, 1) := by decide +kernel
theorem dX12_finds_51 : decode cX12_finds 51 = .ok (.iload_n 3, 1) := by decide +kernel
theorem dX12_finds_52 : decode cX12_finds 52 = .ok (.iadd, 1) := by decide +kernel
theorem dX12_finds_53 : decode cX12_finds 53 = .ok (.iload 4, 2) := by decide +kernel
theorem dX12_finds_55 : decode cX12_finds 55 = .ok (.ifCond .ne 9, 3) := by decide +kernel
theorem dX12_finds_58 : decode cX12_finds 58 = .ok (.ldc_w 394, 3) := by decide +kernel
theorem dX12_finds_61 : decode cX12_finds 61 = .ok (.goto 38, 3) := by decide +kernel
theorem dX12_finds_64 : decode cX12_finds 64 = .ok (.iload_n 2, 1) := by decide +kernel
theorem dX12_finds_65 : decode cX12_finds 65 = .ok (.aload_n 0, 1) := by decide +kernel
theorem dX12_finds_66 : decode cX12_finds 66 = .ok (.getfield 177, 3) := by decide +kernel
theorem dX12_finds_69 : decode cX12_finds 69 = .ok (.iconst 1, 1) := by decide +kernel
theorem dX12_finds_70 : decode cX12_finds 70 = .ok (.isub, 1) := by decide +kernel
theorem dX12_finds_71 : decode cX12_finds 71 = .ok (.if_icmp .ne 7, 3) := by decide +kernel
theorem dX12_finds_74 : decode cX12_finds 74 = .ok (.iconst 0, 1) := by decide +kernel
theorem dX12_finds_75 : decode cX12_finds 75 = .ok (.goto 24, 3) := by decide +kernel
theorem dX12_finds_78 : decode cX12_finds 78 = .ok (.aload_n 0, 1) := by decide +kernel
theorem dX12_finds_79 : decode cX12_finds 79 = .ok (.iload_n 2, 1) := by decide +kernel
theorem dX12_finds_80 : decode cX12_finds 80 = .ok (.iconst 1, 1) := by decide +kernel
theorem dX12_finds_81 : decode cX12_finds 81 = .ok (.iadd, 1) := by decide +kernel
theorem dX12_finds_82 : decode cX12_finds 82 = .ok (.iload_n 3, 1) := by decide +kernel
theorem dX12_finds_83 : decode cX12_finds 83 = .ok (.bipush 13, 2) := by decide +kernel
theorem dX12_finds_85 : decode cX12_finds 85 = .ok (.idiv, 1) := by decide +kernel
theorem dX12_finds_86 : decode cX12_finds 86 = .ok (.bipush 6, 2) := by decide +kernel
theorem dX12_finds_88 : decode cX12_finds 88 = .ok (.isub, 1) := by decide +kernel
theorem dX12_finds_89 : decode cX12_finds 89 = .ok (.iload_n 3, 1) := by decide +kernel
theorem dX12_finds_90 : decode cX12_finds 90 = .ok (.bipush 13, 2) := by decide +kernel
theorem dX12_finds_92 : decode cX12_finds 92 = .ok (.irem, 1) := by decide +kernel
theorem dX12_finds_93 : decode cX12_finds 93 = .ok (.bipush 6, 2) := by decide +kernel
theorem dX12_finds_95 : decode cX12_finds 95 = .ok (.isub, 1) := by decide +kernel
theorem dX12_finds_96 : decode cX12_finds 96 = .ok (.invokevirtual 398, 3) := by decide +kernel
theorem dX12_finds_99 : decode cX12_finds 99 = .ok (.iastore, 1) := by decide +kernel
theorem dX12_finds_100 : decode cX12_finds 100 = .ok (.iinc 3 1, 3) := by decide +kernel
theorem dX12_finds_103 : decode cX12_finds 103 = .ok (.goto (-90), 3) := by decide +kernel
theorem dX12_finds_106 : decode cX12_finds 106 = .ok (.iinc 2 (-1), 3) := by decide +kernel
theorem dX12_finds_109 : decode cX12_finds 109 = .ok (.goto (-102), 3) := by decide +kernel
theorem dX12_finds_112 : decode cX12_finds 112 = .ok (.aload_n 0, 1) := by decide +kernel
theorem dX12_finds_113 : decode cX12_finds 113 = .ok (.iconst 0, 1) := by decide +kernel
theorem dX12_finds_114 : decode cX12_finds 114 = .ok (.putfield 401, 3) := by decide +kernel
theorem dX12_finds_117 : decode cX12_finds 117 = .ok (.iconst 0, 1) := by decide +kernel
theorem dX12_finds_118 : decode cX12_finds 118 = .ok (.istore_n 2, 1) := by decide +kernel
theorem dX12_finds_119 : decode cX12_finds 119 = .ok (.iload_n 2, 1) := by decide +kernel
theorem dX12_finds_120 : decode cX12_finds 120 = .ok (.aload_n 0, 1) := by decide +kernel
theorem dX12_finds_121 : decode cX12_finds 121 = .ok (.getfield 177, 3) := by decide +kernel
theorem dX12_finds_124 : decode cX12_finds 124 = .ok (.if_icmp .ge 72, 3) := by decide +kernel
theorem dX12_finds_127 : decode cX12_finds 127 = .ok (.aload_n 0, 1) := by decide +kernel
theorem dX12_finds_128 : decode cX12_finds 128 = .ok (.iload_n 2, 1) := by decide +kernel
theorem dX12_finds_129 : decode cX12_finds 129 = .ok (.iload_n 2, 1) := by decide +kernel
theorem dX12_finds_130 : decode cX12_finds 130 = .ok (.ifCond .ne 7, 3) := by decide +kernel
theorem dX12_finds_133 : decode cX12_finds 133 = .ok (.iconst 0, 1) := by decide +kernel
theorem dX12_finds_134 : decode cX12_finds 134 = .ok (.goto 11, 3) := by decide +kernel
theorem dX12_finds_137 : decode cX12_finds 137 = .ok (.aload_n 0, 1) := by decide +kernel
theorem dX12_finds_138 : decode cX12_finds 138 = .ok (.getfield 103, 3) := by decide +kernel
theorem dX12_finds_141 : decode cX12_finds 141 = .ok (.iload_n 2, 1) := by decide +kernel
theorem dX12_finds_142 : decode cX12_finds 142 = .ok (.iconst 1, 1) := by decide +kernel
theorem dX12_finds_143 : decode cX12_finds 143 = .ok (.isub, 1) := by decide +kernel
theorem dX12_finds_144 : decode cX12_finds 144 = .ok (.iaload, 1) := by decide +kernel
theorem dX12_finds_145 : decode cX12_finds 145 = .ok (.iload_n 2, 1) := by decide +kernel
theorem dX12_finds_146 : decode cX12_finds 146 = .ok (.ifCond .ne 7, 3) := by decide +kernel
theorem dX12_finds_149 : decode cX12_finds 149 = .ok (.iconst 0, 1) := by decide +kernel
theorem dX12_finds_150 : decode cX12_finds 150 = .ok (.goto 11, 3) := by decide +kernel
theorem dX12_finds_153 : decode cX12_finds 153 = .ok (.aload_n 0, 1) := by decide +kernel
theorem dX12_finds_154 : decode cX12_finds 154 = .ok (.getfield 106, 3) := by decide +kernel
theorem dX12_finds_157 : decode cX12_finds 157 = .ok (.iload_n 2, 1) := by decide +kernel
theorem dX12_finds_158 : decode cX12_finds 158 = .ok (.iconst 1, 1) := by decide +kernel
theorem dX12_finds_159 : decode cX12_finds 159 = .ok (.isub, 1) := by decide +kernel
theorem dX12_finds_160 : decode cX12_finds 160 = .ok (.iaload, 1) := by decide +kernel
theorem dX12_finds_161 : decode cX12_finds 161 = .ok (.invokevirtual 398, 3) := by decide +kernel
theorem dX12_finds_164 : decode cX12_finds 164 = .ok (.istore_n 3, 1) := by decide +kernel
theorem dX12_finds_165 : decode cX12_finds 165 = .ok (.iload_n 3, 1) := by decide +kernel
theorem dX12_finds_166 : decode cX12_finds 166 = .ok (.ldc_w 394, 3) := by decide +kernel
theorem dX12_finds_169 : decode cX12_finds 169 = .ok (.if_icmp .lt 5, 3) := by decide +kernel
theorem dX12_finds_172 : decode cX12_finds 172 = .ok (.iconst 0, 1) := by decide +kernel
theorem dX12_finds_173 : decode cX12_finds 173 = .ok (.ireturn, 1) := by decide +kernel
theorem dX12_finds_174 : decode cX12_finds 174 = .ok (.aload_n 0, 1) := by decide +kernel
theorem dX12_finds_175 : decode cX12_finds 175 = .ok (.iload_n 2, 1) := by decide +kernel
theorem dX12_finds_176 : decode cX12_finds 176 = .ok (.ifCond .ne 7, 3) := by decide +kernel
theorem dX12_finds_179 : decode cX12_finds 179 = .ok (.iload_n 3, 1) := by decide +kernel
theorem dX12_finds_180 : decode cX12_finds 180 = .ok (.goto 7, 3) := by decide +kernel
theorem dX12_finds_183 : decode cX12_finds 183 = .ok (.aload_n 0, 1) := by decide +kernel
theorem dX12_finds_184 : decode cX12_finds 184 = .ok (.getfield 401, 3) := by decide +kernel
theorem dX12_finds_187 : decode cX12_finds 187 = .ok (.putfield 401, 3) := by decide +kernel
theorem dX12_finds_190 : decode cX12_finds 190 = .ok (.iinc 2 1, 3) := by decide +kernel
theorem dX12_finds_193 : decode cX12_finds 193 = .ok (.goto (-74), 3) := by decide +kernel
theorem dX12_finds_196 : decode cX12_finds 196 = .ok (.iconst 1, 1) := by decide +kernel
theorem dX12_finds_197 : decode cX12_finds 197 = .ok (.ireturn, 1) := by decide +kernel
theorem dX12_found_0 : decode cX12_found 0 = .ok (.aload_n 0, 1) := by decide +kernel
theorem dX12_found_1 : decode cX12_found 1 = .ok (.iconst 0, 1) := by decide +kernel
theorem dX12_found_2 : decode cX12_found 2 = .ok (.putfield 127, 3) := by decide +kernel
theorem dX12_found_5 : decode cX12_found 5 = .ok (.iload_n 1, 1) := by decide +kernel
theorem dX12_found_6 : decode cX12_found 6 = .ok (.iconst 0, 1) := by decide +kernel
theorem dX12_found_7 : decode cX12_found 7 = .ok (.sipush 999, 3) := by decide +kernel
theorem dX12_found_10 : decode cX12_found 10 = .ok (.invokestatic 160, 3) := by decide +kernel
theorem dX12_found_13 : decode cX12_found 13 = .ok (.ifCond .ne 5, 3) := by decide +kernel
theorem dX12_found_16 : decode cX12_found 16 = .ok (.iconst (-1), 1) := by decide +kernel
theorem dX12_found_17 : decode cX12_found 17 = .ok (.ireturn, 1) := by decide +kernel
theorem dX12_found_18 : decode cX12_found 18 = .ok (.iload_n 2, 1) := by decide +kernel
theorem dX12_found_19 : decode cX12_found 19 = .ok (.iconst 0, 1) := by decide +kernel
theorem dX12_found_20 : decode cX12_found 20 = .ok (.iconst 2, 1) := by decide +kernel
theorem dX12_found_21 : decode cX12_found 21 = .ok (.aload_n 0, 1) := by decide +kernel
theorem dX12_found_22 : decode cX12_found 22 = .ok (.getfield 177, 3) := by decide +kernel
theorem dX12_found_25 : decode cX12_found 25 = .ok (.imul, 1) := by decide +kernel
theorem dX12_found_26 : decode cX12_found 26 = .ok (.invokestatic 160, 3) := by decide +kernel
theorem dX12_found_29 : decode cX12_found 29 = .ok (.ifCond .ne 6, 3) := by decide +kernel
theorem dX12_found_32 : decode cX12_found 32 = .ok (.ldc 194, 2) := by decide +kernel
theorem dX12_found_34 : decode cX12_found 34 = .ok (.ireturn, 1) := by decide +kernel
theorem dX12_found_35 : decode cX12_found 35 = .ok (.aload_n 0, 1) := by decide +kernel
theorem dX12_found_36 : decode cX12_found 36 = .ok (.iload_n 1, 1) := by decide +kernel
theorem dX12_found_37 : decode cX12_found 37 = .ok (.invokevirtual 404, 3) := by decide +kernel
theorem dX12_found_40 : decode cX12_found 40 = .ok (.ifCond .ne 6, 3) := by decide +kernel
theorem dX12_found_43 : decode cX12_found 43 = .ok (.bipush (-2), 2) := by decide +kernel
theorem dX12_found_45 : decode cX12_found 45 = .ok (.ireturn, 1) := by decide +kernel
theorem dX12_found_46 : decode cX12_found 46 = .ok (.iload_n 2, 1) := by decide +kernel
theorem dX12_found_47 : decode cX12_found 47 = .ok (.ifCond .ne 10, 3) := by decide +kernel
theorem dX12_found_50 : decode cX12_found 50 = .ok (.aload_n 0, 1) := by decide +kernel
theorem dX12_found_51 : decode cX12_found 51 = .ok (.getfield 401, 3) := by decide +kernel
theorem dX12_found_54 : decode cX12_found 54 = .ok (.goto 33, 3) := by decide +kernel
theorem dX12_found_57 : decode cX12_found 57 = .ok (.iload_n 2, 1) := by decide +kernel
theorem dX12_found_58 : decode cX12_found 58 = .ok (.iconst 2, 1) := by decide +kernel
theorem dX12_found_59 : decode cX12_found 59 = .ok (.irem, 1) := by decide +kernel
theorem dX12_found_60 : decode cX12_found 60 = .ok (.iconst 1, 1) := by decide +kernel
theorem dX12_found_61 : decode cX12_found 61 = .ok (.if_icmp .ne 16, 3) := by decide +kernel
theorem dX12_found_64 : decode cX12_found 64 = .ok (.aload_n 0, 1) := by decide +kernel
theorem dX12_found_65 : decode cX12_found 65 = .ok (.getfield 103, 3) := by decide +kernel
theorem dX12_found_68 : decode cX12_found 68 = .ok (.iload_n 2, 1) := by decide +kernel
theorem dX12_found_69 : decode cX12_found 69 = .ok (.iconst 1, 1) := by decide +kernel
theorem dX12_found_70 : decode cX12_found 70 = .ok (.isub, 1) := by decide +kernel
theorem dX12_found_71 : decode cX12_found 71 = .ok (.iconst 2, 1) := by decide +kernel
theorem dX12_found_72 : decode cX12_found 72 = .ok (.idiv, 1) := by decide +kernel
theorem dX12_found_73 : decode cX12_found 73 = .ok (.iaload, 1) := by decide +kernel
theorem dX12_found_74 : decode cX12_found 74 = .ok (.goto 13, 3) := by decide +kernel
theorem dX12_found_77 : decode cX12_found 77 = .ok (.aload_n 0, 1) := by decide +kernel
theorem dX12_found_78 : decode cX12_found 78 = .ok (.getfield 106, 3) := by decide +kernel
theorem dX12_found_81 : decode cX12_found 81 = .ok (.iload_n 2, 1) := by decide +kernel
theorem dX12_found_82 : decode cX12_found 82 = .ok (.iconst 1, 1) := by decide +kernel
theorem dX12_found_83 : decode cX12_found 83 = .ok (.isub, 1) := by decide +kernel
theorem dX12_found_84 : decode cX12_found 84 = .ok (.iconst 2, 1) := by decide +kernel
theorem dX12_found_85 : decode cX12_found 85 = .ok (.idiv, 1) := by decide +kernel
theorem dX12_found_86 : decode cX12_found 86 = .ok (.iaload, 1) := by decide +kernel
theorem dX12_found_87 : decode cX12_found 87 = .ok (.ireturn, 1) := by decide +kernel
theorem dX12_mended_0 : decode cX12_mended 0 = .ok (.aload_n 0, 1) := by decide +kernel
theorem dX12_mended_1 : decode cX12_mended 1 = .ok (.iconst 0, 1) := by decide +kernel
theorem dX12_mended_2 : decode cX12_mended 2 = .ok (.putfield 127, 3) := by decide +kernel
theorem dX12_mended_5 : decode cX12_mended 5 = .ok (.aload_n 0, 1) := by decide +kernel
theorem dX12_mended_6 : decode cX12_mended 6 = .ok (.iload_n 1, 1) := by decide +kernel
theorem dX12_mended_7 : decode cX12_mended 7 = .ok (.invokevirtual 350, 3) := by decide +kernel
theorem dX12_mended_10 : decode cX12_mended 10 = .ok (.ifCond .eq 31, 3) := by decide +kernel
theorem dX12_mended_13 : decode cX12_mended 13 = .ok (.iload_n 2, 1) := by decide +kernel
theorem dX12_mended_14 : decode cX12_mended 14 = .ok (.iconst 0, 1) := by decide +kernel
theorem dX12_mended_15 : decode cX12_mended 15 = .ok (.sipush 999, 3) := by decide +kernel
theorem dX12_mended_18 : decode cX12_mended 18 = .ok (.invokestatic 160, 3) := by decide +kernel
theorem dX12_mended_21 : decode cX12_mended 21 = .ok (.ifCond .eq 20, 3) := by decide +kernel
theorem dX12_mended_24 : decode cX12_mended 24 = .ok (.iload_n 3, 1) := by decide +kernel
theorem dX12_mended_25 : decode cX12_mended 25 = .ok (.iconst 0, 1) := by decide +kernel
theorem dX12_mended_26 : decode cX12_mended 26 = .ok (.iconst 1, 1) := by decide +kernel
theorem dX12_mended_27 : decode cX12_mended 27 = .ok (.invokestatic 160, 3) := by decide +kernel
theorem dX12_mended_30 : decode cX12_mended 30 = .ok (.ifCond .eq 11, 3) := by decide +kernel
theorem dX12_mended_33 : decode cX12_mended 33 = .ok (.aload_n 0, 1) := by decide +kernel
theorem dX12_mended_34 : decode cX12_mended 34 = .ok (.iload_n 2, 1) := by decide +kernel
theorem dX12_mended_35 : decode cX12_mended 35 = .ok (.invokevirtual 404, 3) := by decide +kernel
theorem dX12_mended_38 : decode cX12_mended 38 = .ok (.ifCond .ne 6, 3) := by decide +kernel
theorem dX12_mended_41 : decode cX12_mended 41 = .ok (.ldc 194, 2) := by decide +kernel
theorem dX12_mended_43 : decode cX12_mended 43 = .ok (.ireturn, 1) := by decide +kernel
theorem dX12_mended_44 : decode cX12_mended 44 = .ok (.aload_n 0, 1) := by decide +kernel
theorem dX12_mended_45 : decode cX12_mended 45 = .ok (.iload_n 1, 1) := by decide +kernel
theorem dX12_mended_46 : decode cX12_mended 46 = .ok (.iconst 1, 1) := by decide +kernel
theorem dX12_mended_47 : decode cX12_mended 47 = .ok (.iadd, 1) := by decide +kernel
theorem dX12_mended_48 : decode cX12_mended 48 = .ok (.invokevirtual 344, 3) := by decide +kernel
theorem dX12_mended_51 : decode cX12_mended 51 = .ok (.aload_n 0, 1) := by decide +kernel
theorem dX12_mended_52 : decode cX12_mended 52 = .ok (.iload_n 1, 1) := by decide +kernel
theorem dX12_mended_53 : decode cX12_mended 53 = .ok (.iconst 0, 1) := by decide +kernel
theorem dX12_mended_54 : decode cX12_mended 54 = .ok (.invokevirtual 391, 3) := by decide +kernel
theorem dX12_mended_57 : decode cX12_mended 57 = .ok (.iadd, 1) := by decide +kernel
theorem dX12_mended_58 : decode cX12_mended 58 = .ok (.istore 4, 2) := by decide +kernel
theorem dX12_mended_60 : decode cX12_mended 60 = .ok (.aload_n 0, 1) := by decide +kernel
theorem dX12_mended_61 : decode cX12_mended 61 = .ok (.iload_n 1, 1) := by decide +kernel
theorem dX12_mended_62 : decode cX12_mended 62 = .ok (.iconst 1, 1) := by decide +kernel
theorem dX12_mended_63 : decode cX12_mended 63 = .ok (.iadd, 1) := by decide +kernel
theorem dX12_mended_64 : decode cX12_mended 64 = .ok (.invokevirtual 347, 3) := by decide +kernel
theorem dX12_mended_67 : decode cX12_mended 67 = .ok (.aload_n 0, 1) := by decide +kernel
theorem dX12_mended_68 : decode cX12_mended 68 = .ok (.iload_n 1, 1) := by decide +kernel
theorem dX12_mended_69 : decode cX12_mended 69 = .ok (.iconst 1, 1) := by decide +kernel
theorem dX12_mended_70 : decode cX12_mended 70 = .ok (.invokevirtual 391, 3) := by decide +kernel
theorem dX12_mended_73 : decode cX12_mended 73 = .ok (.iadd, 1) := by decide +kernel
theorem dX12_mended_74 : decode cX12_mended 74 = .ok (.istore 5, 2) := by decide +kernel
theorem dX12_mended_76 : decode cX12_mended 76 = .ok (.iconst (-1), 1) := by decide +kernel
theorem dX12_mended_77 : decode cX12_mended 77 = .ok (.istore 6, 2) := by decide +kernel
theorem dX12_mended_79 : decode cX12_mended 79 = .ok (.iconst 0, 1) := by decide +kernel
theorem dX12_mended_80 : decode cX12_mended 80 = .ok (.istore 7, 2) := by decide +kernel
theorem dX12_mended_82 : decode cX12_mended 82 = .ok (.iload 7, 2) := by decide +kernel
theorem dX12_mended_84 : decode cX12_mended 84 = .ok (.aload_n 0, 1) := by decide +kernel
theorem dX12_mended_85 : decode cX12_mended 85 = .ok (.getfield 177, 3) := by decide +kernel
theorem dX12_mended_88 : decode cX12_mended 88 = .ok (.if_icmp .ge 29, 3) := by decide +kernel
theorem dX12_mended_91 : decode cX12_mended 91 = .ok (.aload_n 0, 1) := by decide +kernel
theorem dX12_mended_92 : decode cX12_mended 92 = .ok (.getfield 91, 3) := by decide +kernel
theorem dX12_mended_95 : decode cX12_mended 95 = .ok (.iload 7, 2) := by decide +kernel
theorem dX12_mended_97 : decode cX12_mended 97 = .ok (.iaload, 1) := by decide +kernel
theorem dX12_mended_98 : decode cX12_mended 98 = .ok (.iload_n 1, 1) := by decide +kernel
theorem dX12_mended_99 : decode cX12_mended 99 = .ok (.if_icmp .ge 8, 3) := by decide +kernel
theorem dX12_mended_102 : decode cX12_mended 102 = .ok (.iload 7, 2) := by decide +kernel
theorem dX12_mended_104 : decode cX12_mended 104 = .ok (.goto 5, 3) := by decide +kernel
theorem dX12_mended_107 : decode cX12_mended 107 = .ok (.iload 6, 2) := by decide +kernel
theorem dX12_mended_109 : decode cX12_mended 109 = .ok (.istore 6, 2) := by decide +kernel
theorem dX12_mended_111 : decode cX12_mended 111 = .ok (.iinc 7 1, 3) := by decide +kernel
theorem dX12_mended_114 : decode cX12_mended 114 = .ok (.goto (-32), 3) := by decide +kernel
theorem dX12_mended_117 : decode cX12_mended 117 = .ok (.iload 6, 2) := by decide +kernel
theorem dX12_mended_119 : decode cX12_mended 119 = .ok (.ifCond .lt 27, 3) := by decide +kernel
theorem dX12_mended_122 : decode cX12_mended 122 = .ok (.iload 4, 2) := by decide +kernel
theorem dX12_mended_124 : decode cX12_mended 124 = .ok (.aload_n 0, 1) := by decide +kernel
theorem dX12_mended_125 : decode cX12_mended 125 = .ok (.getfield 103, 3) := by decide +kernel
theorem dX12_mended_128 : decode cX12_mended 128 = .ok (.iload 6, 2) := by decide +kernel
theorem dX12_mended_130 : decode cX12_mended 130 = .ok (.iaload, 1) := by decide +kernel
theorem dX12_mended_131 : decode cX12_mended 131 = .ok (.isub, 1) := by decide +kernel
theorem dX12_mended_132 : decode cX12_mended 132 = .ok (.istore 4, 2) := by decide +kernel
theorem dX12_mended_134 : decode cX12_mended 134 = .ok (.iload 5, 2) := by decide +kernel
theorem dX12_mended_136 : decode cX12_mended 136 = .ok (.aload_n 0, 1) := by decide +kernel
theorem dX12_mended_137 : decode cX12_mended 137 = .ok (.getfield 106, 3) := by decide +kernel
theorem dX12_mended_140 : decode cX12_mended 140 = .ok (.iload 6, 2) := by decide +kernel
theorem dX12_mended_142 : decode cX12_mended 142 = .ok (.iaload, 1) := by decide +kernel
theorem dX12_mended_143 : decode cX12_mended 143 = .ok (.isub, 1) := by decide +kernel
theorem dX12_mended_144 : decode cX12_mended 144 = .ok (.istore 5, 2) := by decide +kernel
theorem dX12_mended_146 : decode cX12_mended 146 = .ok (.iload_n 3, 1) := by decide +kernel
theorem dX12_mended_147 : decode cX12_mended 147 = .ok (.ifCond .ne 14, 3) := by decide +kernel
theorem dX12_mended_150 : decode cX12_mended 150 = .ok (.aload_n 0, 1) := by decide +kernel
theorem dX12_mended_151 : decode cX12_mended 151 = .ok (.iload 4, 2) := by decide +kernel
theorem dX12_mended_153 : decode cX12_mended 153 = .ok (.iload 5, 2) := by decide +kernel
theorem dX12_mended_155 : decode cX12_mended 155 = .ok (.invokevirtual 156, 3) := by decide +kernel
theorem dX12_mended_158 : decode cX12_mended 158 = .ok (.goto 11, 3) := by decide +kernel
theorem dX12_mended_161 : decode cX12_mended 161 = .ok (.aload_n 0, 1) := by decide +kernel
theorem dX12_mended_162 : decode cX12_mended 162 = .ok (.iload 4, 2) := by decide +kernel
theorem dX12_mended_164 : decode cX12_mended 164 = .ok (.iload 5, 2) := by decide +kernel
theorem dX12_mended_166 : decode cX12_mended 166 = .ok (.invokevirtual 195, 3) := by decide +kernel
theorem dX12_mended_169 : decode cX12_mended 169 = .ok (.ireturn, 1) := by decide +kernel
theorem dX12_other_0 : decode cX12_other 0 = .ok (.aload_n 0, 1) := by decide +kernel
theorem dX12_other_1 : decode cX12_other 1 = .ok (.iconst 0, 1) := by decide +kernel
theorem dX12_other_2 : decode cX12_other 2 = .ok (.putfield 127, 3) := by decide +kernel
theorem dX12_other_5 : decode cX12_other 5 = .ok (.aload_n 0, 1) := by decide +kernel
theorem dX12_other_6 : decode cX12_other 6 = .ok (.aload_n 0, 1) := by decide +kernel
theorem dX12_other_7 : decode cX12_other 7 = .ok (.getfield 164, 3) := by decide +kernel
theorem dX12_other_10 : decode cX12_other 10 = .ok (.putfield 171, 3) := by decide +kernel
theorem dX12_other_13 : decode cX12_other 13 = .ok (.iconst 0, 1) := by decide +kernel
theorem dX12_other_14 : decode cX12_other 14 = .ok (.istore_n 1, 1) := by decide +kernel
theorem dX12_other_15 : decode cX12_other 15 = .ok (.iload_n 1, 1) := by decide +kernel
theorem dX12_other_16 : decode cX12_other 16 = .ok (.aload_n 0, 1) := by decide +kernel
theorem dX12_other_17 : decode cX12_other 17 = .ok (.getfield 164, 3) := by decide +kernel
theorem dX12_other_20 : decode cX12_other 20 = .ok (.if_icmp .gt 57, 3) := by decide +kernel
theorem dX12_other_23 : decode cX12_other 23 = .ok (.aload_n 0, 1) := by decide +kernel
theorem dX12_other_24 : decode cX12_other 24 = .ok (.getfield 59, 3) := by decide +kernel
theorem dX12_other_27 : decode cX12_other 27 = .ok (.sipush 151, 3) := by decide +kernel
theorem dX12_other_30 : decode cX12_other 30 = .ok (.iload_n 1, 1) := by decide +kernel
theorem dX12_other_31 : decode cX12_other 31 = .ok (.iadd, 1) := by decide +kernel
theorem dX12_other_32 : decode cX12_other 32 = .ok (.aload_n 0, 1) := by decide +kernel
theorem dX12_other_33 : decode cX12_other 33 = .ok (.getfield 59, 3) := by decide +kernel
theorem dX12_other_36 : decode cX12_other 36 = .ok (.iload_n 1, 1) := by decide +kernel
theorem dX12_other_37 : decode cX12_other 37 = .ok (.iaload, 1) := by decide +kernel
theorem dX12_other_38 : decode cX12_other 38 = .ok (.iastore, 1) := by decide +kernel
theorem dX12_other_39 : decode cX12_other 39 = .ok (.aload_n 0, 1) := by decide +kernel
theorem dX12_other_40 : decode cX12_other 40 = .ok (.getfield 62, 3) := by decide +kernel
theorem dX12_other_43 : decode cX12_other 43 = .ok (.sipush 151, 3) := by decide +kernel
theorem dX12_other_46 : decode cX12_other 46 = .ok (.iload_n 1, 1) := by decide +kernel
theorem dX12_other_47 : decode cX12_other 47 = .ok (.iadd, 1) := by decide +kernel
theorem dX12_other_48 : decode cX12_other 48 = .ok (.aload_n 0, 1) := by decide +kernel
theorem dX12_other_49 : decode cX12_other 49 = .ok (.getfield 62, 3) := by decide +kernel
theorem dX12_other_52 : decode cX12_other 52 = .ok (.iload_n 1, 1) := by decide +kernel
theorem dX12_other_53 : decode cX12_other 53 = .ok (.iaload, 1) := by decide +kernel
theorem dX12_other_54 : decode cX12_other 54 = .ok (.iastore, 1) := by decide +kernel
theorem dX12_other_55 : decode cX12_other 55 = .ok (.aload_n 0, 1) := by decide +kernel
theorem dX12_other_56 : decode cX12_other 56 = .ok (.getfield 65, 3) := by decide +kernel
theorem dX12_other_59 : decode cX12_other 59 = .ok (.sipush 151, 3) := by decide +kernel
theorem dX12_other_62 : decode cX12_other 62 = .ok (.iload_n 1, 1) := by decide +kernel
theorem dX12_other_63 : decode cX12_other 63 = .ok (.iadd, 1) := by decide +kernel
theorem dX12_other_64 : decode cX12_other 64 = .ok (.aload_n 0, 1) := by decide +kernel
theorem dX12_other_65 : decode cX12_other 65 = .ok (.getfield 65, 3) := by decide +kernel
theorem dX12_other_68 : decode cX12_other 68 = .ok (.iload_n 1, 1) := by decide +kernel
theorem dX12_other_69 : decode cX12_other 69 = .ok (.baload, 1) := by decide +kernel
theorem dX12_other_70 : decode cX12_other 70 = .ok (.bastore, 1) := by decide +kernel
theorem dX12_other_71 : decode cX12_other 71 = .ok (.iinc 1 1, 3) := by decide +kernel
theorem dX12_other_74 : decode cX12_other 74 = .ok (.goto (-59), 3) := by decide +kernel
theorem dX12_other_77 : decode cX12_other 77 = .ok (.aload_n 0, 1) := by decide +kernel
theorem dX12_other_78 : decode cX12_other 78 = .ok (.getfield 171, 3) := by decide +kernel
theorem dX12_other_81 : decode cX12_other 81 = .ok (.ireturn, 1) := by decide +kernel
theorem dX12_isAway_0 : decode cX12_isAway 0 = .ok (.lload 6, 2) := by decide +kernel
theorem dX12_isAway_2 : decode cX12_isAway 2 = .ok (.lload 4, 2) := by decide +kernel
theorem dX12_isAway_4 : decode cX12_isAway 4 = .ok (.lsub, 1) := by decide +kernel
theorem dX12_isAway_5 : decode cX12_isAway 5 = .ok (.lstore 12, 2) := by decide +kernel
theorem dX12_isAway_7 : decode cX12_isAway 7 = .ok (.lload_n 0, 1) := by decide +kernel
theorem dX12_isAway_8 : decode cX12_isAway 8 = .ok (.lload 4, 2) := by decide +kernel
theorem dX12_isAway_10 : decode cX12_isAway 10 = .ok (.lsub, 1) := by decide +kernel
theorem dX12_isAway_11 : decode cX12_isAway 11 = .ok (.lload 12, 2) := by decide +kernel
theorem dX12_isAway_13 : decode cX12_isAway 13 = .ok (.lmul, 1) := by decide +kernel
theorem dX12_isAway_14 : decode cX12_isAway 14 = .ok (.lload_n 2, 1) := by decide +kernel
theorem dX12_isAway_15 : decode cX12_isAway 15 = .ok (.lload 8, 2) := by decide +kernel
theorem dX12_isAway_17 : decode cX12_isAway 17 = .ok (.lmul, 1) := by decide +kernel
theorem dX12_isAway_18 : decode cX12_isAway 18 = .ok (.ladd, 1) := by decide +kernel
theorem dX12_isAway_19 : decode cX12_isAway 19 = .ok (.lstore 14, 2) := by decide +kernel
theorem dX12_isAway_21 : decode cX12_isAway 21 = .ok (.lload 12, 2) := by decide +kernel
theorem dX12_isAway_23 : decode cX12_isAway 23 = .ok (.lload 12, 2) := by decide +kernel
theorem dX12_isAway_25 : decode cX12_isAway 25 = .ok (.lmul, 1) := by decide +kernel
theorem dX12_isAway_26 : decode cX12_isAway 26 = .ok (.lload 8, 2) := by decide +kernel
theorem dX12_isAway_28 : decode cX12_isAway 28 = .ok (.lload 8, 2) := by decide +kernel
theorem dX12_isAway_30 : decode cX12_isAway 30 = .ok (.lmul, 1) := by decide +kernel
theorem dX12_isAway_31 : decode cX12_isAway 31 = .ok (.ladd, 1) := by decide +kernel
theorem dX12_isAway_32 : decode cX12_isAway 32 = .ok (.lstore 16, 2) := by decide +kernel
theorem dX12_isAway_34 : decode cX12_isAway 34 = .ok (.lload 14, 2) := by decide +kernel
theorem dX12_isAway_36 : decode cX12_isAway 36 = .ok (.lconst 0, 1) := by decide +kernel
theorem dX12_isAway_37 : decode cX12_isAway 37 = .ok (.lcmp, 1) := by decide +kernel
theorem dX12_isAway_38 : decode cX12_isAway 38 = .ok (.ifCond .gt 31, 3) := by decide +kernel
theorem dX12_isAway_41 : decode cX12_isAway 41 = .ok (.lload_n 0, 1) := by decide +kernel
theorem dX12_isAway_42 : decode cX12_isAway 42 = .ok (.lload 4, 2) := by decide +kernel
theorem dX12_isAway_44 : decode cX12_isAway 44 = .ok (.lsub, 1) := by decide +kernel
theorem dX12_isAway_45 : decode cX12_isAway 45 = .ok (.lload_n 0, 1) := by decide +kernel
theorem dX12_isAway_46 : decode cX12_isAway 46 = .ok (.lload 4, 2) := by decide +kernel
theorem dX12_isAway_48 : decode cX12_isAway 48 = .ok (.lsub, 1) := by decide +kernel
theorem dX12_isAway_49 : decode cX12_isAway 49 = .ok (.lmul, 1) := by decide +kernel
theorem dX12_isAway_50 : decode cX12_isAway 50 = .ok (.lload_n 2, 1) := by decide +kernel
theorem dX12_isAway_51 : decode cX12_isAway 51 = .ok (.lload_n 2, 1) := by decide +kernel
theorem dX12_isAway_52 : decode cX12_isAway 52 = .ok (.lmul, 1) := by decide +kernel
theorem dX12_isAway_53 : decode cX12_isAway 53 = .ok (.ladd, 1) := by decide +kernel
theorem dX12_isAway_54 : decode cX12_isAway 54 = .ok (.lload 10, 2) := by decide +kernel
theorem dX12_isAway_56 : decode cX12_isAway 56 = .ok (.lload 10, 2) := by decide +kernel
theorem dX12_isAway_58 : decode cX12_isAway 58 = .ok (.lmul, 1) := by decide +kernel
theorem dX12_isAway_59 : decode cX12_isAway 59 = .ok (.lcmp, 1) := by decide +kernel
theorem dX12_isAway_60 : decode cX12_isAway 60 = .ok (.ifCond .lt 7, 3) := by decide +kernel
theorem dX12_isAway_63 : decode cX12_isAway 63 = .ok (.iconst 1, 1) := by decide +kernel
theorem dX12_isAway_64 : decode cX12_isAway 64 = .ok (.goto 4, 3) := by decide +kernel
theorem dX12_isAway_67 : decode cX12_isAway 67 = .ok (.iconst 0, 1) := by decide +kernel
theorem dX12_isAway_68 : decode cX12_isAway 68 = .ok (.ireturn, 1) := by decide +kernel
theorem dX12_isAway_69 : decode cX12_isAway 69 = .ok (.lload 14, 2) := by decide +kernel
theorem dX12_isAway_71 : decode cX12_isAway 71 = .ok (.lload 16, 2) := by decide +kernel
theorem dX12_isAway_73 : decode cX12_isAway 73 = .ok (.lcmp, 1) := by decide +kernel
theorem dX12_isAway_74 : decode cX12_isAway 74 = .ok (.ifCond .lt 37, 3) := by decide +kernel
theorem dX12_isAway_77 : decode cX12_isAway 77 = .ok (.lload_n 0, 1) := by decide +kernel
theorem dX12_isAway_78 : decode cX12_isAway 78 = .ok (.lload 6, 2) := by decide +kernel
theorem dX12_isAway_80 : decode cX12_isAway 80 = .ok (.lsub, 1) := by decide +kernel
theorem dX12_isAway_81 : decode cX12_isAway 81 = .ok (.lload_n 0, 1) := by decide +kernel
theorem dX12_isAway_82 : decode cX12_isAway 82 = .ok (.lload 6, 2) := by decide +kernel
theorem dX12_isAway_84 : decode cX12_isAway 84 = .ok (.lsub, 1) := by decide +kernel
theorem dX12_isAway_85 : decode cX12_isAway 85 = .ok (.lmul, 1) := by decide +kernel
theorem dX12_isAway_86 : decode cX12_isAway 86 = .ok (.lload_n 2, 1) := by decide +kernel
theorem dX12_isAway_87 : decode cX12_isAway 87 = .ok (.lload 8, 2) := by decide +kernel
theorem dX12_isAway_89 : decode cX12_isAway 89 = .ok (.lsub, 1) := by decide +kernel
theorem dX12_isAway_90 : decode cX12_isAway 90 = .ok (.lload_n 2, 1) := by decide +kernel
theorem dX12_isAway_91 : decode cX12_isAway 91 = .ok (.lload 8, 2) := by decide +kernel
theorem dX12_isAway_93 : decode cX12_isAway 93 = .ok (.lsub, 1) := by decide +kernel
theorem dX12_isAway_94 : decode cX12_isAway 94 = .ok (.lmul, 1) := by decide +kernel
theorem dX12_isAway_95 : decode cX12_isAway 95 = .ok (.ladd, 1) := by decide +kernel
theorem dX12_isAway_96 : decode cX12_isAway 96 = .ok (.lload 10, 2) := by decide +kernel
theorem dX12_isAway_98 : decode cX12_isAway 98 = .ok (.lload 10, 2) := by decide +kernel
theorem dX12_isAway_100 : decode cX12_isAway 100 = .ok (.lmul, 1) := by decide +kernel
theorem dX12_isAway_101 : decode cX12_isAway 101 = .ok (.lcmp, 1) := by decide +kernel
theorem dX12_isAway_102 : decode cX12_isAway 102 = .ok (.ifCond .lt 7, 3) := by decide +kernel
theorem dX12_isAway_105 : decode cX12_isAway 105 = .ok (.iconst 1, 1) := by decide +kernel
theorem dX12_isAway_106 : decode cX12_isAway 106 = .ok (.goto 4, 3) := by decide +kernel
theorem dX12_isAway_109 : decode cX12_isAway 109 = .ok (.iconst 0, 1) := by decide +kernel
theorem dX12_isAway_110 : decode cX12_isAway 110 = .ok (.ireturn, 1) := by decide +kernel
theorem dX12_isAway_111 : decode cX12_isAway 111 = .ok (.lload 12, 2) := by decide +kernel
theorem dX12_isAway_113 : decode cX12_isAway 113 = .ok (.lload_n 2, 1) := by decide +kernel
theorem dX12_isAway_114 : decode cX12_isAway 114 = .ok (.lmul, 1) := by decide +kernel
theorem dX12_isAway_115 : decode cX12_isAway 115 = .ok (.lload 8, 2) := by decide +kernel
theorem dX12_isAway_117 : decode cX12_isAway 117 = .ok (.lload_n 0, 1) := by decide +kernel
theorem dX12_isAway_118 : decode cX12_isAway 118 = .ok (.lload 4, 2) := by decide +kernel
theorem dX12_isAway_120 : decode cX12_isAway 120 = .ok (.lsub, 1) := by decide +kernel
theorem dX12_isAway_121 : decode cX12_isAway 121 = .ok (.lmul, 1) := by decide +kernel
theorem dX12_isAway_122 : decode cX12_isAway 122 = .ok (.lsub, 1) := by decide +kernel
theorem dX12_isAway_123 : decode cX12_isAway 123 = .ok (.lstore 18, 2) := by decide +kernel
theorem dX12_isAway_125 : decode cX12_isAway 125 = .ok (.lload 18, 2) := by decide +kernel
theorem dX12_isAway_127 : decode cX12_isAway 127 = .ok (.lload 18, 2) := by decide +kernel
theorem dX12_isAway_129 : decode cX12_isAway 129 = .ok (.lmul, 1) := by decide +kernel
theorem dX12_isAway_130 : decode cX12_isAway 130 = .ok (.lload 10, 2) := by decide +kernel
theorem dX12_isAway_132 : decode cX12_isAway 132 = .ok (.lload 10, 2) := by decide +kernel
theorem dX12_isAway_134 : decode cX12_isAway 134 = .ok (.lmul, 1) := by decide +kernel
theorem dX12_isAway_135 : decode cX12_isAway 135 = .ok (.lload 16, 2) := by decide +kernel
theorem dX12_isAway_137 : decode cX12_isAway 137 = .ok (.lmul, 1) := by decide +kernel
theorem dX12_isAway_138 : decode cX12_isAway 138 = .ok (.lcmp, 1) := by decide +kernel
theorem dX12_isAway_139 : decode cX12_isAway 139 = .ok (.ifCond .lt 7, 3) := by decide +kernel
theorem dX12_isAway_142 : decode cX12_isAway 142 = .ok (.iconst 1, 1) := by decide +kernel
theorem dX12_isAway_143 : decode cX12_isAway 143 = .ok (.goto 4, 3) := by decide +kernel
theorem dX12_isAway_146 : decode cX12_isAway 146 = .ok (.iconst 0, 1) := by decide +kernel
theorem dX12_isAway_147 : decode cX12_isAway 147 = .ok (.ireturn, 1) := by decide +kernel
theorem dX12_isClear_0 : decode cX12_isClear 0 = .ok (.aload_n 0, 1) := by decide +kernel
theorem dX12_isClear_1 : decode cX12_isClear 1 = .ok (.getfield 59, 3) := by decide +kernel
theorem dX12_isClear_4 : decode cX12_isClear 4 = .ok (.iload_n 3, 1) := by decide +kernel
theorem dX12_isClear_5 : decode cX12_isClear 5 = .ok (.iaload, 1) := by decide +kernel
theorem dX12_isClear_6 : decode cX12_isClear 6 = .ok (.istore 5, 2) := by decide +kernel
theorem dX12_isClear_8 : decode cX12_isClear 8 = .ok (.aload_n 0, 1) := by decide +kernel
theorem dX12_isClear_9 : decode cX12_isClear 9 = .ok (.getfield 62, 3) := by decide +kernel
theorem dX12_isClear_12 : decode cX12_isClear 12 = .ok (.iload_n 3, 1) := by decide +kernel
theorem dX12_isClear_13 : decode cX12_isClear 13 = .ok (.iaload, 1) := by decide +kernel
theorem dX12_isClear_14 : decode cX12_isClear 14 = .ok (.istore 6, 2) := by decide +kernel
theorem dX12_isClear_16 : decode cX12_isClear 16 = .ok (.aload_n 0, 1) := by decide +kernel
theorem dX12_isClear_17 : decode cX12_isClear 17 = .ok (.getfield 59, 3) := by decide +kernel
theorem dX12_isClear_20 : decode cX12_isClear 20 = .ok (.sipush 151, 3) := by decide +kernel
theorem dX12_isClear_23 : decode cX12_isClear 23 = .ok (.iload 4, 2) := by decide +kernel
theorem dX12_isClear_25 : decode cX12_isClear 25 = .ok (.iadd, 1) := by decide +kernel
theorem dX12_isClear_26 : decode cX12_isClear 26 = .ok (.iaload, 1) := by decide +kernel
theorem dX12_isClear_27 : decode cX12_isClear 27 = .ok (.iload_n 1, 1) := by decide +kernel
theorem dX12_isClear_28 : decode cX12_isClear 28 = .ok (.iadd, 1) := by decide +kernel
theorem dX12_isClear_29 : decode cX12_isClear 29 = .ok (.istore 7, 2) := by decide +kernel
theorem dX12_isClear_31 : decode cX12_isClear 31 = .ok (.aload_n 0, 1) := by decide +kernel
theorem dX12_isClear_32 : decode cX12_isClear 32 = .ok (.getfield 62, 3) := by decide +kernel
theorem dX12_isClear_35 : decode cX12_isClear 35 = .ok (.sipush 151, 3) := by decide +kernel
theorem dX12_isClear_38 : decode cX12_isClear 38 = .ok (.iload 4, 2) := by decide +kernel
theorem dX12_isClear_40 : decode cX12_isClear 40 = .ok (.iadd, 1) := by decide +kernel
theorem dX12_isClear_41 : decode cX12_isClear 41 = .ok (.iaload, 1) := by decide +kernel
theorem dX12_isClear_42 : decode cX12_isClear 42 = .ok (.istore 8, 2) := by decide +kernel
theorem dX12_isClear_44 : decode cX12_isClear 44 = .ok (.iload 5, 2) := by decide +kernel
theorem dX12_isClear_46 : decode cX12_isClear 46 = .ok (.i2l, 1) := by decide +kernel
theorem dX12_isClear_47 : decode cX12_isClear 47 = .ok (.iload 6, 2) := by decide +kernel
theorem dX12_isClear_49 : decode cX12_isClear 49 = .ok (.i2l, 1) := by decide +kernel
theorem dX12_isClear_50 : decode cX12_isClear 50 = .ok (.iload_n 1, 1) := by decide +kernel
theorem dX12_isClear_51 : decode cX12_isClear 51 = .ok (.i2l, 1) := by decide +kernel
theorem dX12_isClear_52 : decode cX12_isClear 52 = .ok (.iload 7, 2) := by decide +kernel
theorem dX12_isClear_54 : decode cX12_isClear 54 = .ok (.i2l, 1) := by decide +kernel
theorem dX12_isClear_55 : decode cX12_isClear 55 = .ok (.iload 8, 2) := by decide +kernel
theorem dX12_isClear_57 : decode cX12_isClear 57 = .ok (.i2l, 1) := by decide +kernel
theorem dX12_isClear_58 : decode cX12_isClear 58 = .ok (.iload_n 2, 1) := by decide +kernel
theorem dX12_isClear_59 : decode cX12_isClear 59 = .ok (.i2l, 1) := by decide +kernel
theorem dX12_isClear_60 : decode cX12_isClear 60 = .ok (.invokestatic 407, 3) := by decide +kernel
theorem dX12_isClear_63 : decode cX12_isClear 63 = .ok (.ifCond .eq 32, 3) := by decide +kernel
theorem dX12_isClear_66 : decode cX12_isClear 66 = .ok (.iload 7, 2) := by decide +kernel
theorem dX12_isClear_68 : decode cX12_isClear 68 = .ok (.i2l, 1) := by decide +kernel
theorem dX12_isClear_69 : decode cX12_isClear 69 = .ok (.iload 8, 2) := by decide +kernel
theorem dX12_isClear_71 : decode cX12_isClear 71 = .ok (.i2l, 1) := by decide +kernel
theorem dX12_isClear_72 : decode cX12_isClear 72 = .ok (.aload_n 0, 1) := by decide +kernel
theorem dX12_isClear_73 : decode cX12_isClear 73 = .ok (.getfield 13, 3) := by decide +kernel
theorem dX12_isClear_76 : decode cX12_isClear 76 = .ok (.i2l, 1) := by decide +kernel
theorem dX12_isClear_77 : decode cX12_isClear 77 = .ok (.iload 5, 2) := by decide +kernel
theorem dX12_isClear_79 : decode cX12_isClear 79 = .ok (.i2l, 1) := by decide +kernel
theorem dX12_isClear_80 : decode cX12_isClear 80 = .ok (.iload 6, 2) := by decide +kernel
theorem dX12_isClear_82 : decode cX12_isClear 82 = .ok (.i2l, 1) := by decide +kernel
theorem dX12_isClear_83 : decode cX12_isClear 83 = .ok (.iload_n 2, 1) := by decide +kernel
theorem dX12_isClear_84 : decode cX12_isClear 84 = .ok (.i2l, 1) := by decide +kernel
theorem dX12_isClear_85 : decode cX12_isClear 85 = .ok (.invokestatic 407, 3) := by decide +kernel
theorem dX12_isClear_88 : decode cX12_isClear 88 = .ok (.ifCond .eq 7, 3) := by decide +kernel
theorem dX12_isClear_91 : decode cX12_isClear 91 = .ok (.iconst 1, 1) := by decide +kernel
theorem dX12_isClear_92 : decode cX12_isClear 92 = .ok (.goto 4, 3) := by decide +kernel
theorem dX12_isClear_95 : decode cX12_isClear 95 = .ok (.iconst 0, 1) := by decide +kernel
theorem dX12_isClear_96 : decode cX12_isClear 96 = .ok (.ireturn, 1) := by decide +kernel
theorem dX12_isBeside_0 : decode cX12_isBeside 0 = .ok (.iload_n 1, 1) := by decide +kernel
theorem dX12_isBeside_1 : decode cX12_isBeside 1 = .ok (.iconst 1, 1) := by decide +kernel
theorem dX12_isBeside_2 : decode cX12_isBeside 2 = .ok (.aload_n 0, 1) := by decide +kernel
theorem dX12_isBeside_3 : decode cX12_isBeside 3 = .ok (.getfield 13, 3) := by decide +kernel
theorem dX12_isBeside_6 : decode cX12_isBeside 6 = .ok (.invokestatic 160, 3) := by decide +kernel
theorem dX12_isBeside_9 : decode cX12_isBeside 9 = .ok (.ireturn, 1) := by decide +kernel
theorem dX12_clear_0 : decode cX12_clear 0 = .ok (.aload_n 0, 1) := by decide +kernel
theorem dX12_clear_1 : decode cX12_clear 1 = .ok (.iconst 0, 1) := by decide +kernel
theorem dX12_clear_2 : decode cX12_clear 2 = .ok (.putfield 127, 3) := by decide +kernel
theorem dX12_clear_5 : decode cX12_clear 5 = .ok (.aload_n 0, 1) := by decide +kernel
theorem dX12_clear_6 : decode cX12_clear 6 = .ok (.iload_n 1, 1) := by decide +kernel
theorem dX12_clear_7 : decode cX12_clear 7 = .ok (.invokevirtual 411, 3) := by decide +kernel
theorem dX12_clear_10 : decode cX12_clear 10 = .ok (.ifCond .eq 38, 3) := by decide +kernel
theorem dX12_clear_13 : decode cX12_clear 13 = .ok (.iload_n 2, 1) := by decide +kernel
theorem dX12_clear_14 : decode cX12_clear 14 = .ok (.iconst 0, 1) := by decide +kernel
theorem dX12_clear_15 : decode cX12_clear 15 = .ok (.bipush 50, 2) := by decide +kernel
theorem dX12_clear_17 : decode cX12_clear 17 = .ok (.invokestatic 160, 3) := by decide +kernel
theorem dX12_clear_20 : decode cX12_clear 20 = .ok (.ifCond .eq 28, 3) := by decide +kernel
theorem dX12_clear_23 : decode cX12_clear 23 = .ok (.iload_n 3, 1) := by decide +kernel
theorem dX12_clear_24 : decode cX12_clear 24 = .ok (.iconst 0, 1) := by decide +kernel
theorem dX12_clear_25 : decode cX12_clear 25 = .ok (.aload_n 0, 1) := by decide +kernel
theorem dX12_clear_26 : decode cX12_clear 26 = .ok (.getfield 164, 3) := by decide +kernel
theorem dX12_clear_29 : decode cX12_clear 29 = .ok (.invokestatic 160, 3) := by decide +kernel
theorem dX12_clear_32 : decode cX12_clear 32 = .ok (.ifCond .eq 16, 3) := by decide +kernel
theorem dX12_clear_35 : decode cX12_clear 35 = .ok (.iload 4, 2) := by decide +kernel
theorem dX12_clear_37 : decode cX12_clear 37 = .ok (.iconst 0, 1) := by decide +kernel
theorem dX12_clear_38 : decode cX12_clear 38 = .ok (.aload_n 0, 1) := by decide +kernel
theorem dX12_clear_39 : decode cX12_clear 39 = .ok (.getfield 171, 3) := by decide +kernel
theorem dX12_clear_42 : decode cX12_clear 42 = .ok (.invokestatic 160, 3) := by decide +kernel
theorem dX12_clear_45 : decode cX12_clear 45 = .ok (.ifCond .ne 5, 3) := by decide +kernel
theorem dX12_clear_48 : decode cX12_clear 48 = .ok (.iconst (-1), 1) := by decide +kernel
theorem dX12_clear_49 : decode cX12_clear 49 = .ok (.ireturn, 1) := by decide +kernel
theorem dX12_clear_50 : decode cX12_clear 50 = .ok (.aload_n 0, 1) := by decide +kernel
theorem dX12_clear_51 : decode cX12_clear 51 = .ok (.iload_n 1, 1) := by decide +kernel
theorem dX12_clear_52 : decode cX12_clear 52 = .ok (.iload_n 2, 1) := by decide +kernel
theorem dX12_clear_53 : decode cX12_clear 53 = .ok (.iload_n 3, 1) := by decide +kernel
theorem dX12_clear_54 : decode cX12_clear 54 = .ok (.iload 4, 2) := by decide +kernel
theorem dX12_clear_56 : decode cX12_clear 56 = .ok (.invokevirtual 414, 3) := by decide +kernel
theorem dX12_clear_59 : decode cX12_clear 59 = .ok (.ifCond .eq 7, 3) := by decide +kernel
theorem dX12_clear_62 : decode cX12_clear 62 = .ok (.iconst 1, 1) := by decide +kernel
theorem dX12_clear_63 : decode cX12_clear 63 = .ok (.goto 4, 3) := by decide +kernel
theorem dX12_clear_66 : decode cX12_clear 66 = .ok (.iconst 0, 1) := by decide +kernel
theorem dX12_clear_67 : decode cX12_clear 67 = .ok (.ireturn, 1) := by decide +kernel
theorem dX12_comesFrom_0 : decode cX12_comesFrom 0 = .ok (.iload_n 1, 1) := by decide +kernel
theorem dX12_comesFrom_1 : decode cX12_comesFrom 1 = .ok (.ifCond .lt 25, 3) := by decide +kernel
theorem dX12_comesFrom_4 : decode cX12_comesFrom 4 = .ok (.iload_n 2, 1) := by decide +kernel
theorem dX12_comesFrom_5 : decode cX12_comesFrom 5 = .ok (.ifCond .lt 21, 3) := by decide +kernel
theorem dX12_comesFrom_8 : decode cX12_comesFrom 8 = .ok (.aload_n 0, 1) := by decide +kernel
theorem dX12_comesFrom_9 : decode cX12_comesFrom 9 = .ok (.getfield 109, 3) := by decide +kernel
theorem dX12_comesFrom_12 : decode cX12_comesFrom 12 = .ok (.sipush 151, 3) := by decide +kernel
theorem dX12_comesFrom_15 : decode cX12_comesFrom 15 = .ok (.iload_n 1, 1) := by decide +kernel
theorem dX12_comesFrom_16 : decode cX12_comesFrom 16 = .ok (.imul, 1) := by decide +kernel
theorem dX12_comesFrom_17 : decode cX12_comesFrom 17 = .ok (.iload_n 2, 1) := by decide +kernel
theorem dX12_comesFrom_18 : decode cX12_comesFrom 18 = .ok (.iadd, 1) := by decide +kernel
theorem dX12_comesFrom_19 : decode cX12_comesFrom 19 = .ok (.iaload, 1) := by decide +kernel
theorem dX12_comesFrom_20 : decode cX12_comesFrom 20 = .ok (.ldc_w 417, 3) := by decide +kernel
theorem dX12_comesFrom_23 : decode cX12_comesFrom 23 = .ok (.if_icmp .lt 9, 3) := by decide +kernel
theorem dX12_comesFrom_26 : decode cX12_comesFrom 26 = .ok (.ldc_w 417, 3) := by decide +kernel
theorem dX12_comesFrom_29 : decode cX12_comesFrom 29 = .ok (.goto 17, 3) := by decide +kernel
theorem dX12_comesFrom_32 : decode cX12_comesFrom 32 = .ok (.aload_n 0, 1) := by decide +kernel
theorem dX12_comesFrom_33 : decode cX12_comesFrom 33 = .ok (.getfield 109, 3) := by decide +kernel
theorem dX12_comesFrom_36 : decode cX12_comesFrom 36 = .ok (.sipush 151, 3) := by decide +kernel
theorem dX12_comesFrom_39 : decode cX12_comesFrom 39 = .ok (.iload_n 1, 1) := by decide +kernel
theorem dX12_comesFrom_40 : decode cX12_comesFrom 40 = .ok (.imul, 1) := by decide +kernel
theorem dX12_comesFrom_41 : decode cX12_comesFrom 41 = .ok (.iload_n 2, 1) := by decide +kernel
theorem dX12_comesFrom_42 : decode cX12_comesFrom 42 = .ok (.iadd, 1) := by decide +kernel
theorem dX12_comesFrom_43 : decode cX12_comesFrom 43 = .ok (.iaload, 1) := by decide +kernel
theorem dX12_comesFrom_44 : decode cX12_comesFrom 44 = .ok (.iload_n 3, 1) := by decide +kernel
theorem dX12_comesFrom_45 : decode cX12_comesFrom 45 = .ok (.iadd, 1) := by decide +kernel
theorem dX12_comesFrom_46 : decode cX12_comesFrom 46 = .ok (.ireturn, 1) := by decide +kernel
theorem dX12_together_0 : decode cX12_together 0 = .ok (.aload_n 0, 1) := by decide +kernel
theorem dX12_together_1 : decode cX12_together 1 = .ok (.iconst 0, 1) := by decide +kernel
theorem dX12_together_2 : decode cX12_together 2 = .ok (.putfield 127, 3) := by decide +kernel
theorem dX12_together_5 : decode cX12_together 5 = .ok (.aload_n 0, 1) := by decide +kernel
theorem dX12_together_6 : decode cX12_together 6 = .ok (.iload_n 1, 1) := by decide +kernel
theorem dX12_together_7 : decode cX12_together 7 = .ok (.invokevirtual 411, 3) := by decide +kernel
theorem dX12_together_10 : decode cX12_together 10 = .ok (.ifCond .eq 13, 3) := by decide +kernel
theorem dX12_together_13 : decode cX12_together 13 = .ok (.iload_n 2, 1) := by decide +kernel
theorem dX12_together_14 : decode cX12_together 14 = .ok (.iconst 0, 1) := by decide +kernel
theorem dX12_together_15 : decode cX12_together 15 = .ok (.bipush 50, 2) := by decide +kernel
theorem dX12_together_17 : decode cX12_together 17 = .ok (.invokestatic 160, 3) := by decide +kernel
theorem dX12_together_20 : decode cX12_together 20 = .ok (.ifCond .ne 5, 3) := by decide +kernel
theorem dX12_together_23 : decode cX12_together 23 = .ok (.iconst (-1), 1) := by decide +kernel
theorem dX12_together_24 : decode cX12_together 24 = .ok (.ireturn, 1) := by decide +kernel
theorem dX12_together_25 : decode cX12_together 25 = .ok (.iconst 0, 1) := by decide +kernel
theorem dX12_together_26 : decode cX12_together 26 = .ok (.istore_n 3, 1) := by decide +kernel
theorem dX12_together_27 : decode cX12_together 27 = .ok (.iload_n 3, 1) := by decide +kernel
theorem dX12_together_28 : decode cX12_together 28 = .ok (.aload_n 0, 1) := by decide +kernel
theorem dX12_together_29 : decode cX12_together 29 = .ok (.getfield 164, 3) := by decide +kernel
theorem dX12_together_32 : decode cX12_together 32 = .ok (.if_icmp .ge 22, 3) := by decide +kernel
theorem dX12_together_35 : decode cX12_together 35 = .ok (.aload_n 0, 1) := by decide +kernel
theorem dX12_together_36 : decode cX12_together 36 = .ok (.getfield 112, 3) := by decide +kernel
theorem dX12_together_39 : decode cX12_together 39 = .ok (.iload_n 3, 1) := by decide +kernel
theorem dX12_together_40 : decode cX12_together 40 = .ok (.iconst 1, 1) := by decide +kernel
theorem dX12_together_41 : decode cX12_together 41 = .ok (.iadd, 1) := by decide +kernel
theorem dX12_together_42 : decode cX12_together 42 = .ok (.aload_n 0, 1) := by decide +kernel
theorem dX12_together_43 : decode cX12_together 43 = .ok (.iload_n 3, 1) := by decide +kernel
theorem dX12_together_44 : decode cX12_together 44 = .ok (.invokevirtual 356, 3) := by decide +kernel
theorem dX12_together_47 : decode cX12_together 47 = .ok (.iastore, 1) := by decide +kernel
theorem dX12_together_48 : decode cX12_together 48 = .ok (.iinc 3 1, 3) := by decide +kernel
theorem dX12_together_51 : decode cX12_together 51 = .ok (.goto (-24), 3) := by decide +kernel
theorem dX12_together_54 : decode cX12_together 54 = .ok (.iconst 0, 1) := by decide +kernel
theorem dX12_together_55 : decode cX12_together 55 = .ok (.istore_n 3, 1) := by decide +kernel
theorem dX12_together_56 : decode cX12_together 56 = .ok (.iload_n 3, 1) := by decide +kernel
theorem dX12_together_57 : decode cX12_together 57 = .ok (.aload_n 0, 1) := by decide +kernel
theorem dX12_together_58 : decode cX12_together 58 = .ok (.getfield 171, 3) := by decide +kernel
theorem dX12_together_61 : decode cX12_together 61 = .ok (.if_icmp .ge 26, 3) := by decide +kernel
theorem dX12_together_64 : decode cX12_together 64 = .ok (.aload_n 0, 1) := by decide +kernel
theorem dX12_together_65 : decode cX12_together 65 = .ok (.getfield 115, 3) := by decide +kernel
theorem dX12_together_68 : decode cX12_together 68 = .ok (.iload_n 3, 1) := by decide +kernel
theorem dX12_together_69 : decode cX12_together 69 = .ok (.iconst 1, 1) := by decide +kernel
theorem dX12_together_70 : decode cX12_together 70 = .ok (.iadd, 1) := by decide +kernel
theorem dX12_together_71 : decode cX12_together 71 = .ok (.aload_n 0, 1) := by decide +kernel
theorem dX12_together_72 : decode cX12_together 72 = .ok (.sipush 151, 3) := by decide +kernel
theorem dX12_together_75 : decode cX12_together 75 = .ok (.iload_n 3, 1) := by decide +kernel
theorem dX12_together_76 : decode cX12_together 76 = .ok (.iadd, 1) := by decide +kernel
theorem dX12_together_77 : decode cX12_together 77 = .ok (.invokevirtual 356, 3) := by decide +kernel
theorem dX12_together_80 : decode cX12_together 80 = .ok (.iastore, 1) := by decide +kernel
theorem dX12_together_81 : decode cX12_together 81 = .ok (.iinc 3 1, 3) := by decide +kernel
theorem dX12_together_84 : decode cX12_together 84 = .ok (.goto (-28), 3) := by decide +kernel
theorem dX12_together_87 : decode cX12_together 87 = .ok (.iconst 0, 1) := by decide +kernel
theorem dX12_together_88 : decode cX12_together 88 = .ok (.istore_n 3, 1) := by decide +kernel
theorem dX12_together_89 : decode cX12_together 89 = .ok (.iload_n 3, 1) := by decide +kernel
theorem dX12_together_90 : decode cX12_together 90 = .ok (.aload_n 0, 1) := by decide +kernel
theorem dX12_together_91 : decode cX12_together 91 = .ok (.getfield 164, 3) := by decide +kernel
theorem dX12_together_94 : decode cX12_together 94 = .ok (.if_icmp .gt 238, 3) := by decide +kernel
theorem dX12_together_97 : decode cX12_together 97 = .ok (.iconst 0, 1) := by decide +kernel
theorem dX12_together_98 : decode cX12_together 98 = .ok (.istore 4, 2) := by decide +kernel
theorem dX12_together_100 : decode cX12_together 100 = .ok (.iload 4, 2) := by decide +kernel
theorem dX12_together_102 : decode cX12_together 102 = .ok (.aload_n 0, 1) := by decide +kernel
theorem dX12_together_103 : decode cX12_together 103 = .ok (.getfield 171, 3) := by decide +kernel
theorem dX12_together_106 : decode cX12_together 106 = .ok (.if_icmp .gt 220, 3) := by decide +kernel
theorem dX12_together_109 : decode cX12_together 109 = .ok (.iload_n 3, 1) := by decide +kernel
theorem dX12_together_110 : decode cX12_together 110 = .ok (.ifCond .ne 12, 3) := by decide +kernel
theorem dX12_together_113 : decode cX12_together 113 = .ok (.iload 4, 2) := by decide +kernel
theorem dX12_together_115 : decode cX12_together 115 = .ok (.ifCond .ne 7, 3) := by decide +kernel
theorem dX12_together_118 : decode cX12_together 118 = .ok (.iconst 0, 1) := by decide +kernel
theorem dX12_together_119 : decode cX12_together 119 = .ok (.goto 6, 3) := by decide +kernel
theorem dX12_together_122 : decode cX12_together 122 = .ok (.ldc_w 417, 3) := by decide +kernel
theorem dX12_together_125 : decode cX12_together 125 = .ok (.istore 5, 2) := by decide +kernel
theorem dX12_together_127 : decode cX12_together 127 = .ok (.aload_n 0, 1) := by decide +kernel
theorem dX12_together_128 : decode cX12_together 128 = .ok (.iload_n 3, 1) := by decide +kernel
theorem dX12_together_129 : decode cX12_together 129 = .ok (.iconst 1, 1) := by decide +kernel
theorem dX12_together_130 : decode cX12_together 130 = .ok (.isub, 1) := by decide +kernel
theorem dX12_together_131 : decode cX12_together 131 = .ok (.iload 4, 2) := by decide +kernel
theorem dX12_together_133 : decode cX12_together 133 = .ok (.iload_n 3, 1) := by decide +kernel
theorem dX12_together_134 : decode cX12_together 134 = .ok (.ifCond .le 12, 3) := by decide +kernel
theorem dX12_together_137 : decode cX12_together 137 = .ok (.aload_n 0, 1) := by decide +kernel
theorem dX12_together_138 : decode cX12_together 138 = .ok (.getfield 112, 3) := by decide +kernel
theorem dX12_together_141 : decode cX12_together 141 = .ok (.iload_n 3, 1) := by decide +kernel
theorem dX12_together_142 : decode cX12_together 142 = .ok (.iaload, 1) := by decide +kernel
theorem dX12_together_143 : decode cX12_together 143 = .ok (.goto 4, 3) := by decide +kernel
theorem dX12_together_146 : decode cX12_together 146 = .ok (.iconst 0, 1) := by decide +kernel
theorem dX12_together_147 : decode cX12_together 147 = .ok (.invokevirtual 418, 3) := by decide +kernel
theorem dX12_together_150 : decode cX12_together 150 = .ok (.istore 6, 2) := by decide +kernel
theorem dX12_together_152 : decode cX12_together 152 = .ok (.aload_n 0, 1) := by decide +kernel
theorem dX12_together_153 : decode cX12_together 153 = .ok (.iload_n 3, 1) := by decide +kernel
theorem dX12_together_154 : decode cX12_together 154 = .ok (.iload 4, 2) := by decide +kernel
theorem dX12_together_156 : decode cX12_together 156 = .ok (.iconst 1, 1) := by decide +kernel
theorem dX12_together_157 : decode cX12_together 157 = .ok (.isub, 1) := by decide +kernel
theorem dX12_together_158 : decode cX12_together 158 = .ok (.iload 4, 2) := by decide +kernel
theorem dX12_together_160 : decode cX12_together 160 = .ok (.ifCond .le 13, 3) := by decide +kernel
theorem dX12_together_163 : decode cX12_together 163 = .ok (.aload_n 0, 1) := by decide +kernel
theorem dX12_together_164 : decode cX12_together 164 = .ok (.getfield 115, 3) := by decide +kernel
theorem dX12_together_167 : decode cX12_together 167 = .ok (.iload 4, 2) := by decide +kernel
theorem dX12_together_169 : decode cX12_together 169 = .ok (.iaload, 1) := by decide +kernel
theorem dX12_together_170 : decode cX12_together 170 = .ok (.goto 4, 3) := by decide +kernel
theorem dX12_together_173 : decode cX12_together 173 = .ok (.iconst 0, 1) := by decide +kernel
theorem dX12_together_174 : decode cX12_together 174 = .ok (.invokevirtual 418, 3) := by decide +kernel
theorem dX12_together_177 : decode cX12_together 177 = .ok (.istore 7, 2) := by decide +kernel
theorem dX12_together_179 : decode cX12_together 179 = .ok (.iload_n 3, 1) := by decide +kernel
theorem dX12_together_180 : decode cX12_together 180 = .ok (.ifCond .le 54, 3) := by decide +kernel
theorem dX12_together_183 : decode cX12_together 183 = .ok (.iload 4, 2) := by decide +kernel
theorem dX12_together_185 : decode cX12_together 185 = .ok (.ifCond .le 49, 3) := by decide +kernel
theorem dX12_together_188 : decode cX12_together 188 = .ok (.aload_n 0, 1) := by decide +kernel
theorem dX12_together_189 : decode cX12_together 189 = .ok (.iload_n 3, 1) := by decide +kernel
theorem dX12_together_190 : decode cX12_together 190 = .ok (.iconst 1, 1) := by decide +kernel
theorem dX12_together_191 : decode cX12_together 191 = .ok (.isub, 1) := by decide +kernel
theorem dX12_together_192 : decode cX12_together 192 = .ok (.iload 4, 2) := by decide +kernel
theorem dX12_together_194 : decode cX12_together 194 = .ok (.iconst 1, 1) := by decide +kernel
theorem dX12_together_195 : decode cX12_together 195 = .ok (.isub, 1) := by decide +kernel
theorem dX12_together_196 : decode cX12_together 196 = .ok (.aload_n 0, 1) := by decide +kernel
theorem dX12_together_197 : decode cX12_together 197 = .ok (.getfield 112, 3) := by decide +kernel
theorem dX12_together_200 : decode cX12_together 200 = .ok (.iload_n 3, 1) := by decide +kernel
theorem dX12_together_201 : decode cX12_together 201 = .ok (.iaload, 1) := by decide +kernel
theorem dX12_together_202 : decode cX12_together 202 = .ok (.aload_n 0, 1) := by decide +kernel
theorem dX12_together_203 : decode cX12_together 203 = .ok (.getfield 115, 3) := by decide +kernel
theorem dX12_together_206 : decode cX12_together 206 = .ok (.iload 4, 2) := by decide +kernel
theorem dX12_together_208 : decode cX12_together 208 = .ok (.iaload, 1) := by decide +kernel
theorem dX12_together_209 : decode cX12_together 209 = .ok (.if_icmp .le 12, 3) := by decide +kernel
theorem dX12_together_212 : decode cX12_together 212 = .ok (.aload_n 0, 1) := by decide +kernel
theorem dX12_together_213 : decode cX12_together 213 = .ok (.getfield 112, 3) := by decide +kernel
theorem dX12_together_216 : decode cX12_together 216 = .ok (.iload_n 3, 1) := by decide +kernel
theorem dX12_together_217 : decode cX12_together 217 = .ok (.iaload, 1) := by decide +kernel
theorem dX12_together_218 : decode cX12_together 218 = .ok (.goto 10, 3) := by decide +kernel
theorem dX12_together_221 : decode cX12_together 221 = .ok (.aload_n 0, 1) := by decide +kernel
theorem dX12_together_222 : decode cX12_together 222 = .ok (.getfield 115, 3) := by decide +kernel
theorem dX12_together_225 : decode cX12_together 225 = .ok (.iload 4, 2) := by decide +kernel
theorem dX12_together_227 : decode cX12_together 227 = .ok (.iaload, 1) := by decide +kernel
theorem dX12_together_228 : decode cX12_together 228 = .ok (.invokevirtual 418, 3) := by decide +kernel
theorem dX12_together_231 : decode cX12_together 231 = .ok (.goto 6, 3) := by decide +kernel
theorem dX12_together_234 : decode cX12_together 234 = .ok (.ldc_w 417, 3) := by decide +kernel
theorem dX12_together_237 : decode cX12_together 237 = .ok (.istore 8, 2) := by decide +kernel
theorem dX12_together_239 : decode cX12_together 239 = .ok (.iload 6, 2) := by decide +kernel
theorem dX12_together_241 : decode cX12_together 241 = .ok (.iload 5, 2) := by decide +kernel
theorem dX12_together_243 : decode cX12_together 243 = .ok (.if_icmp .ge 8, 3) := by decide +kernel
theorem dX12_together_246 : decode cX12_together 246 = .ok (.iload 6, 2) := by decide +kernel
theorem dX12_together_248 : decode cX12_together 248 = .ok (.goto 5, 3) := by decide +kernel
theorem dX12_together_251 : decode cX12_together 251 = .ok (.iload 5, 2) := by decide +kernel
theorem dX12_together_253 : decode cX12_together 253 = .ok (.istore 5, 2) := by decide +kernel
theorem dX12_together_255 : decode cX12_together 255 = .ok (.iload 7, 2) := by decide +kernel
theorem dX12_together_257 : decode cX12_together 257 = .ok (.iload 5, 2) := by decide +kernel
theorem dX12_together_259 : decode cX12_together 259 = .ok (.if_icmp .ge 8, 3) := by decide +kernel
theorem dX12_together_262 : decode cX12_together 262 = .ok (.iload 7, 2) := by decide +kernel
theorem dX12_together_264 : decode cX12_together 264 = .ok (.goto 5, 3) := by decide +kernel
theorem dX12_together_267 : decode cX12_together 267 = .ok (.iload 5, 2) := by decide +kernel
theorem dX12_together_269 : decode cX12_together 269 = .ok (.istore 5, 2) := by decide +kernel
theorem dX12_together_271 : decode cX12_together 271 = .ok (.iload 8, 2) := by decide +kernel
theorem dX12_together_273 : decode cX12_together 273 = .ok (.iload 5, 2) := by decide +kernel
theorem dX12_together_275 : decode cX12_together 275 = .ok (.if_icmp .ge 8, 3) := by decide +kernel
theorem dX12_together_278 : decode cX12_together 278 = .ok (.iload 8, 2) := by decide +kernel
theorem dX12_together_280 : decode cX12_together 280 = .ok (.goto 5, 3) := by decide +kernel
theorem dX12_together_283 : decode cX12_together 283 = .ok (.iload 5, 2) := by decide +kernel
theorem dX12_together_285 : decode cX12_together 285 = .ok (.istore 5, 2) := by decide +kernel
theorem dX12_together_287 : decode cX12_together 287 = .ok (.aload_n 0, 1) := by decide +kernel
theorem dX12_together_288 : decode cX12_together 288 = .ok (.getfield 109, 3) := by decide +kernel
theorem dX12_together_291 : decode cX12_together 291 = .ok (.sipush 151, 3) := by decide +kernel
theorem dX12_together_294 : decode cX12_together 294 = .ok (.iload_n 3, 1) := by decide +kernel
theorem dX12_together_295 : decode cX12_together 295 = .ok (.imul, 1) := by decide +kernel
theorem dX12_together_296 : decode cX12_together 296 = .ok (.iload 4, 2) := by decide +kernel
theorem dX12_together_298 : decode cX12_together 298 = .ok (.iadd, 1) := by decide +kernel
theorem dX12_together_299 : decode cX12_together 299 = .ok (.aload_n 0, 1) := by decide +kernel
theorem dX12_together_300 : decode cX12_together 300 = .ok (.iload_n 1, 1) := by decide +kernel
theorem dX12_together_301 : decode cX12_together 301 = .ok (.iload_n 2, 1) := by decide +kernel
theorem dX12_together_302 : decode cX12_together 302 = .ok (.iload_n 3, 1) := by decide +kernel
theorem dX12_together_303 : decode cX12_together 303 = .ok (.iload 4, 2) := by decide +kernel
theorem dX12_together_305 : decode cX12_together 305 = .ok (.invokevirtual 414, 3) := by decide +kernel
theorem dX12_together_308 : decode cX12_together 308 = .ok (.ifCond .eq 8, 3) := by decide +kernel
theorem dX12_together_311 : decode cX12_together 311 = .ok (.iload 5, 2) := by decide +kernel
theorem dX12_together_313 : decode cX12_together 313 = .ok (.goto 6, 3) := by decide +kernel
theorem dX12_together_316 : decode cX12_together 316 = .ok (.ldc_w 417, 3) := by decide +kernel
theorem dX12_together_319 : decode cX12_together 319 = .ok (.iastore, 1) := by decide +kernel
theorem dX12_together_320 : decode cX12_together 320 = .ok (.iinc 4 1, 3) := by decide +kernel
theorem dX12_together_323 : decode cX12_together 323 = .ok (.goto (-223), 3) := by decide +kernel
theorem dX12_together_326 : decode cX12_together 326 = .ok (.iinc 3 1, 3) := by decide +kernel
theorem dX12_together_329 : decode cX12_together 329 = .ok (.goto (-240), 3) := by decide +kernel
theorem dX12_together_332 : decode cX12_together 332 = .ok (.aload_n 0, 1) := by decide +kernel
theorem dX12_together_333 : decode cX12_together 333 = .ok (.getfield 109, 3) := by decide +kernel
theorem dX12_together_336 : decode cX12_together 336 = .ok (.sipush 151, 3) := by decide +kernel
theorem dX12_together_339 : decode cX12_together 339 = .ok (.aload_n 0, 1) := by decide +kernel
theorem dX12_together_340 : decode cX12_together 340 = .ok (.getfield 164, 3) := by decide +kernel
theorem dX12_together_343 : decode cX12_together 343 = .ok (.imul, 1) := by decide +kernel
theorem dX12_together_344 : decode cX12_together 344 = .ok (.aload_n 0, 1) := by decide +kernel
theorem dX12_together_345 : decode cX12_together 345 = .ok (.getfield 171, 3) := by decide +kernel
theorem dX12_together_348 : decode cX12_together 348 = .ok (.iadd, 1) := by decide +kernel
theorem dX12_together_349 : decode cX12_together 349 = .ok (.iaload, 1) := by decide +kernel
theorem dX12_together_350 : decode cX12_together 350 = .ok (.istore_n 3, 1) := by decide +kernel
theorem dX12_together_351 : decode cX12_together 351 = .ok (.iload_n 3, 1) := by decide +kernel
theorem dX12_together_352 : decode cX12_together 352 = .ok (.ldc_w 417, 3) := by decide +kernel
theorem dX12_together_355 : decode cX12_together 355 = .ok (.if_icmp .lt 8, 3) := by decide +kernel
theorem dX12_together_358 : decode cX12_together 358 = .ok (.bipush (-2), 2) := by decide +kernel
theorem dX12_together_360 : decode cX12_together 360 = .ok (.goto 4, 3) := by decide +kernel
theorem dX12_together_363 : decode cX12_together 363 = .ok (.iload_n 3, 1) := by decide +kernel
theorem dX12_together_364 : decode cX12_together 364 = .ok (.ireturn, 1) := by decide +kernel
theorem dX12_layHeights_0 : decode cX12_layHeights 0 = .ok (.iconst 0, 1) := by decide +kernel
theorem dX12_layHeights_1 : decode cX12_layHeights 1 = .ok (.istore 5, 2) := by decide +kernel
theorem dX12_layHeights_3 : decode cX12_layHeights 3 = .ok (.iload_n 1, 1) := by decide +kernel
theorem dX12_layHeights_4 : decode cX12_layHeights 4 = .ok (.iconst 1, 1) := by decide +kernel
theorem dX12_layHeights_5 : decode cX12_layHeights 5 = .ok (.iadd, 1) := by decide +kernel
theorem dX12_layHeights_6 : decode cX12_layHeights 6 = .ok (.istore 6, 2) := by decide +kernel
theorem dX12_layHeights_8 : decode cX12_layHeights 8 = .ok (.iload 6, 2) := by decide +kernel
theorem dX12_layHeights_10 : decode cX12_layHeights 10 = .ok (.iload_n 1, 1) := by decide +kernel
theorem dX12_layHeights_11 : decode cX12_layHeights 11 = .ok (.iload_n 2, 1) := by decide +kernel
theorem dX12_layHeights_12 : decode cX12_layHeights 12 = .ok (.iadd, 1) := by decide +kernel
theorem dX12_layHeights_13 : decode cX12_layHeights 13 = .ok (.if_icmp .gt 139, 3) := by decide +kernel
theorem dX12_layHeights_16 : decode cX12_layHeights 16 = .ok (.aload_n 0, 1) := by decide +kernel
theorem dX12_layHeights_17 : decode cX12_layHeights 17 = .ok (.getfield 65, 3) := by decide +kernel
theorem dX12_layHeights_20 : decode cX12_layHeights 20 = .ok (.iload 6, 2) := by decide +kernel
theorem dX12_layHeights_22 : decode cX12_layHeights 22 = .ok (.baload, 1) := by decide +kernel
theorem dX12_layHeights_23 : decode cX12_layHeights 23 = .ok (.ifCond .ne 6, 3) := by decide +kernel
theorem dX12_layHeights_26 : decode cX12_layHeights 26 = .ok (.goto 120, 3) := by decide +kernel
theorem dX12_layHeights_29 : decode cX12_layHeights 29 = .ok (.iconst 0, 1) := by decide +kernel
theorem dX12_layHeights_30 : decode cX12_layHeights 30 = .ok (.istore 7, 2) := by decide +kernel
theorem dX12_layHeights_32 : decode cX12_layHeights 32 = .ok (.iload 7, 2) := by decide +kernel
theorem dX12_layHeights_34 : decode cX12_layHeights 34 = .ok (.iconst 2, 1) := by decide +kernel
theorem dX12_layHeights_35 : decode cX12_layHeights 35 = .ok (.if_icmp .ge 111, 3) := by decide +kernel
theorem dX12_layHeights_38 : decode cX12_layHeights 38 = .ok (.aload_n 0, 1) := by decide +kernel
theorem dX12_layHeights_39 : decode cX12_layHeights 39 = .ok (.getfield 59, 3) := by decide +kernel
theorem dX12_layHeights_42 : decode cX12_layHeights 42 = .ok (.iload 6, 2) := by decide +kernel
theorem dX12_layHeights_44 : decode cX12_layHeights 44 = .ok (.iload 7, 2) := by decide +kernel
theorem dX12_layHeights_46 : decode cX12_layHeights 46 = .ok (.isub, 1) := by decide +kernel
theorem dX12_layHeights_47 : decode cX12_layHeights 47 = .ok (.iaload, 1) := by decide +kernel
theorem dX12_layHeights_48 : decode cX12_layHeights 48 = .ok (.iload_n 3, 1) := by decide +kernel
theorem dX12_layHeights_49 : decode cX12_layHeights 49 = .ok (.if_icmp .eq 6, 3) := by decide +kernel
theorem dX12_layHeights_52 : decode cX12_layHeights 52 = .ok (.goto 88, 3) := by decide +kernel
theorem dX12_layHeights_55 : decode cX12_layHeights 55 = .ok (.iload 5, 2) := by decide +kernel
theorem dX12_layHeights_57 : decode cX12_layHeights 57 = .ok (.istore 8, 2) := by decide +kernel
theorem dX12_layHeights_59 : decode cX12_layHeights 59 = .ok (.iload 8, 2) := by decide +kernel
theorem dX12_layHeights_61 : decode cX12_layHeights 61 = .ok (.ifCond .le 56, 3) := by decide +kernel
theorem dX12_layHeights_64 : decode cX12_layHeights 64 = .ok (.aload_n 0, 1) := by decide +kernel
theorem dX12_layHeights_65 : decode cX12_layHeights 65 = .ok (.getfield 118, 3) := by decide +kernel
theorem dX12_layHeights_68 : decode cX12_layHeights 68 = .ok (.iload 4, 2) := by decide +kernel
theorem dX12_layHeights_70 : decode cX12_layHeights 70 = .ok (.iload 8, 2) := by decide +kernel
theorem dX12_layHeights_72 : decode cX12_layHeights 72 = .ok (.iadd, 1) := by decide +kernel
theorem dX12_layHeights_73 : decode cX12_layHeights 73 = .ok (.iconst 1, 1) := by decide +kernel
theorem dX12_layHeights_74 : decode cX12_layHeights 74 = .ok (.isub, 1) := by decide +kernel
theorem dX12_layHeights_75 : decode cX12_layHeights 75 = .ok (.iaload, 1) := by decide +kernel
theorem dX12_layHeights_76 : decode cX12_layHeights 76 = .ok (.aload_n 0, 1) := by decide +kernel
theorem dX12_layHeights_77 : decode cX12_layHeights 77 = .ok (.getfield 62, 3) := by decide +kernel
theorem dX12_layHeights_80 : decode cX12_layHeights 80 = .ok (.iload 6, 2) := by decide +kernel
theorem dX12_layHeights_82 : decode cX12_layHeights 82 = .ok (.iload 7, 2) := by decide +kernel
theorem dX12_layHeights_84 : decode cX12_layHeights 84 = .ok (.isub, 1) := by decide +kernel
theorem dX12_layHeights_85 : decode cX12_layHeights 85 = .ok (.iaload, 1) := by decide +kernel
theorem dX12_layHeights_86 : decode cX12_layHeights 86 = .ok (.if_icmp .le 31, 3) := by decide +kernel
theorem dX12_layHeights_89 : decode cX12_layHeights 89 = .ok (.aload_n 0, 1) := by decide +kernel
theorem dX12_layHeights_90 : decode cX12_layHeights 90 = .ok (.getfield 118, 3) := by decide +kernel
theorem dX12_layHeights_93 : decode cX12_layHeights 93 = .ok (.iload 4, 2) := by decide +kernel
theorem dX12_layHeights_95 : decode cX12_layHeights 95 = .ok (.iload 8, 2) := by decide +kernel
theorem dX12_layHeights_97 : decode cX12_layHeights 97 = .ok (.iadd, 1) := by decide +kernel
theorem dX12_layHeights_98 : decode cX12_layHeights 98 = .ok (.aload_n 0, 1) := by decide +kernel
theorem dX12_layHeights_99 : decode cX12_layHeights 99 = .ok (.getfield 118, 3) := by decide +kernel
theorem dX12_layHeights_102 : decode cX12_layHeights 102 = .ok (.iload 4, 2) := by decide +kernel
theorem dX12_layHeights_104 : decode cX12_layHeights 104 = .ok (.iload 8, 2) := by decide +kernel
theorem dX12_layHeights_106 : decode cX12_layHeights 106 = .ok (.iadd, 1) := by decide +kernel
theorem dX12_layHeights_107 : decode cX12_layHeights 107 = .ok (.iconst 1, 1) := by decide +kernel
theorem dX12_layHeights_108 : decode cX12_layHeights 108 = .ok (.isub, 1) := by decide +kernel
theorem dX12_layHeights_109 : decode cX12_layHeights 109 = .ok (.iaload, 1) := by decide +kernel
theorem dX12_layHeights_110 : decode cX12_layHeights 110 = .ok (.iastore, 1) := by decide +kernel
theorem dX12_layHeights_111 : decode cX12_layHeights 111 = .ok (.iinc 8 (-1), 3) := by decide +kernel
theorem dX12_layHeights_114 : decode cX12_layHeights 114 = .ok (.goto (-55), 3) := by decide +kernel
theorem dX12_layHeights_117 : decode cX12_layHeights 117 = .ok (.aload_n 0, 1) := by decide +kernel
theorem dX12_layHeights_118 : decode cX12_layHeights 118 = .ok (.getfield 118, 3) := by decide +kernel
theorem dX12_layHeights_121 : decode cX12_layHeights 121 = .ok (.iload 4, 2) := by decide +kernel
theorem dX12_layHeights_123 : decode cX12_layHeights 123 = .ok (.iload 8, 2) := by decide +kernel
theorem dX12_layHeights_125 : decode cX12_layHeights 125 = .ok (.iadd, 1) := by decide +kernel
theorem dX12_layHeights_126 : decode cX12_layHeights 126 = .ok (.aload_n 0, 1) := by decide +kernel
theorem dX12_layHeights_127 : decode cX12_layHeights 127 = .ok (.getfield 62, 3) := by decide +kernel
theorem dX12_layHeights_130 : decode cX12_layHeights 130 = .ok (.iload 6, 2) := by decide +kernel
theorem dX12_layHeights_132 : decode cX12_layHeights 132 = .ok (.iload 7, 2) := by decide +kernel
theorem dX12_layHeights_134 : decode cX12_layHeights 134 = .ok (.isub, 1) := by decide +kernel
theorem dX12_layHeights_135 : decode cX12_layHeights 135 = .ok (.iaload, 1) := by decide +kernel
theorem dX12_layHeights_136 : decode cX12_layHeights 136 = .ok (.iastore, 1) := by decide +kernel
theorem dX12_layHeights_137 : decode cX12_layHeights 137 = .ok (.iinc 5 1, 3) := by decide +kernel
theorem dX12_layHeights_140 : decode cX12_layHeights 140 = .ok (.iinc 7 1, 3) := by decide +kernel
theorem dX12_layHeights_143 : decode cX12_layHeights 143 = .ok (.goto (-111), 3) := by decide +kernel
theorem dX12_layHeights_146 : decode cX12_layHeights 146 = .ok (.iinc 6 1, 3) := by decide +kernel
theorem dX12_layHeights_149 : decode cX12_layHeights 149 = .ok (.goto (-141), 3) := by decide +kernel
theorem dX12_layHeights_152 : decode cX12_layHeights 152 = .ok (.iload 5, 2) := by decide +kernel
theorem dX12_layHeights_154 : decode cX12_layHeights 154 = .ok (.ireturn, 1) := by decide +kernel
theorem dX12_joint_0 : decode cX12_joint 0 = .ok (.aload_n 0, 1) := by decide +kernel
theorem dX12_joint_1 : decode cX12_joint 1 = .ok (.iconst 0, 1) := by decide +kernel
theorem dX12_joint_2 : decode cX12_joint 2 = .ok (.putfield 127, 3) := by decide +kernel
theorem dX12_joint_5 : decode cX12_joint 5 = .ok (.aload_n 0, 1) := by decide +kernel
theorem dX12_joint_6 : decode cX12_joint 6 = .ok (.iload_n 1, 1) := by decide +kernel
theorem dX12_joint_7 : decode cX12_joint 7 = .ok (.invokevirtual 411, 3) := by decide +kernel
theorem dX12_joint_10 : decode cX12_joint 10 = .ok (.ifCond .eq 12, 3) := by decide +kernel
theorem dX12_joint_13 : decode cX12_joint 13 = .ok (.iload_n 3, 1) := by decide +kernel
theorem dX12_joint_14 : decode cX12_joint 14 = .ok (.iconst 0, 1) := by decide +kernel
theorem dX12_joint_15 : decode cX12_joint 15 = .ok (.iconst 3, 1) := by decide +kernel
theorem dX12_joint_16 : decode cX12_joint 16 = .ok (.invokestatic 160, 3) := by decide +kernel
theorem dX12_joint_19 : decode cX12_joint 19 = .ok (.ifCond .ne 5, 3) := by decide +kernel
theorem dX12_joint_22 : decode cX12_joint 22 = .ok (.iconst (-1), 1) := by decide +kernel
theorem dX12_joint_23 : decode cX12_joint 23 = .ok (.ireturn, 1) := by decide +kernel
theorem dX12_joint_24 : decode cX12_joint 24 = .ok (.aload_n 0, 1) := by decide +kernel
theorem dX12_joint_25 : decode cX12_joint 25 = .ok (.iconst 0, 1) := by decide +kernel
theorem dX12_joint_26 : decode cX12_joint 26 = .ok (.aload_n 0, 1) := by decide +kernel
theorem dX12_joint_27 : decode cX12_joint 27 = .ok (.getfield 164, 3) := by decide +kernel
theorem dX12_joint_30 : decode cX12_joint 30 = .ok (.iload_n 2, 1) := by decide +kernel
theorem dX12_joint_31 : decode cX12_joint 31 = .ok (.iconst 0, 1) := by decide +kernel
theorem dX12_joint_32 : decode cX12_joint 32 = .ok (.invokevirtual 421, 3) := by decide +kernel
theorem dX12_joint_35 : decode cX12_joint 35 = .ok (.istore 4, 2) := by decide +kernel
theorem dX12_joint_37 : decode cX12_joint 37 = .ok (.iload_n 2, 1) := by decide +kernel
theorem dX12_joint_38 : decode cX12_joint 38 = .ok (.iload_n 1, 1) := by decide +kernel
theorem dX12_joint_39 : decode cX12_joint 39 = .ok (.if_icmp .ge 7, 3) := by decide +kernel
theorem dX12_joint_42 : decode cX12_joint 42 = .ok (.iconst 0, 1) := by decide +kernel
theorem dX12_joint_43 : decode cX12_joint 43 = .ok (.goto 20, 3) := by decide +kernel
theorem dX12_joint_46 : decode cX12_joint 46 = .ok (.aload_n 0, 1) := by decide +kernel
theorem dX12_joint_47 : decode cX12_joint 47 = .ok (.sipush 151, 3) := by decide +kernel
theorem dX12_joint_50 : decode cX12_joint 50 = .ok (.aload_n 0, 1) := by decide +kernel
theorem dX12_joint_51 : decode cX12_joint 51 = .ok (.getfield 171, 3) := by decide +kernel
theorem dX12_joint_54 : decode cX12_joint 54 = .ok (.iload_n 2, 1) := by decide +kernel
theorem dX12_joint_55 : decode cX12_joint 55 = .ok (.iload_n 1, 1) := by decide +kernel
theorem dX12_joint_56 : decode cX12_joint 56 = .ok (.isub, 1) := by decide +kernel
theorem dX12_joint_57 : decode cX12_joint 57 = .ok (.sipush 300, 3) := by decide +kernel
theorem dX12_joint_60 : decode cX12_joint 60 = .ok (.invokevirtual 421, 3) := by decide +kernel
theorem dX12_joint_63 : decode cX12_joint 63 = .ok (.istore 5, 2) := by decide +kernel
theorem dX12_joint_65 : decode cX12_joint 65 = .ok (.iconst 0, 1) := by decide +kernel
theorem dX12_joint_66 : decode cX12_joint 66 = .ok (.istore 6, 2) := by decide +kernel
theorem dX12_joint_68 : decode cX12_joint 68 = .ok (.iconst 0, 1) := by decide +kernel
theorem dX12_joint_69 : decode cX12_joint 69 = .ok (.istore 7, 2) := by decide +kernel
theorem dX12_joint_71 : decode cX12_joint 71 = .ok (.iload 4, 2) := by decide +kernel
theorem dX12_joint_73 : decode cX12_joint 73 = .ok (.iload 5, 2) := by decide +kernel
theorem dX12_joint_75 : decode cX12_joint 75 = .ok (.if_icmp .ge 8, 3) := by decide +kernel
theorem dX12_joint_78 : decode cX12_joint 78 = .ok (.iload 4, 2) := by decide +kernel
theorem dX12_joint_80 : decode cX12_joint 80 = .ok (.goto 5, 3) := by decide +kernel
theorem dX12_joint_83 : decode cX12_joint 83 = .ok (.iload 5, 2) := by decide +kernel
theorem dX12_joint_85 : decode cX12_joint 85 = .ok (.istore 8, 2) := by decide +kernel
theorem dX12_joint_87 : decode cX12_joint 87 = .ok (.iconst 0, 1) := by decide +kernel
theorem dX12_joint_88 : decode cX12_joint 88 = .ok (.istore 9, 2) := by decide +kernel
theorem dX12_joint_90 : decode cX12_joint 90 = .ok (.iload 9, 2) := by decide +kernel
theorem dX12_joint_92 : decode cX12_joint 92 = .ok (.iload 8, 2) := by decide +kernel
theorem dX12_joint_94 : decode cX12_joint 94 = .ok (.if_icmp .ge 56, 3) := by decide +kernel
theorem dX12_joint_97 : decode cX12_joint 97 = .ok (.aload_n 0, 1) := by decide +kernel
theorem dX12_joint_98 : decode cX12_joint 98 = .ok (.getfield 118, 3) := by decide +kernel
theorem dX12_joint_101 : decode cX12_joint 101 = .ok (.iload 9, 2) := by decide +kernel
theorem dX12_joint_103 : decode cX12_joint 103 = .ok (.iaload, 1) := by decide +kernel
theorem dX12_joint_104 : decode cX12_joint 104 = .ok (.aload_n 0, 1) := by decide +kernel
theorem dX12_joint_105 : decode cX12_joint 105 = .ok (.getfield 118, 3) := by decide +kernel
theorem dX12_joint_108 : decode cX12_joint 108 = .ok (.sipush 300, 3) := by decide +kernel
theorem dX12_joint_111 : decode cX12_joint 111 = .ok (.iload 9, 2) := by decide +kernel
theorem dX12_joint_113 : decode cX12_joint 113 = .ok (.iadd, 1) := by decide +kernel
theorem dX12_joint_114 : decode cX12_joint 114 = .ok (.iaload, 1) := by decide +kernel
theorem dX12_joint_115 : decode cX12_joint 115 = .ok (.isub, 1) := by decide +kernel
theorem dX12_joint_116 : decode cX12_joint 116 = .ok (.invokestatic 198, 3) := by decide +kernel
theorem dX12_joint_119 : decode cX12_joint 119 = .ok (.istore 10, 2) := by decide +kernel
theorem dX12_joint_121 : decode cX12_joint 121 = .ok (.iload 6, 2) := by decide +kernel
theorem dX12_joint_123 : decode cX12_joint 123 = .ok (.iload 10, 2) := by decide +kernel
theorem dX12_joint_125 : decode cX12_joint 125 = .ok (.iadd, 1) := by decide +kernel
theorem dX12_joint_126 : decode cX12_joint 126 = .ok (.istore 6, 2) := by decide +kernel
theorem dX12_joint_128 : decode cX12_joint 128 = .ok (.iload 10, 2) := by decide +kernel
theorem dX12_joint_130 : decode cX12_joint 130 = .ok (.iload 7, 2) := by decide +kernel
theorem dX12_joint_132 : decode cX12_joint 132 = .ok (.if_icmp .le 8, 3) := by decide +kernel
theorem dX12_joint_135 : decode cX12_joint 135 = .ok (.iload 10, 2) := by decide +kernel
theorem dX12_joint_137 : decode cX12_joint 137 = .ok (.goto 5, 3) := by decide +kernel
theorem dX12_joint_140 : decode cX12_joint 140 = .ok (.iload 7, 2) := by decide +kernel
theorem dX12_joint_142 : decode cX12_joint 142 = .ok (.istore 7, 2) := by decide +kernel
theorem dX12_joint_144 : decode cX12_joint 144 = .ok (.iinc 9 1, 3) := by decide +kernel
theorem dX12_joint_147 : decode cX12_joint 147 = .ok (.goto (-57), 3) := by decide +kernel
theorem dX12_joint_150 : decode cX12_joint 150 = .ok (.iload_n 3, 1) := by decide +kernel
theorem dX12_joint_151 : decode cX12_joint 151 = .ok (.ifCond .ne 8, 3) := by decide +kernel
theorem dX12_joint_154 : decode cX12_joint 154 = .ok (.iload 8, 2) := by decide +kernel
theorem dX12_joint_156 : decode cX12_joint 156 = .ok (.goto 33, 3) := by decide +kernel
theorem dX12_joint_159 : decode cX12_joint 159 = .ok (.iload_n 3, 1) := by decide +kernel
theorem dX12_joint_160 : decode cX12_joint 160 = .ok (.iconst 1, 1) := by decide +kernel
theorem dX12_joint_161 : decode cX12_joint 161 = .ok (.if_icmp .ne 8, 3) := by decide +kernel
theorem dX12_joint_164 : decode cX12_joint 164 = .ok (.iload 6, 2) := by decide +kernel
theorem dX12_joint_166 : decode cX12_joint 166 = .ok (.goto 23, 3) := by decide +kernel
theorem dX12_joint_169 : decode cX12_joint 169 = .ok (.iload_n 3, 1) := by decide +kernel
theorem dX12_joint_170 : decode cX12_joint 170 = .ok (.iconst 2, 1) := by decide +kernel
theorem dX12_joint_171 : decode cX12_joint 171 = .ok (.if_icmp .ne 8, 3) := by decide +kernel
theorem dX12_joint_174 : decode cX12_joint 174 = .ok (.iload 7, 2) := by decide +kernel
theorem dX12_joint_176 : decode cX12_joint 176 = .ok (.goto 13, 3) := by decide +kernel
theorem dX12_joint_179 : decode cX12_joint 179 = .ok (.iload 4, 2) := by decide +kernel
theorem dX12_joint_181 : decode cX12_joint 181 = .ok (.iload 5, 2) := by decide +kernel
theorem dX12_joint_183 : decode cX12_joint 183 = .ok (.iadd, 1) := by decide +kernel
theorem dX12_joint_184 : decode cX12_joint 184 = .ok (.iconst 2, 1) := by decide +kernel
theorem dX12_joint_185 : decode cX12_joint 185 = .ok (.iload 8, 2) := by decide +kernel
theorem dX12_joint_187 : decode cX12_joint 187 = .ok (.imul, 1) := by decide +kernel
theorem dX12_joint_188 : decode cX12_joint 188 = .ok (.isub, 1) := by decide +kernel
theorem dX12_joint_189 : decode cX12_joint 189 = .ok (.ireturn, 1) := by decide +kernel
theorem dX12_mark_0 : decode cX12_mark 0 = .ok (.aload_n 0, 1) := by decide +kernel
theorem dX12_mark_1 : decode cX12_mark 1 = .ok (.iconst 0, 1) := by decide +kernel
theorem dX12_mark_2 : decode cX12_mark 2 = .ok (.putfield 127, 3) := by decide +kernel
theorem dX12_mark_5 : decode cX12_mark 5 = .ok (.aload_n 0, 1) := by decide +kernel
theorem dX12_mark_6 : decode cX12_mark 6 = .ok (.getfield 424, 3) := by decide +kernel
theorem dX12_mark_9 : decode cX12_mark 9 = .ok (.bipush 20, 2) := by decide +kernel
theorem dX12_mark_11 : decode cX12_mark 11 = .ok (.if_icmp .ne 5, 3) := by decide +kernel
theorem dX12_mark_14 : decode cX12_mark 14 = .ok (.iconst (-1), 1) := by decide +kernel
theorem dX12_mark_15 : decode cX12_mark 15 = .ok (.ireturn, 1) := by decide +kernel
theorem dX12_mark_16 : decode cX12_mark 16 = .ok (.aload_n 0, 1) := by decide +kernel
theorem dX12_mark_17 : decode cX12_mark 17 = .ok (.getfield 121, 3) := by decide +kernel
theorem dX12_mark_20 : decode cX12_mark 20 = .ok (.iconst 4, 1) := by decide +kernel
theorem dX12_mark_21 : decode cX12_mark 21 = .ok (.aload_n 0, 1) := by decide +kernel
theorem dX12_mark_22 : decode cX12_mark 22 = .ok (.getfield 424, 3) := by decide +kernel
theorem dX12_mark_25 : decode cX12_mark 25 = .ok (.imul, 1) := by decide +kernel
theorem dX12_mark_26 : decode cX12_mark 26 = .ok (.iload_n 1, 1) := by decide +kernel
theorem dX12_mark_27 : decode cX12_mark 27 = .ok (.iastore, 1) := by decide +kernel
theorem dX12_mark_28 : decode cX12_mark 28 = .ok (.aload_n 0, 1) := by decide +kernel
theorem dX12_mark_29 : decode cX12_mark 29 = .ok (.getfield 121, 3) := by decide +kernel
theorem dX12_mark_32 : decode cX12_mark 32 = .ok (.iconst 4, 1) := by decide +kernel
theorem dX12_mark_33 : decode cX12_mark 33 = .ok (.aload_n 0, 1) := by decide +kernel
theorem dX12_mark_34 : decode cX12_mark 34 = .ok (.getfield 424, 3) := by decide +kernel
theorem dX12_mark_37 : decode cX12_mark 37 = .ok (.imul, 1) := by decide +kernel
theorem dX12_mark_38 : decode cX12_mark 38 = .ok (.iconst 1, 1) := by decide +kernel
theorem dX12_mark_39 : decode cX12_mark 39 = .ok (.iadd, 1) := by decide +kernel
theorem dX12_mark_40 : decode cX12_mark 40 = .ok (.iload_n 2, 1) := by decide +kernel
theorem dX12_mark_41 : decode cX12_mark 41 = .ok (.iastore, 1) := by decide +kernel
theorem dX12_mark_42 : decode cX12_mark 42 = .ok (.aload_n 0, 1) := by decide +kernel
theorem dX12_mark_43 : decode cX12_mark 43 = .ok (.getfield 121, 3) := by decide +kernel
theorem dX12_mark_46 : decode cX12_mark 46 = .ok (.iconst 4, 1) := by decide +kernel
theorem dX12_mark_47 : decode cX12_mark 47 = .ok (.aload_n 0, 1) := by decide +kernel
theorem dX12_mark_48 : decode cX12_mark 48 = .ok (.getfield 424, 3) := by decide +kernel
theorem dX12_mark_51 : decode cX12_mark 51 = .ok (.imul, 1) := by decide +kernel
theorem dX12_mark_52 : decode cX12_mark 52 = .ok (.iconst 2, 1) := by decide +kernel
theorem dX12_mark_53 : decode cX12_mark 53 = .ok (.iadd, 1) := by decide +kernel
theorem dX12_mark_54 : decode cX12_mark 54 = .ok (.iload_n 3, 1) := by decide +kernel
theorem dX12_mark_55 : decode cX12_mark 55 = .ok (.iastore, 1) := by decide +kernel
theorem dX12_mark_56 : decode cX12_mark 56 = .ok (.aload_n 0, 1) := by decide +kernel
theorem dX12_mark_57 : decode cX12_mark 57 = .ok (.getfield 121, 3) := by decide +kernel
theorem dX12_mark_60 : decode cX12_mark 60 = .ok (.iconst 4, 1) := by decide +kernel
theorem dX12_mark_61 : decode cX12_mark 61 = .ok (.aload_n 0, 1) := by decide +kernel
theorem dX12_mark_62 : decode cX12_mark 62 = .ok (.getfield 424, 3) := by decide +kernel
theorem dX12_mark_65 : decode cX12_mark 65 = .ok (.imul, 1) := by decide +kernel
theorem dX12_mark_66 : decode cX12_mark 66 = .ok (.iconst 3, 1) := by decide +kernel
theorem dX12_mark_67 : decode cX12_mark 67 = .ok (.iadd, 1) := by decide +kernel
theorem dX12_mark_68 : decode cX12_mark 68 = .ok (.iload 4, 2) := by decide +kernel
theorem dX12_mark_70 : decode cX12_mark 70 = .ok (.iastore, 1) := by decide +kernel
theorem dX12_mark_71 : decode cX12_mark 71 = .ok (.aload_n 0, 1) := by decide +kernel
theorem dX12_mark_72 : decode cX12_mark 72 = .ok (.dup, 1) := by decide +kernel
theorem dX12_mark_73 : decode cX12_mark 73 = .ok (.getfield 424, 3) := by decide +kernel
theorem dX12_mark_76 : decode cX12_mark 76 = .ok (.iconst 1, 1) := by decide +kernel
theorem dX12_mark_77 : decode cX12_mark 77 = .ok (.iadd, 1) := by decide +kernel
theorem dX12_mark_78 : decode cX12_mark 78 = .ok (.putfield 424, 3) := by decide +kernel
theorem dX12_mark_81 : decode cX12_mark 81 = .ok (.aload_n 0, 1) := by decide +kernel
theorem dX12_mark_82 : decode cX12_mark 82 = .ok (.getfield 424, 3) := by decide +kernel
theorem dX12_mark_85 : decode cX12_mark 85 = .ok (.ireturn, 1) := by decide +kernel
theorem dX12_agreeing_0 : decode cX12_agreeing 0 = .ok (.iconst 0, 1) := by decide +kernel
theorem dX12_agreeing_1 : decode cX12_agreeing 1 = .ok (.istore 4, 2) := by decide +kernel
theorem dX12_agreeing_3 : decode cX12_agreeing 3 = .ok (.iconst 0, 1) := by decide +kernel
theorem dX12_agreeing_4 : decode cX12_agreeing 4 = .ok (.istore 5, 2) := by decide +kernel
theorem dX12_agreeing_6 : decode cX12_agreeing 6 = .ok (.iload 5, 2) := by decide +kernel
theorem dX12_agreeing_8 : decode cX12_agreeing 8 = .ok (.aload_n 0, 1) := by decide +kernel
theorem dX12_agreeing_9 : decode cX12_agreeing 9 = .ok (.getfield 424, 3) := by decide +kernel
theorem dX12_agreeing_12 : decode cX12_agreeing 12 = .ok (.if_icmp .ge 111, 3) := by decide +kernel
theorem dX12_agreeing_15 : decode cX12_agreeing 15 = .ok (.aload_n 0, 1) := by decide +kernel
theorem dX12_agreeing_16 : decode cX12_agreeing 16 = .ok (.getfield 121, 3) := by decide +kernel
theorem dX12_agreeing_19 : decode cX12_agreeing 19 = .ok (.iconst 4, 1) := by decide +kernel
theorem dX12_agreeing_20 : decode cX12_agreeing 20 = .ok (.iload 5, 2) := by decide +kernel
theorem dX12_agreeing_22 : decode cX12_agreeing 22 = .ok (.imul, 1) := by decide +kernel
theorem dX12_agreeing_23 : decode cX12_agreeing 23 = .ok (.iconst 2, 1) := by decide +kernel
theorem dX12_agreeing_24 : decode cX12_agreeing 24 = .ok (.iadd, 1) := by decide +kernel
theorem dX12_agreeing_25 : decode cX12_agreeing 25 = .ok (.iaload, 1) := by decide +kernel
theorem dX12_agreeing_26 : decode cX12_agreeing 26 = .ok (.i2l, 1) := by decide +kernel
theorem dX12_agreeing_27 : decode cX12_agreeing 27 = .ok (.aload_n 0, 1) := by decide +kernel
theorem dX12_agreeing_28 : decode cX12_agreeing 28 = .ok (.getfield 121, 3) := by decide +kernel
theorem dX12_agreeing_31 : decode cX12_agreeing 31 = .ok (.iconst 4, 1) := by decide +kernel
theorem dX12_agreeing_32 : decode cX12_agreeing 32 = .ok (.iload 5, 2) := by decide +kernel
theorem dX12_agreeing_34 : decode cX12_agreeing 34 = .ok (.imul, 1) := by decide +kernel
theorem dX12_agreeing_35 : decode cX12_agreeing 35 = .ok (.iaload, 1) := by decide +kernel
theorem dX12_agreeing_36 : decode cX12_agreeing 36 = .ok (.i2l, 1) := by decide +kernel
theorem dX12_agreeing_37 : decode cX12_agreeing 37 = .ok (.lsub, 1) := by decide +kernel
theorem dX12_agreeing_38 : decode cX12_agreeing 38 = .ok (.iload_n 1, 1) := by decide +kernel
theorem dX12_agreeing_39 : decode cX12_agreeing 39 = .ok (.i2l, 1) := by decide +kernel
theorem dX12_agreeing_40 : decode cX12_agreeing 40 = .ok (.lsub, 1) := by decide +kernel
theorem dX12_agreeing_41 : decode cX12_agreeing 41 = .ok (.lstore 6, 2) := by decide +kernel
theorem dX12_agreeing_43 : decode cX12_agreeing 43 = .ok (.aload_n 0, 1) := by decide +kernel
theorem dX12_agreeing_44 : decode cX12_agreeing 44 = .ok (.getfield 121, 3) := by decide +kernel
theorem dX12_agreeing_47 : decode cX12_agreeing 47 = .ok (.iconst 4, 1) := by decide +kernel
theorem dX12_agreeing_48 : decode cX12_agreeing 48 = .ok (.iload 5, 2) := by decide +kernel
theorem dX12_agreeing_50 : decode cX12_agreeing 50 = .ok (.imul, 1) := by decide +kernel
theorem dX12_agreeing_51 : decode cX12_agreeing 51 = .ok (.iconst 3, 1) := by decide +kernel
theorem dX12_agreeing_52 : decode cX12_agreeing 52 = .ok (.iadd, 1) := by decide +kernel
theorem dX12_agreeing_53 : decode cX12_agreeing 53 = .ok (.iaload, 1) := by decide +kernel
theorem dX12_agreeing_54 : decode cX12_agreeing 54 = .ok (.i2l, 1) := by decide +kernel
theorem dX12_agreeing_55 : decode cX12_agreeing 55 = .ok (.aload_n 0, 1) := by decide +kernel
theorem dX12_agreeing_56 : decode cX12_agreeing 56 = .ok (.getfield 121, 3) := by decide +kernel
theorem dX12_agreeing_59 : decode cX12_agreeing 59 = .ok (.iconst 4, 1) := by decide +kernel
theorem dX12_agreeing_60 : decode cX12_agreeing 60 = .ok (.iload 5, 2) := by decide +kernel
theorem dX12_agreeing_62 : decode cX12_agreeing 62 = .ok (.imul, 1) := by decide +kernel
theorem dX12_agreeing_63 : decode cX12_agreeing 63 = .ok (.iconst 1, 1) := by decide +kernel
theorem dX12_agreeing_64 : decode cX12_agreeing 64 = .ok (.iadd, 1) := by decide +kernel
theorem dX12_agreeing_65 : decode cX12_agreeing 65 = .ok (.iaload, 1) := by decide +kernel
theorem dX12_agreeing_66 : decode cX12_agreeing 66 = .ok (.i2l, 1) := by decide +kernel
theorem dX12_agreeing_67 : decode cX12_agreeing 67 = .ok (.lsub, 1) := by decide +kernel
theorem dX12_agreeing_68 : decode cX12_agreeing 68 = .ok (.iload_n 2, 1) := by decide +kernel
theorem dX12_agreeing_69 : decode cX12_agreeing 69 = .ok (.i2l, 1) := by decide +kernel
theorem dX12_agreeing_70 : decode cX12_agreeing 70 = .ok (.lsub, 1) := by decide +kernel
theorem dX12_agreeing_71 : decode cX12_agreeing 71 = .ok (.lstore 8, 2) := by decide +kernel
theorem dX12_agreeing_73 : decode cX12_agreeing 73 = .ok (.iload 4, 2) := by decide +kernel
theorem dX12_agreeing_75 : decode cX12_agreeing 75 = .ok (.lload 6, 2) := by decide +kernel
theorem dX12_agreeing_77 : decode cX12_agreeing 77 = .ok (.iload_n 3, 1) := by decide +kernel
theorem dX12_agreeing_78 : decode cX12_agreeing 78 = .ok (.i2l, 1) := by decide +kernel
theorem dX12_agreeing_79 : decode cX12_agreeing 79 = .ok (.lcmp, 1) := by decide +kernel
theorem dX12_agreeing_80 : decode cX12_agreeing 80 = .ok (.ifCond .gt 33, 3) := by decide +kernel
theorem dX12_agreeing_83 : decode cX12_agreeing 83 = .ok (.lload 6, 2) := by decide +kernel
theorem dX12_agreeing_85 : decode cX12_agreeing 85 = .ok (.lneg, 1) := by decide +kernel
theorem dX12_agreeing_86 : decode cX12_agreeing 86 = .ok (.iload_n 3, 1) := by decide +kernel
theorem dX12_agreeing_87 : decode cX12_agreeing 87 = .ok (.i2l, 1) := by decide +kernel
theorem dX12_agreeing_88 : decode cX12_agreeing 88 = .ok (.lcmp, 1) := by decide +kernel
theorem dX12_agreeing_89 : decode cX12_agreeing 89 = .ok (.ifCond .gt 24, 3) := by decide +kernel
theorem dX12_agreeing_92 : decode cX12_agreeing 92 = .ok (.lload 8, 2) := by decide +kernel
theorem dX12_agreeing_94 : decode cX12_agreeing 94 = .ok (.iload_n 3, 1) := by decide +kernel
theorem dX12_agreeing_95 : decode cX12_agreeing 95 = .ok (.i2l, 1) := by decide +kernel
theorem dX12_agreeing_96 : decode cX12_agreeing 96 = .ok (.lcmp, 1) := by decide +kernel
theorem dX12_agreeing_97 : decode cX12_agreeing 97 = .ok (.ifCond .gt 16, 3) := by decide +kernel
theorem dX12_agreeing_100 : decode cX12_agreeing 100 = .ok (.lload 8, 2) := by decide +kernel
theorem dX12_agreeing_102 : decode cX12_agreeing 102 = .ok (.lneg, 1) := by decide +kernel
theorem dX12_agreeing_103 : decode cX12_agreeing 103 = .ok (.iload_n 3, 1) := by decide +kernel
theorem dX12_agreeing_104 : decode cX12_agreeing 104 = .ok (.i2l, 1) := by decide +kernel
theorem dX12_agreeing_105 : decode cX12_agreeing 105 = .ok (.lcmp, 1) := by decide +kernel
theorem dX12_agreeing_106 : decode cX12_agreeing 106 = .ok (.ifCond .gt 7, 3) := by decide +kernel
theorem dX12_agreeing_109 : decode cX12_agreeing 109 = .ok (.iconst 1, 1) := by decide +kernel
theorem dX12_agreeing_110 : decode cX12_agreeing 110 = .ok (.goto 4, 3) := by decide +kernel
theorem dX12_agreeing_113 : decode cX12_agreeing 113 = .ok (.iconst 0, 1) := by decide +kernel
theorem dX12_agreeing_114 : decode cX12_agreeing 114 = .ok (.iadd, 1) := by decide +kernel
theorem dX12_agreeing_115 : decode cX12_agreeing 115 = .ok (.istore 4, 2) := by decide +kernel
theorem dX12_agreeing_117 : decode cX12_agreeing 117 = .ok (.iinc 5 1, 3) := by decide +kernel
theorem dX12_agreeing_120 : decode cX12_agreeing 120 = .ok (.goto (-114), 3) := by decide +kernel
theorem dX12_agreeing_123 : decode cX12_agreeing 123 = .ok (.iload 4, 2) := by decide +kernel
theorem dX12_agreeing_125 : decode cX12_agreeing 125 = .ok (.ireturn, 1) := by decide +kernel
theorem dX12_offset_0 : decode cX12_offset 0 = .ok (.aload_n 0, 1) := by decide +kernel
theorem dX12_offset_1 : decode cX12_offset 1 = .ok (.iconst 0, 1) := by decide +kernel
theorem dX12_offset_2 : decode cX12_offset 2 = .ok (.putfield 127, 3) := by decide +kernel
theorem dX12_offset_5 : decode cX12_offset 5 = .ok (.iload_n 1, 1) := by decide +kernel
theorem dX12_offset_6 : decode cX12_offset 6 = .ok (.iconst 0, 1) := by decide +kernel
theorem dX12_offset_7 : decode cX12_offset 7 = .ok (.bipush 99, 2) := by decide +kernel
theorem dX12_offset_9 : decode cX12_offset 9 = .ok (.invokestatic 160, 3) := by decide +kernel
theorem dX12_offset_12 : decode cX12_offset 12 = .ok (.ifCond .eq 12, 3) := by decide +kernel
theorem dX12_offset_15 : decode cX12_offset 15 = .ok (.iload_n 2, 1) := by decide +kernel
theorem dX12_offset_16 : decode cX12_offset 16 = .ok (.iconst 0, 1) := by decide +kernel
theorem dX12_offset_17 : decode cX12_offset 17 = .ok (.iconst 2, 1) := by decide +kernel
theorem dX12_offset_18 : decode cX12_offset 18 = .ok (.invokestatic 160, 3) := by decide +kernel
theorem dX12_offset_21 : decode cX12_offset 21 = .ok (.ifCond .ne 6, 3) := by decide +kernel
theorem dX12_offset_24 : decode cX12_offset 24 = .ok (.ldc 194, 2) := by decide +kernel
theorem dX12_offset_26 : decode cX12_offset 26 = .ok (.ireturn, 1) := by decide +kernel
theorem dX12_offset_27 : decode cX12_offset 27 = .ok (.bipush (-20), 2) := by decide +kernel
theorem dX12_offset_29 : decode cX12_offset 29 = .ok (.istore_n 3, 1) := by decide +kernel
theorem dX12_offset_30 : decode cX12_offset 30 = .ok (.bipush (-20), 2) := by decide +kernel
theorem dX12_offset_32 : decode cX12_offset 32 = .ok (.istore 4, 2) := by decide +kernel
theorem dX12_offset_34 : decode cX12_offset 34 = .ok (.iconst (-1), 1) := by decide +kernel
theorem dX12_offset_35 : decode cX12_offset 35 = .ok (.istore 5, 2) := by decide +kernel
theorem dX12_offset_37 : decode cX12_offset 37 = .ok (.bipush (-20), 2) := by decide +kernel
theorem dX12_offset_39 : decode cX12_offset 39 = .ok (.istore 6, 2) := by decide +kernel
theorem dX12_offset_41 : decode cX12_offset 41 = .ok (.iload 6, 2) := by decide +kernel
theorem dX12_offset_43 : decode cX12_offset 43 = .ok (.bipush 20, 2) := by decide +kernel
theorem dX12_offset_45 : decode cX12_offset 45 = .ok (.if_icmp .gt 58, 3) := by decide +kernel
theorem dX12_offset_48 : decode cX12_offset 48 = .ok (.bipush (-20), 2) := by decide +kernel
theorem dX12_offset_50 : decode cX12_offset 50 = .ok (.istore 7, 2) := by decide +kernel
theorem dX12_offset_52 : decode cX12_offset 52 = .ok (.iload 7, 2) := by decide +kernel
theorem dX12_offset_54 : decode cX12_offset 54 = .ok (.bipush 20, 2) := by decide +kernel
theorem dX12_offset_56 : decode cX12_offset 56 = .ok (.if_icmp .gt 41, 3) := by decide +kernel
theorem dX12_offset_59 : decode cX12_offset 59 = .ok (.aload_n 0, 1) := by decide +kernel
theorem dX12_offset_60 : decode cX12_offset 60 = .ok (.iload 6, 2) := by decide +kernel
theorem dX12_offset_62 : decode cX12_offset 62 = .ok (.iload 7, 2) := by decide +kernel
theorem dX12_offset_64 : decode cX12_offset 64 = .ok (.iload_n 1, 1) := by decide +kernel
theorem dX12_offset_65 : decode cX12_offset 65 = .ok (.invokevirtual 427, 3) := by decide +kernel
theorem dX12_offset_68 : decode cX12_offset 68 = .ok (.istore 8, 2) := by decide +kernel
theorem dX12_offset_70 : decode cX12_offset 70 = .ok (.iload 8, 2) := by decide +kernel
theorem dX12_offset_72 : decode cX12_offset 72 = .ok (.iload 5, 2) := by decide +kernel
theorem dX12_offset_74 : decode cX12_offset 74 = .ok (.if_icmp .gt 6, 3) := by decide +kernel
theorem dX12_offset_77 : decode cX12_offset 77 = .ok (.goto 14, 3) := by decide +kernel
theorem dX12_offset_80 : decode cX12_offset 80 = .ok (.iload 8, 2) := by decide +kernel
theorem dX12_offset_82 : decode cX12_offset 82 = .ok (.istore 5, 2) := by decide +kernel
theorem dX12_offset_84 : decode cX12_offset 84 = .ok (.iload 6, 2) := by decide +kernel
theorem dX12_offset_86 : decode cX12_offset 86 = .ok (.istore_n 3, 1) := by decide +kernel
theorem dX12_offset_87 : decode cX12_offset 87 = .ok (.iload 7, 2) := by decide +kernel
theorem dX12_offset_89 : decode cX12_offset 89 = .ok (.istore 4, 2) := by decide +kernel
theorem dX12_offset_91 : decode cX12_offset 91 = .ok (.iinc 7 1, 3) := by decide +kernel
theorem dX12_offset_94 : decode cX12_offset 94 = .ok (.goto (-42), 3) := by decide +kernel
theorem dX12_offset_97 : decode cX12_offset 97 = .ok (.iinc 6 1, 3) := by decide +kernel
theorem dX12_offset_100 : decode cX12_offset 100 = .ok (.goto (-59), 3) := by decide +kernel
theorem dX12_offset_103 : decode cX12_offset 103 = .ok (.iload_n 2, 1) := by decide +kernel
theorem dX12_offset_104 : decode cX12_offset 104 = .ok (.ifCond .ne 7, 3) := by decide +kernel
theorem dX12_offset_107 : decode cX12_offset 107 = .ok (.iload_n 3, 1) := by decide +kernel
theorem dX12_offset_108 : decode cX12_offset 108 = .ok (.goto 15, 3) := by decide +kernel
theorem dX12_offset_111 : decode cX12_offset 111 = .ok (.iload_n 2, 1) := by decide +kernel
theorem dX12_offset_112 : decode cX12_offset 112 = .ok (.iconst 1, 1) := by decide +kernel
theorem dX12_offset_113 : decode cX12_offset 113 = .ok (.if_icmp .ne 8, 3) := by decide +kernel
theorem dX12_offset_116 : decode cX12_offset 116 = .ok (.iload 4, 2) := by decide +kernel
theorem dX12_offset_118 : decode cX12_offset 118 = .ok (.goto 5, 3) := by decide +kernel
theorem dX12_offset_121 : decode cX12_offset 121 = .ok (.iload 5, 2) := by decide +kernel
theorem dX12_offset_123 : decode cX12_offset 123 = .ok (.ireturn, 1) := by decide +kernel
theorem dX12_passes_0 : decode cX12_passes 0 = .ok (.aload_n 0, 1) := by decide +kernel
theorem dX12_passes_1 : decode cX12_passes 1 = .ok (.getfield 430, 3) := by decide +kernel
theorem dX12_passes_4 : decode cX12_passes 4 = .ok (.aload_n 0, 1) := by decide +kernel
theorem dX12_passes_5 : decode cX12_passes 5 = .ok (.getfield 164, 3) := by decide +kernel
theorem dX12_passes_8 : decode cX12_passes 8 = .ok (.if_icmp .ge 36, 3) := by decide +kernel
theorem dX12_passes_11 : decode cX12_passes 11 = .ok (.aload_n 0, 1) := by decide +kernel
theorem dX12_passes_12 : decode cX12_passes 12 = .ok (.getfield 433, 3) := by decide +kernel
theorem dX12_passes_15 : decode cX12_passes 15 = .ok (.aload_n 0, 1) := by decide +kernel
theorem dX12_passes_16 : decode cX12_passes 16 = .ok (.aload_n 0, 1) := by decide +kernel
theorem dX12_passes_17 : decode cX12_passes 17 = .ok (.getfield 430, 3) := by decide +kernel
theorem dX12_passes_20 : decode cX12_passes 20 = .ok (.invokevirtual 356, 3) := by decide +kernel
theorem dX12_passes_23 : decode cX12_passes 23 = .ok (.if_icmp .ne 21, 3) := by decide +kernel
theorem dX12_passes_26 : decode cX12_passes 26 = .ok (.aload_n 0, 1) := by decide +kernel
theorem dX12_passes_27 : decode cX12_passes 27 = .ok (.dup, 1) := by decide +kernel
theorem dX12_passes_28 : decode cX12_passes 28 = .ok (.getfield 430, 3) := by decide +kernel
theorem dX12_passes_31 : decode cX12_passes 31 = .ok (.iconst 1, 1) := by decide +kernel
theorem dX12_passes_32 : decode cX12_passes 32 = .ok (.iadd, 1) := by decide +kernel
theorem dX12_passes_33 : decode cX12_passes 33 = .ok (.putfield 430, 3) := by decide +kernel
theorem dX12_passes_36 : decode cX12_passes 36 = .ok (.aload_n 0, 1) := by decide +kernel
theorem dX12_passes_37 : decode cX12_passes 37 = .ok (.iconst 0, 1) := by decide +kernel
theorem dX12_passes_38 : decode cX12_passes 38 = .ok (.putfield 433, 3) := by decide +kernel
theorem dX12_passes_41 : decode cX12_passes 41 = .ok (.goto (-41), 3) := by decide +kernel
theorem dX12_passes_44 : decode cX12_passes 44 = .ok (.return_, 1) := by decide +kernel
theorem dX12_begin_0 : decode cX12_begin 0 = .ok (.aload_n 0, 1) := by decide +kernel
theorem dX12_begin_1 : decode cX12_begin 1 = .ok (.iconst 0, 1) := by decide +kernel
theorem dX12_begin_2 : decode cX12_begin 2 = .ok (.putfield 127, 3) := by decide +kernel
theorem dX12_begin_5 : decode cX12_begin 5 = .ok (.aload_n 0, 1) := by decide +kernel
theorem dX12_begin_6 : decode cX12_begin 6 = .ok (.iconst 1, 1) := by decide +kernel
theorem dX12_begin_7 : decode cX12_begin 7 = .ok (.putfield 180, 3) := by decide +kernel
theorem dX12_begin_10 : decode cX12_begin 10 = .ok (.aload_n 0, 1) := by decide +kernel
theorem dX12_begin_11 : decode cX12_begin 11 = .ok (.iconst 0, 1) := by decide +kernel
theorem dX12_begin_12 : decode cX12_begin 12 = .ok (.putfield 430, 3) := by decide +kernel
theorem dX12_begin_15 : decode cX12_begin 15 = .ok (.aload_n 0, 1) := by decide +kernel
theorem dX12_begin_16 : decode cX12_begin 16 = .ok (.iconst 0, 1) := by decide +kernel
theorem dX12_begin_17 : decode cX12_begin 17 = .ok (.putfield 433, 3) := by decide +kernel
theorem dX12_begin_20 : decode cX12_begin 20 = .ok (.aload_n 0, 1) := by decide +kernel
theorem dX12_begin_21 : decode cX12_begin 21 = .ok (.iconst 0, 1) := by decide +kernel
theorem dX12_begin_22 : decode cX12_begin 22 = .ok (.putfield 436, 3) := by decide +kernel
theorem dX12_begin_25 : decode cX12_begin 25 = .ok (.aload_n 0, 1) := by decide +kernel
theorem dX12_begin_26 : decode cX12_begin 26 = .ok (.invokevirtual 439, 3) := by decide +kernel
theorem dX12_begin_29 : decode cX12_begin 29 = .ok (.return_, 1) := by decide +kernel
theorem dX12_tick_0 : decode cX12_tick 0 = .ok (.aload_n 0, 1) := by decide +kernel
theorem dX12_tick_1 : decode cX12_tick 1 = .ok (.iconst 0, 1) := by decide +kernel
theorem dX12_tick_2 : decode cX12_tick 2 = .ok (.putfield 127, 3) := by decide +kernel
theorem dX12_tick_5 : decode cX12_tick 5 = .ok (.aload_n 0, 1) := by decide +kernel
theorem dX12_tick_6 : decode cX12_tick 6 = .ok (.getfield 180, 3) := by decide +kernel
theorem dX12_tick_9 : decode cX12_tick 9 = .ok (.ifCond .eq 14, 3) := by decide +kernel
theorem dX12_tick_12 : decode cX12_tick 12 = .ok (.iload_n 1, 1) := by decide +kernel
theorem dX12_tick_13 : decode cX12_tick 13 = .ok (.iconst 0, 1) := by decide +kernel
theorem dX12_tick_14 : decode cX12_tick 14 = .ok (.ldc_w 442, 3) := by decide +kernel
theorem dX12_tick_17 : decode cX12_tick 17 = .ok (.invokestatic 160, 3) := by decide +kernel
theorem dX12_tick_20 : decode cX12_tick 20 = .ok (.ifCond .ne 5, 3) := by decide +kernel
theorem dX12_tick_23 : decode cX12_tick 23 = .ok (.iconst (-1), 1) := by decide +kernel
theorem dX12_tick_24 : decode cX12_tick 24 = .ok (.ireturn, 1) := by decide +kernel
theorem dX12_tick_25 : decode cX12_tick 25 = .ok (.iload_n 1, 1) := by decide +kernel
theorem dX12_tick_26 : decode cX12_tick 26 = .ok (.istore_n 2, 1) := by decide +kernel
theorem dX12_tick_27 : decode cX12_tick 27 = .ok (.iload_n 2, 1) := by decide +kernel
theorem dX12_tick_28 : decode cX12_tick 28 = .ok (.ifCond .le 70, 3) := by decide +kernel
theorem dX12_tick_31 : decode cX12_tick 31 = .ok (.aload_n 0, 1) := by decide +kernel
theorem dX12_tick_32 : decode cX12_tick 32 = .ok (.getfield 430, 3) := by decide +kernel
theorem dX12_tick_35 : decode cX12_tick 35 = .ok (.aload_n 0, 1) := by decide +kernel
theorem dX12_tick_36 : decode cX12_tick 36 = .ok (.getfield 164, 3) := by decide +kernel
theorem dX12_tick_39 : decode cX12_tick 39 = .ok (.if_icmp .ge 59, 3) := by decide +kernel
theorem dX12_tick_42 : decode cX12_tick 42 = .ok (.aload_n 0, 1) := by decide +kernel
theorem dX12_tick_43 : decode cX12_tick 43 = .ok (.aload_n 0, 1) := by decide +kernel
theorem dX12_tick_44 : decode cX12_tick 44 = .ok (.getfield 430, 3) := by decide +kernel
theorem dX12_tick_47 : decode cX12_tick 47 = .ok (.invokevirtual 356, 3) := by decide +kernel
theorem dX12_tick_50 : decode cX12_tick 50 = .ok (.aload_n 0, 1) := by decide +kernel
theorem dX12_tick_51 : decode cX12_tick 51 = .ok (.getfield 433, 3) := by decide +kernel
theorem dX12_tick_54 : decode cX12_tick 54 = .ok (.isub, 1) := by decide +kernel
theorem dX12_tick_55 : decode cX12_tick 55 = .ok (.istore_n 3, 1) := by decide +kernel
theorem dX12_tick_56 : decode cX12_tick 56 = .ok (.iload_n 3, 1) := by decide +kernel
theorem dX12_tick_57 : decode cX12_tick 57 = .ok (.iload_n 2, 1) := by decide +kernel
theorem dX12_tick_58 : decode cX12_tick 58 = .ok (.if_icmp .ge 7, 3) := by decide +kernel
theorem dX12_tick_61 : decode cX12_tick 61 = .ok (.iload_n 3, 1) := by decide +kernel
theorem dX12_tick_62 : decode cX12_tick 62 = .ok (.goto 4, 3) := by decide +kernel
theorem dX12_tick_65 : decode cX12_tick 65 = .ok (.iload_n 2, 1) := by decide +kernel
theorem dX12_tick_66 : decode cX12_tick 66 = .ok (.istore_n 3, 1) := by decide +kernel
theorem dX12_tick_67 : decode cX12_tick 67 = .ok (.aload_n 0, 1) := by decide +kernel
theorem dX12_tick_68 : decode cX12_tick 68 = .ok (.dup, 1) := by decide +kernel
theorem dX12_tick_69 : decode cX12_tick 69 = .ok (.getfield 433, 3) := by decide +kernel
theorem dX12_tick_72 : decode cX12_tick 72 = .ok (.iload_n 3, 1) := by decide +kernel
theorem dX12_tick_73 : decode cX12_tick 73 = .ok (.iadd, 1) := by decide +kernel
theorem dX12_tick_74 : decode cX12_tick 74 = .ok (.putfield 433, 3) := by decide +kernel
theorem dX12_tick_77 : decode cX12_tick 77 = .ok (.aload_n 0, 1) := by decide +kernel
theorem dX12_tick_78 : decode cX12_tick 78 = .ok (.dup, 1) := by decide +kernel
theorem dX12_tick_79 : decode cX12_tick 79 = .ok (.getfield 436, 3) := by decide +kernel
theorem dX12_tick_82 : decode cX12_tick 82 = .ok (.iload_n 3, 1) := by decide +kernel
theorem dX12_tick_83 : decode cX12_tick 83 = .ok (.iadd, 1) := by decide +kernel
theorem dX12_tick_84 : decode cX12_tick 84 = .ok (.putfield 436, 3) := by decide +kernel
theorem dX12_tick_87 : decode cX12_tick 87 = .ok (.iload_n 2, 1) := by decide +kernel
theorem dX12_tick_88 : decode cX12_tick 88 = .ok (.iload_n 3, 1) := by decide +kernel
theorem dX12_tick_89 : decode cX12_tick 89 = .ok (.isub, 1) := by decide +kernel
theorem dX12_tick_90 : decode cX12_tick 90 = .ok (.istore_n 2, 1) := by decide +kernel
theorem dX12_tick_91 : decode cX12_tick 91 = .ok (.aload_n 0, 1) := by decide +kernel
theorem dX12_tick_92 : decode cX12_tick 92 = .ok (.invokevirtual 439, 3) := by decide +kernel
theorem dX12_tick_95 : decode cX12_tick 95 = .ok (.goto (-68), 3) := by decide +kernel
theorem dX12_tick_98 : decode cX12_tick 98 = .ok (.aload_n 0, 1) := by decide +kernel
theorem dX12_tick_99 : decode cX12_tick 99 = .ok (.getfield 436, 3) := by decide +kernel
theorem dX12_tick_102 : decode cX12_tick 102 = .ok (.ireturn, 1) := by decide +kernel
theorem dX12_runPlace_0 : decode cX12_runPlace 0 = .ok (.aload_n 0, 1) := by decide +kernel
theorem dX12_runPlace_1 : decode cX12_runPlace 1 = .ok (.getfield 430, 3) := by decide +kernel
theorem dX12_runPlace_4 : decode cX12_runPlace 4 = .ok (.aload_n 0, 1) := by decide +kernel
theorem dX12_runPlace_5 : decode cX12_runPlace 5 = .ok (.getfield 164, 3) := by decide +kernel
theorem dX12_runPlace_8 : decode cX12_runPlace 8 = .ok (.if_icmp .ne 7, 3) := by decide +kernel
theorem dX12_runPlace_11 : decode cX12_runPlace 11 = .ok (.iconst 1, 1) := by decide +kernel
theorem dX12_runPlace_12 : decode cX12_runPlace 12 = .ok (.goto 4, 3) := by decide +kernel
theorem dX12_runPlace_15 : decode cX12_runPlace 15 = .ok (.iconst 0, 1) := by decide +kernel
theorem dX12_runPlace_16 : decode cX12_runPlace 16 = .ok (.istore_n 2, 1) := by decide +kernel
theorem dX12_runPlace_17 : decode cX12_runPlace 17 = .ok (.iload_n 2, 1) := by decide +kernel
theorem dX12_runPlace_18 : decode cX12_runPlace 18 = .ok (.ifCond .eq 12, 3) := by decide +kernel
theorem dX12_runPlace_21 : decode cX12_runPlace 21 = .ok (.aload_n 0, 1) := by decide +kernel
theorem dX12_runPlace_22 : decode cX12_runPlace 22 = .ok (.getfield 164, 3) := by decide +kernel
theorem dX12_runPlace_25 : decode cX12_runPlace 25 = .ok (.iconst 1, 1) := by decide +kernel
theorem dX12_runPlace_26 : decode cX12_runPlace 26 = .ok (.isub, 1) := by decide +kernel
theorem dX12_runPlace_27 : decode cX12_runPlace 27 = .ok (.goto 7, 3) := by decide +kernel
theorem dX12_runPlace_30 : decode cX12_runPlace 30 = .ok (.aload_n 0, 1) := by decide +kernel
theorem dX12_runPlace_31 : decode cX12_runPlace 31 = .ok (.getfield 430, 3) := by decide +kernel
theorem dX12_runPlace_34 : decode cX12_runPlace 34 = .ok (.istore_n 3, 1) := by decide +kernel
theorem dX12_runPlace_35 : decode cX12_runPlace 35 = .ok (.iload_n 2, 1) := by decide +kernel
theorem dX12_runPlace_36 : decode cX12_runPlace 36 = .ok (.ifCond .eq 26, 3) := by decide +kernel
theorem dX12_runPlace_39 : decode cX12_runPlace 39 = .ok (.aload_n 0, 1) := by decide +kernel
theorem dX12_runPlace_40 : decode cX12_runPlace 40 = .ok (.aload_n 0, 1) := by decide +kernel
theorem dX12_runPlace_41 : decode cX12_runPlace 41 = .ok (.getfield 164, 3) := by decide +kernel
theorem dX12_runPlace_44 : decode cX12_runPlace 44 = .ok (.invokevirtual 344, 3) := by decide +kernel
theorem dX12_runPlace_47 : decode cX12_runPlace 47 = .ok (.istore 4, 2) := by decide +kernel
theorem dX12_runPlace_49 : decode cX12_runPlace 49 = .ok (.aload_n 0, 1) := by decide +kernel
theorem dX12_runPlace_50 : decode cX12_runPlace 50 = .ok (.aload_n 0, 1) := by decide +kernel
theorem dX12_runPlace_51 : decode cX12_runPlace 51 = .ok (.getfield 164, 3) := by decide +kernel
theorem dX12_runPlace_54 : decode cX12_runPlace 54 = .ok (.invokevirtual 347, 3) := by decide +kernel
theorem dX12_runPlace_57 : decode cX12_runPlace 57 = .ok (.istore 5, 2) := by decide +kernel
theorem dX12_runPlace_59 : decode cX12_runPlace 59 = .ok (.goto 51, 3) := by decide +kernel
theorem dX12_runPlace_62 : decode cX12_runPlace 62 = .ok (.aload_n 0, 1) := by decide +kernel
theorem dX12_runPlace_63 : decode cX12_runPlace 63 = .ok (.aload_n 0, 1) := by decide +kernel
theorem dX12_runPlace_64 : decode cX12_runPlace 64 = .ok (.iload_n 3, 1) := by decide +kernel
theorem dX12_runPlace_65 : decode cX12_runPlace 65 = .ok (.invokevirtual 344, 3) := by decide +kernel
theorem dX12_runPlace_68 : decode cX12_runPlace 68 = .ok (.aload_n 0, 1) := by decide +kernel
theorem dX12_runPlace_69 : decode cX12_runPlace 69 = .ok (.iload_n 3, 1) := by decide +kernel
theorem dX12_runPlace_70 : decode cX12_runPlace 70 = .ok (.invokevirtual 347, 3) := by decide +kernel
theorem dX12_runPlace_73 : decode cX12_runPlace 73 = .ok (.aload_n 0, 1) := by decide +kernel
theorem dX12_runPlace_74 : decode cX12_runPlace 74 = .ok (.iload_n 3, 1) := by decide +kernel
theorem dX12_runPlace_75 : decode cX12_runPlace 75 = .ok (.iconst 1, 1) := by decide +kernel
theorem dX12_runPlace_76 : decode cX12_runPlace 76 = .ok (.iadd, 1) := by decide +kernel
theorem dX12_runPlace_77 : decode cX12_runPlace 77 = .ok (.invokevirtual 344, 3) := by decide +kernel
theorem dX12_runPlace_80 : decode cX12_runPlace 80 = .ok (.aload_n 0, 1) := by decide +kernel
theorem dX12_runPlace_81 : decode cX12_runPlace 81 = .ok (.iload_n 3, 1) := by decide +kernel
theorem dX12_runPlace_82 : decode cX12_runPlace 82 = .ok (.iconst 1, 1) := by decide +kernel
theorem dX12_runPlace_83 : decode cX12_runPlace 83 = .ok (.iadd, 1) := by decide +kernel
theorem dX12_runPlace_84 : decode cX12_runPlace 84 = .ok (.invokevirtual 347, 3) := by decide +kernel
theorem dX12_runPlace_87 : decode cX12_runPlace 87 = .ok (.invokevirtual 380, 3) := by decide +kernel
theorem dX12_runPlace_90 : decode cX12_runPlace 90 = .ok (.aload_n 0, 1) := by decide +kernel
theorem dX12_runPlace_91 : decode cX12_runPlace 91 = .ok (.aload_n 0, 1) := by decide +kernel
theorem dX12_runPlace_92 : decode cX12_runPlace 92 = .ok (.getfield 433, 3) := by decide +kernel
theorem dX12_runPlace_95 : decode cX12_runPlace 95 = .ok (.invokevirtual 374, 3) := by decide +kernel
theorem dX12_runPlace_98 : decode cX12_runPlace 98 = .ok (.istore 4, 2) := by decide +kernel
theorem dX12_runPlace_100 : decode cX12_runPlace 100 = .ok (.aload_n 0, 1) := by decide +kernel
theorem dX12_runPlace_101 : decode cX12_runPlace 101 = .ok (.aload_n 0, 1) := by decide +kernel
theorem dX12_runPlace_102 : decode cX12_runPlace 102 = .ok (.getfield 433, 3) := by decide +kernel
theorem dX12_runPlace_105 : decode cX12_runPlace 105 = .ok (.invokevirtual 377, 3) := by decide +kernel
theorem dX12_runPlace_108 : decode cX12_runPlace 108 = .ok (.istore 5, 2) := by decide +kernel
theorem dX12_runPlace_110 : decode cX12_runPlace 110 = .ok (.iload 4, 2) := by decide +kernel
theorem dX12_runPlace_112 : decode cX12_runPlace 112 = .ok (.aload_n 0, 1) := by decide +kernel
theorem dX12_runPlace_113 : decode cX12_runPlace 113 = .ok (.iload_n 3, 1) := by decide +kernel
theorem dX12_runPlace_114 : decode cX12_runPlace 114 = .ok (.iconst 0, 1) := by decide +kernel
theorem dX12_runPlace_115 : decode cX12_runPlace 115 = .ok (.invokevirtual 391, 3) := by decide +kernel
theorem dX12_runPlace_118 : decode cX12_runPlace 118 = .ok (.iadd, 1) := by decide +kernel
theorem dX12_runPlace_119 : decode cX12_runPlace 119 = .ok (.istore 4, 2) := by decide +kernel
theorem dX12_runPlace_121 : decode cX12_runPlace 121 = .ok (.iload 5, 2) := by decide +kernel
theorem dX12_runPlace_123 : decode cX12_runPlace 123 = .ok (.aload_n 0, 1) := by decide +kernel
theorem dX12_runPlace_124 : decode cX12_runPlace 124 = .ok (.iload_n 3, 1) := by decide +kernel
theorem dX12_runPlace_125 : decode cX12_runPlace 125 = .ok (.iconst 1, 1) := by decide +kernel
theorem dX12_runPlace_126 : decode cX12_runPlace 126 = .ok (.invokevirtual 391, 3) := by decide +kernel
theorem dX12_runPlace_129 : decode cX12_runPlace 129 = .ok (.iadd, 1) := by decide +kernel
theorem dX12_runPlace_130 : decode cX12_runPlace 130 = .ok (.istore 5, 2) := by decide +kernel
theorem dX12_runPlace_132 : decode cX12_runPlace 132 = .ok (.iload_n 1, 1) := by decide +kernel
theorem dX12_runPlace_133 : decode cX12_runPlace 133 = .ok (.iconst 2, 1) := by decide +kernel
theorem dX12_runPlace_134 : decode cX12_runPlace 134 = .ok (.if_icmp .ne 14, 3) := by decide +kernel
theorem dX12_runPlace_137 : decode cX12_runPlace 137 = .ok (.aload_n 0, 1) := by decide +kernel
theorem dX12_runPlace_138 : decode cX12_runPlace 138 = .ok (.iload 4, 2) := by decide +kernel
theorem dX12_runPlace_140 : decode cX12_runPlace 140 = .ok (.iload 5, 2) := by decide +kernel
theorem dX12_runPlace_142 : decode cX12_runPlace 142 = .ok (.invokevirtual 156, 3) := by decide +kernel
theorem dX12_runPlace_145 : decode cX12_runPlace 145 = .ok (.goto 11, 3) := by decide +kernel
theorem dX12_runPlace_148 : decode cX12_runPlace 148 = .ok (.aload_n 0, 1) := by decide +kernel
theorem dX12_runPlace_149 : decode cX12_runPlace 149 = .ok (.iload 4, 2) := by decide +kernel
theorem dX12_runPlace_151 : decode cX12_runPlace 151 = .ok (.iload 5, 2) := by decide +kernel
theorem dX12_runPlace_153 : decode cX12_runPlace 153 = .ok (.invokevirtual 195, 3) := by decide +kernel
theorem dX12_runPlace_156 : decode cX12_runPlace 156 = .ok (.ireturn, 1) := by decide +kernel
theorem dX12_run_0 : decode cX12_run 0 = .ok (.aload_n 0, 1) := by decide +kernel
theorem dX12_run_1 : decode cX12_run 1 = .ok (.iconst 0, 1) := by decide +kernel
theorem dX12_run_2 : decode cX12_run 2 = .ok (.putfield 127, 3) := by decide +kernel
theorem dX12_run_5 : decode cX12_run 5 = .ok (.aload_n 0, 1) := by decide +kernel
theorem dX12_run_6 : decode cX12_run 6 = .ok (.getfield 180, 3) := by decide +kernel
theorem dX12_run_9 : decode cX12_run 9 = .ok (.ifCond .eq 12, 3) := by decide +kernel
theorem dX12_run_12 : decode cX12_run 12 = .ok (.iload_n 1, 1) := by decide +kernel
theorem dX12_run_13 : decode cX12_run 13 = .ok (.iconst 0, 1) := by decide +kernel
theorem dX12_run_14 : decode cX12_run 14 = .ok (.iconst 4, 1) := by decide +kernel
theorem dX12_run_15 : decode cX12_run 15 = .ok (.invokestatic 160, 3) := by decide +kernel
theorem dX12_run_18 : decode cX12_run 18 = .ok (.ifCond .ne 6, 3) := by decide +kernel
theorem dX12_run_21 : decode cX12_run 21 = .ok (.ldc 194, 2) := by decide +kernel
theorem dX12_run_23 : decode cX12_run 23 = .ok (.ireturn, 1) := by decide +kernel
theorem dX12_run_24 : decode cX12_run 24 = .ok (.iload_n 1, 1) := by decide +kernel
theorem dX12_run_25 : decode cX12_run 25 = .ok (.tableswitch 62 0 4 #[35, 40, 62, 62, 45], 35) := by decide +kernel
theorem dX12_run_60 : decode cX12_run 60 = .ok (.aload_n 0, 1) := by decide +kernel
theorem dX12_run_61 : decode cX12_run 61 = .ok (.getfield 430, 3) := by decide +kernel
theorem dX12_run_64 : decode cX12_run 64 = .ok (.ireturn, 1) := by decide +kernel
theorem dX12_run_65 : decode cX12_run 65 = .ok (.aload_n 0, 1) := by decide +kernel
theorem dX12_run_66 : decode cX12_run 66 = .ok (.getfield 433, 3) := by decide +kernel
theorem dX12_run_69 : decode cX12_run 69 = .ok (.ireturn, 1) := by decide +kernel
theorem dX12_run_70 : decode cX12_run 70 = .ok (.aload_n 0, 1) := by decide +kernel
theorem dX12_run_71 : decode cX12_run 71 = .ok (.getfield 430, 3) := by decide +kernel
theorem dX12_run_74 : decode cX12_run 74 = .ok (.aload_n 0, 1) := by decide +kernel
theorem dX12_run_75 : decode cX12_run 75 = .ok (.getfield 164, 3) := by decide +kernel
theorem dX12_run_78 : decode cX12_run 78 = .ok (.if_icmp .ne 7, 3) := by decide +kernel
theorem dX12_run_81 : decode cX12_run 81 = .ok (.iconst 1, 1) := by decide +kernel
theorem dX12_run_82 : decode cX12_run 82 = .ok (.goto 4, 3) := by decide +kernel
theorem dX12_run_85 : decode cX12_run 85 = .ok (.iconst 0, 1) := by decide +kernel
theorem dX12_run_86 : decode cX12_run 86 = .ok (.ireturn, 1) := by decide +kernel
theorem dX12_run_87 : decode cX12_run 87 = .ok (.aload_n 0, 1) := by decide +kernel
theorem dX12_run_88 : decode cX12_run 88 = .ok (.iload_n 1, 1) := by decide +kernel
theorem dX12_run_89 : decode cX12_run 89 = .ok (.invokevirtual 443, 3) := by decide +kernel
theorem dX12_run_92 : decode cX12_run 92 = .ok (.ireturn, 1) := by decide +kernel
theorem dX12_count_0 : decode cX12_count 0 = .ok (.aload_n 0, 1) := by decide +kernel
theorem dX12_count_1 : decode cX12_count 1 = .ok (.iconst 0, 1) := by decide +kernel
theorem dX12_count_2 : decode cX12_count 2 = .ok (.putfield 127, 3) := by decide +kernel
theorem dX12_count_5 : decode cX12_count 5 = .ok (.iload_n 1, 1) := by decide +kernel
theorem dX12_count_6 : decode cX12_count 6 = .ok (.tableswitch 104 0 9 #[54, 59, 64, 69, 74, 79, 84, 89, 94, 99], 54) := by decide +kernel
theorem dX12_count_60 : decode cX12_count 60 = .ok (.aload_n 0, 1) := by decide +kernel
theorem dX12_count_61 : decode cX12_count 61 = .ok (.getfield 13, 3) := by decide +kernel
theorem dX12_count_64 : decode cX12_count 64 = .ok (.ireturn, 1) := by decide +kernel
theorem dX12_count_65 : decode cX12_count 65 = .ok (.aload_n 0, 1) := by decide +kernel
theorem dX12_count_66 : decode cX12_count 66 = .ok (.getfield 17, 3) := by decide +kernel
theorem dX12_count_69 : decode cX12_count 69 = .ok (.ireturn, 1) := by decide +kernel
theorem dX12_count_70 : decode cX12_count 70 = .ok (.aload_n 0, 1) := by decide +kernel
theorem dX12_count_71 : decode cX12_count 71 = .ok (.getfield 20, 3) := by decide +kernel
theorem dX12_count_74 : decode cX12_count 74 = .ok (.ireturn, 1) := by decide +kernel
theorem dX12_count_75 : decode cX12_count 75 = .ok (.aload_n 0, 1) := by decide +kernel
theorem dX12_count_76 : decode cX12_count 76 = .ok (.getfield 135, 3) := by decide +kernel
theorem dX12_count_79 : decode cX12_count 79 = .ok (.ireturn, 1) := by decide +kernel
theorem dX12_count_80 : decode cX12_count 80 = .ok (.aload_n 0, 1) := by decide +kernel
theorem dX12_count_81 : decode cX12_count 81 = .ok (.getfield 23, 3) := by decide +kernel
theorem dX12_count_84 : decode cX12_count 84 = .ok (.ireturn, 1) := by decide +kernel
theorem dX12_count_85 : decode cX12_count 85 = .ok (.aload_n 0, 1) := by decide +kernel
theorem dX12_count_86 : decode cX12_count 86 = .ok (.getfield 26, 3) := by decide +kernel
theorem dX12_count_89 : decode cX12_count 89 = .ok (.ireturn, 1) := by decide +kernel
theorem dX12_count_90 : decode cX12_count 90 = .ok (.aload_n 0, 1) := by decide +kernel
theorem dX12_count_91 : decode cX12_count 91 = .ok (.getfield 164, 3) := by decide +kernel
theorem dX12_count_94 : decode cX12_count 94 = .ok (.ireturn, 1) := by decide +kernel
theorem dX12_count_95 : decode cX12_count 95 = .ok (.aload_n 0, 1) := by decide +kernel
theorem dX12_count_96 : decode cX12_count 96 = .ok (.getfield 171, 3) := by decide +kernel
theorem dX12_count_99 : decode cX12_count 99 = .ok (.ireturn, 1) := by decide +kernel
theorem dX12_count_100 : decode cX12_count 100 = .ok (.aload_n 0, 1) := by decide +kernel
theorem dX12_count_101 : decode cX12_count 101 = .ok (.getfield 177, 3) := by decide +kernel
theorem dX12_count_104 : decode cX12_count 104 = .ok (.ireturn, 1) := by decide +kernel
theorem dX12_count_105 : decode cX12_count 105 = .ok (.aload_n 0, 1) := by decide +kernel
theorem dX12_count_106 : decode cX12_count 106 = .ok (.getfield 424, 3) := by decide +kernel
theorem dX12_count_109 : decode cX12_count 109 = .ok (.ireturn, 1) := by decide +kernel
theorem dX12_count_110 : decode cX12_count 110 = .ok (.iconst (-1), 1) := by decide +kernel
theorem dX12_count_111 : decode cX12_count 111 = .ok (.ireturn, 1) := by decide +kernel
