theorem dX9_init_0 : decode cX9_init 0 = .ok (.aload_n 0, 1) := by decide +kernel
theorem dX9_init_1 : decode cX9_init 1 = .ok (.invokespecial 1, 3) := by decide +kernel
theorem dX9_init_4 : decode cX9_init 4 = .ok (.aload_n 0, 1) := by decide +kernel
theorem dX9_init_5 : decode cX9_init 5 = .ok (.bipush 121, 2) := by decide +kernel
theorem dX9_init_7 : decode cX9_init 7 = .ok (.newarray .int, 2) := by decide +kernel
theorem dX9_init_9 : decode cX9_init 9 = .ok (.putfield 7, 3) := by decide +kernel
theorem dX9_init_12 : decode cX9_init 12 = .ok (.aload_n 0, 1) := by decide +kernel
theorem dX9_init_13 : decode cX9_init 13 = .ok (.sipush 1210, 3) := by decide +kernel
theorem dX9_init_16 : decode cX9_init 16 = .ok (.newarray .int, 2) := by decide +kernel
theorem dX9_init_18 : decode cX9_init 18 = .ok (.putfield 13, 3) := by decide +kernel
theorem dX9_init_21 : decode cX9_init 21 = .ok (.aload_n 0, 1) := by decide +kernel
theorem dX9_init_22 : decode cX9_init 22 = .ok (.bipush 121, 2) := by decide +kernel
theorem dX9_init_24 : decode cX9_init 24 = .ok (.newarray .int, 2) := by decide +kernel
theorem dX9_init_26 : decode cX9_init 26 = .ok (.putfield 16, 3) := by decide +kernel
theorem dX9_init_29 : decode cX9_init 29 = .ok (.aload_n 0, 1) := by decide +kernel
theorem dX9_init_30 : decode cX9_init 30 = .ok (.bipush 12, 2) := by decide +kernel
theorem dX9_init_32 : decode cX9_init 32 = .ok (.newarray .char, 2) := by decide +kernel
theorem dX9_init_34 : decode cX9_init 34 = .ok (.putfield 19, 3) := by decide +kernel
theorem dX9_init_37 : decode cX9_init 37 = .ok (.aload_n 0, 1) := by decide +kernel
theorem dX9_init_38 : decode cX9_init 38 = .ok (.iconst (-1), 1) := by decide +kernel
theorem dX9_init_39 : decode cX9_init 39 = .ok (.putfield 23, 3) := by decide +kernel
theorem dX9_init_42 : decode cX9_init 42 = .ok (.aload_n 0, 1) := by decide +kernel
theorem dX9_init_43 : decode cX9_init 43 = .ok (.bipush 41, 2) := by decide +kernel
theorem dX9_init_45 : decode cX9_init 45 = .ok (.newarray .int, 2) := by decide +kernel
theorem dX9_init_47 : decode cX9_init 47 = .ok (.putfield 27, 3) := by decide +kernel
theorem dX9_init_50 : decode cX9_init 50 = .ok (.aload_n 0, 1) := by decide +kernel
theorem dX9_init_51 : decode cX9_init 51 = .ok (.bipush 40, 2) := by decide +kernel
theorem dX9_init_53 : decode cX9_init 53 = .ok (.newarray .int, 2) := by decide +kernel
theorem dX9_init_55 : decode cX9_init 55 = .ok (.putfield 30, 3) := by decide +kernel
theorem dX9_init_58 : decode cX9_init 58 = .ok (.aload_n 0, 1) := by decide +kernel
theorem dX9_init_59 : decode cX9_init 59 = .ok (.bipush 48, 2) := by decide +kernel
theorem dX9_init_61 : decode cX9_init 61 = .ok (.newarray .int, 2) := by decide +kernel
theorem dX9_init_63 : decode cX9_init 63 = .ok (.dup, 1) := by decide +kernel
theorem dX9_init_64 : decode cX9_init 64 = .ok (.iconst 0, 1) := by decide +kernel
theorem dX9_init_65 : decode cX9_init 65 = .ok (.bipush 99, 2) := by decide +kernel
theorem dX9_init_67 : decode cX9_init 67 = .ok (.iastore, 1) := by decide +kernel
theorem dX9_init_68 : decode cX9_init 68 = .ok (.dup, 1) := by decide +kernel
theorem dX9_init_69 : decode cX9_init 69 = .ok (.iconst 1, 1) := by decide +kernel
theorem dX9_init_70 : decode cX9_init 70 = .ok (.bipush 111, 2) := by decide +kernel
theorem dX9_init_72 : decode cX9_init 72 = .ok (.iastore, 1) := by decide +kernel
theorem dX9_init_73 : decode cX9_init 73 = .ok (.dup, 1) := by decide +kernel
theorem dX9_init_74 : decode cX9_init 74 = .ok (.iconst 2, 1) := by decide +kernel
theorem dX9_init_75 : decode cX9_init 75 = .ok (.bipush 100, 2) := by decide +kernel
theorem dX9_init_77 : decode cX9_init 77 = .ok (.iastore, 1) := by decide +kernel
theorem dX9_init_78 : decode cX9_init 78 = .ok (.dup, 1) := by decide +kernel
theorem dX9_init_79 : decode cX9_init 79 = .ok (.iconst 3, 1) := by decide +kernel
theorem dX9_init_80 : decode cX9_init 80 = .ok (.bipush 101, 2) := by decide +kernel
theorem dX9_init_82 : decode cX9_init 82 = .ok (.iastore, 1) := by decide +kernel
theorem dX9_init_83 : decode cX9_init 83 = .ok (.dup, 1) := by decide +kernel
theorem dX9_init_84 : decode cX9_init 84 = .ok (.iconst 4, 1) := by decide +kernel
theorem dX9_init_85 : decode cX9_init 85 = .ok (.bipush 32, 2) := by decide +kernel
theorem dX9_init_87 : decode cX9_init 87 = .ok (.iastore, 1) := by decide +kernel
theorem dX9_init_88 : decode cX9_init 88 = .ok (.dup, 1) := by decide +kernel
theorem dX9_init_89 : decode cX9_init 89 = .ok (.iconst 5, 1) := by decide +kernel
theorem dX9_init_90 : decode cX9_init 90 = .ok (.bipush 32, 2) := by decide +kernel
theorem dX9_init_92 : decode cX9_init 92 = .ok (.iastore, 1) := by decide +kernel
theorem dX9_init_93 : decode cX9_init 93 = .ok (.dup, 1) := by decide +kernel
theorem dX9_init_94 : decode cX9_init 94 = .ok (.bipush 6, 2) := by decide +kernel
theorem dX9_init_96 : decode cX9_init 96 = .ok (.bipush 100, 2) := by decide +kernel
theorem dX9_init_98 : decode cX9_init 98 = .ok (.iastore, 1) := by decide +kernel
theorem dX9_init_99 : decode cX9_init 99 = .ok (.dup, 1) := by decide +kernel
theorem dX9_init_100 : decode cX9_init 100 = .ok (.bipush 7, 2) := by decide +kernel
theorem dX9_init_102 : decode cX9_init 102 = .ok (.bipush 97, 2) := by decide +kernel
theorem dX9_init_104 : decode cX9_init 104 = .ok (.iastore, 1) := by decide +kernel
theorem dX9_init_105 : decode cX9_init 105 = .ok (.dup, 1) := by decide +kernel
theorem dX9_init_106 : decode cX9_init 106 = .ok (.bipush 8, 2) := by decide +kernel
theorem dX9_init_108 : decode cX9_init 108 = .ok (.bipush 116, 2) := by decide +kernel
theorem dX9_init_110 : decode cX9_init 110 = .ok (.iastore, 1) := by decide +kernel
theorem dX9_init_111 : decode cX9_init 111 = .ok (.dup, 1) := by decide +kernel
theorem dX9_init_112 : decode cX9_init 112 = .ok (.bipush 9, 2) := by decide +kernel
theorem dX9_init_114 : decode cX9_init 114 = .ok (.bipush 97, 2) := by decide +kernel
theorem dX9_init_116 : decode cX9_init 116 = .ok (.iastore, 1) := by decide +kernel
theorem dX9_init_117 : decode cX9_init 117 = .ok (.dup, 1) := by decide +kernel
theorem dX9_init_118 : decode cX9_init 118 = .ok (.bipush 10, 2) := by decide +kernel
theorem dX9_init_120 : decode cX9_init 120 = .ok (.bipush 32, 2) := by decide +kernel
theorem dX9_init_122 : decode cX9_init 122 = .ok (.iastore, 1) := by decide +kernel
theorem dX9_init_123 : decode cX9_init 123 = .ok (.dup, 1) := by decide +kernel
theorem dX9_init_124 : decode cX9_init 124 = .ok (.bipush 11, 2) := by decide +kernel
theorem dX9_init_126 : decode cX9_init 126 = .ok (.bipush 32, 2) := by decide +kernel
theorem dX9_init_128 : decode cX9_init 128 = .ok (.iastore, 1) := by decide +kernel
theorem dX9_init_129 : decode cX9_init 129 = .ok (.dup, 1) := by decide +kernel
theorem dX9_init_130 : decode cX9_init 130 = .ok (.bipush 12, 2) := by decide +kernel
theorem dX9_init_132 : decode cX9_init 132 = .ok (.bipush 108, 2) := by decide +kernel
theorem dX9_init_134 : decode cX9_init 134 = .ok (.iastore, 1) := by decide +kernel
theorem dX9_init_135 : decode cX9_init 135 = .ok (.dup, 1) := by decide +kernel
theorem dX9_init_136 : decode cX9_init 136 = .ok (.bipush 13, 2) := by decide +kernel
theorem dX9_init_138 : decode cX9_init 138 = .ok (.bipush 97, 2) := by decide +kernel
theorem dX9_init_140 : decode cX9_init 140 = .ok (.iastore, 1) := by decide +kernel
theorem dX9_init_141 : decode cX9_init 141 = .ok (.dup, 1) := by decide +kernel
theorem dX9_init_142 : decode cX9_init 142 = .ok (.bipush 14, 2) := by decide +kernel
theorem dX9_init_144 : decode cX9_init 144 = .ok (.bipush 98, 2) := by decide +kernel
theorem dX9_init_146 : decode cX9_init 146 = .ok (.iastore, 1) := by decide +kernel
theorem dX9_init_147 : decode cX9_init 147 = .ok (.dup, 1) := by decide +kernel
theorem dX9_init_148 : decode cX9_init 148 = .ok (.bipush 15, 2) := by decide +kernel
theorem dX9_init_150 : decode cX9_init 150 = .ok (.bipush 101, 2) := by decide +kernel
theorem dX9_init_152 : decode cX9_init 152 = .ok (.iastore, 1) := by decide +kernel
theorem dX9_init_153 : decode cX9_init 153 = .ok (.dup, 1) := by decide +kernel
theorem dX9_init_154 : decode cX9_init 154 = .ok (.bipush 16, 2) := by decide +kernel
theorem dX9_init_156 : decode cX9_init 156 = .ok (.bipush 108, 2) := by decide +kernel
theorem dX9_init_158 : decode cX9_init 158 = .ok (.iastore, 1) := by decide +kernel
theorem dX9_init_159 : decode cX9_init 159 = .ok (.dup, 1) := by decide +kernel
theorem dX9_init_160 : decode cX9_init 160 = .ok (.bipush 17, 2) := by decide +kernel
theorem dX9_init_162 : decode cX9_init 162 = .ok (.bipush 32, 2) := by decide +kernel
theorem dX9_init_164 : decode cX9_init 164 = .ok (.iastore, 1) := by decide +kernel
theorem dX9_init_165 : decode cX9_init 165 = .ok (.dup, 1) := by decide +kernel
theorem dX9_init_166 : decode cX9_init 166 = .ok (.bipush 18, 2) := by decide +kernel
theorem dX9_init_168 : decode cX9_init 168 = .ok (.bipush 97, 2) := by decide +kernel
theorem dX9_init_170 : decode cX9_init 170 = .ok (.iastore, 1) := by decide +kernel
theorem dX9_init_171 : decode cX9_init 171 = .ok (.dup, 1) := by decide +kernel
theorem dX9_init_172 : decode cX9_init 172 = .ok (.bipush 19, 2) := by decide +kernel
theorem dX9_init_174 : decode cX9_init 174 = .ok (.bipush 108, 2) := by decide +kernel
theorem dX9_init_176 : decode cX9_init 176 = .ok (.iastore, 1) := by decide +kernel
theorem dX9_init_177 : decode cX9_init 177 = .ok (.dup, 1) := by decide +kernel
theorem dX9_init_178 : decode cX9_init 178 = .ok (.bipush 20, 2) := by decide +kernel
theorem dX9_init_180 : decode cX9_init 180 = .ok (.bipush 105, 2) := by decide +kernel
theorem dX9_init_182 : decode cX9_init 182 = .ok (.iastore, 1) := by decide +kernel
theorem dX9_init_183 : decode cX9_init 183 = .ok (.dup, 1) := by decide +kernel
theorem dX9_init_184 : decode cX9_init 184 = .ok (.bipush 21, 2) := by decide +kernel
theorem dX9_init_186 : decode cX9_init 186 = .ok (.bipush 103, 2) := by decide +kernel
theorem dX9_init_188 : decode cX9_init 188 = .ok (.iastore, 1) := by decide +kernel
theorem dX9_init_189 : decode cX9_init 189 = .ok (.dup, 1) := by decide +kernel
theorem dX9_init_190 : decode cX9_init 190 = .ok (.bipush 22, 2) := by decide +kernel
theorem dX9_init_192 : decode cX9_init 192 = .ok (.bipush 110, 2) := by decide +kernel
theorem dX9_init_194 : decode cX9_init 194 = .ok (.iastore, 1) := by decide +kernel
theorem dX9_init_195 : decode cX9_init 195 = .ok (.dup, 1) := by decide +kernel
theorem dX9_init_196 : decode cX9_init 196 = .ok (.bipush 23, 2) := by decide +kernel
theorem dX9_init_198 : decode cX9_init 198 = .ok (.bipush 32, 2) := by decide +kernel
theorem dX9_init_200 : decode cX9_init 200 = .ok (.iastore, 1) := by decide +kernel
theorem dX9_init_201 : decode cX9_init 201 = .ok (.dup, 1) := by decide +kernel
theorem dX9_init_202 : decode cX9_init 202 = .ok (.bipush 24, 2) := by decide +kernel
theorem dX9_init_204 : decode cX9_init 204 = .ok (.bipush 106, 2) := by decide +kernel
theorem dX9_init_206 : decode cX9_init 206 = .ok (.iastore, 1) := by decide +kernel
theorem dX9_init_207 : decode cX9_init 207 = .ok (.dup, 1) := by decide +kernel
theorem dX9_init_208 : decode cX9_init 208 = .ok (.bipush 25, 2) := by decide +kernel
theorem dX9_init_210 : decode cX9_init 210 = .ok (.bipush 117, 2) := by decide +kernel
theorem dX9_init_212 : decode cX9_init 212 = .ok (.iastore, 1) := by decide +kernel
theorem dX9_init_213 : decode cX9_init 213 = .ok (.dup, 1) := by decide +kernel
theorem dX9_init_214 : decode cX9_init 214 = .ok (.bipush 26, 2) := by decide +kernel
theorem dX9_init_216 : decode cX9_init 216 = .ok (.bipush 109, 2) := by decide +kernel
theorem dX9_init_218 : decode cX9_init 218 = .ok (.iastore, 1) := by decide +kernel
theorem dX9_init_219 : decode cX9_init 219 = .ok (.dup, 1) := by decide +kernel
theorem dX9_init_220 : decode cX9_init 220 = .ok (.bipush 27, 2) := by decide +kernel
theorem dX9_init_222 : decode cX9_init 222 = .ok (.bipush 112, 2) := by decide +kernel
theorem dX9_init_224 : decode cX9_init 224 = .ok (.iastore, 1) := by decide +kernel
theorem dX9_init_225 : decode cX9_init 225 = .ok (.dup, 1) := by decide +kernel
theorem dX9_init_226 : decode cX9_init 226 = .ok (.bipush 28, 2) := by decide +kernel
theorem dX9_init_228 : decode cX9_init 228 = .ok (.bipush 32, 2) := by decide +kernel
theorem dX9_init_230 : decode cX9_init 230 = .ok (.iastore, 1) := by decide +kernel
theorem dX9_init_231 : decode cX9_init 231 = .ok (.dup, 1) := by decide +kernel
theorem dX9_init_232 : decode cX9_init 232 = .ok (.bipush 29, 2) := by decide +kernel
theorem dX9_init_234 : decode cX9_init 234 = .ok (.bipush 32, 2) := by decide +kernel
theorem dX9_init_236 : decode cX9_init 236 = .ok (.iastore, 1) := by decide +kernel
theorem dX9_init_237 : decode cX9_init 237 = .ok (.dup, 1) := by decide +kernel
theorem dX9_init_238 : decode cX9_init 238 = .ok (.bipush 30, 2) := by decide +kernel
theorem dX9_init_240 : decode cX9_init 240 = .ok (.bipush 98, 2) := by decide +kernel
theorem dX9_init_242 : decode cX9_init 242 = .ok (.iastore, 1) := by decide +kernel
theorem dX9_init_243 : decode cX9_init 243 = .ok (.dup, 1) := by decide +kernel
theorem dX9_init_244 : decode cX9_init 244 = .ok (.bipush 31, 2) := by decide +kernel
theorem dX9_init_246 : decode cX9_init 246 = .ok (.bipush 114, 2) := by decide +kernel
theorem dX9_init_248 : decode cX9_init 248 = .ok (.iastore, 1) := by decide +kernel
theorem dX9_init_249 : decode cX9_init 249 = .ok (.dup, 1) := by decide +kernel
theorem dX9_init_250 : decode cX9_init 250 = .ok (.bipush 32, 2) := by decide +kernel
theorem dX9_init_252 : decode cX9_init 252 = .ok (.bipush 97, 2) := by decide +kernel
theorem dX9_init_254 : decode cX9_init 254 = .ok (.iastore, 1) := by decide +kernel
theorem dX9_init_255 : decode cX9_init 255 = .ok (.dup, 1) := by decide +kernel
theorem dX9_init_256 : decode cX9_init 256 = .ok (.bipush 33, 2) := by decide +kernel
theorem dX9_init_258 : decode cX9_init 258 = .ok (.bipush 110, 2) := by decide +kernel
theorem dX9_init_260 : decode cX9_init 260 = .ok (.iastore, 1) := by decide +kernel
theorem dX9_init_261 : decode cX9_init 261 = .ok (.dup, 1) := by decide +kernel
theorem dX9_init_262 : decode cX9_init 262 = .ok (.bipush 34, 2) := by decide +kernel
theorem dX9_init_264 : decode cX9_init 264 = .ok (.bipush 99, 2) := by decide +kernel
theorem dX9_init_266 : decode cX9_init 266 = .ok (.iastore, 1) := by decide +kernel
theorem dX9_init_267 : decode cX9_init 267 = .ok (.dup, 1) := by decide +kernel
theorem dX9_init_268 : decode cX9_init 268 = .ok (.bipush 35, 2) := by decide +kernel
theorem dX9_init_270 : decode cX9_init 270 = .ok (.bipush 104, 2) := by decide +kernel
theorem dX9_init_272 : decode cX9_init 272 = .ok (.iastore, 1) := by decide +kernel
theorem dX9_init_273 : decode cX9_init 273 = .ok (.dup, 1) := by decide +kernel
theorem dX9_init_274 : decode cX9_init 274 = .ok (.bipush 36, 2) := by decide +kernel
theorem dX9_init_276 : decode cX9_init 276 = .ok (.bipush 108, 2) := by decide +kernel
theorem dX9_init_278 : decode cX9_init 278 = .ok (.iastore, 1) := by decide +kernel
theorem dX9_init_279 : decode cX9_init 279 = .ok (.dup, 1) := by decide +kernel
theorem dX9_init_280 : decode cX9_init 280 = .ok (.bipush 37, 2) := by decide +kernel
theorem dX9_init_282 : decode cX9_init 282 = .ok (.bipush 111, 2) := by decide +kernel
theorem dX9_init_284 : decode cX9_init 284 = .ok (.iastore, 1) := by decide +kernel
theorem dX9_init_285 : decode cX9_init 285 = .ok (.dup, 1) := by decide +kernel
theorem dX9_init_286 : decode cX9_init 286 = .ok (.bipush 38, 2) := by decide +kernel
theorem dX9_init_288 : decode cX9_init 288 = .ok (.bipush 97, 2) := by decide +kernel
theorem dX9_init_290 : decode cX9_init 290 = .ok (.iastore, 1) := by decide +kernel
theorem dX9_init_291 : decode cX9_init 291 = .ok (.dup, 1) := by decide +kernel
theorem dX9_init_292 : decode cX9_init 292 = .ok (.bipush 39, 2) := by decide +kernel
theorem dX9_init_294 : decode cX9_init 294 = .ok (.bipush 100, 2) := by decide +kernel
theorem dX9_init_296 : decode cX9_init 296 = .ok (.iastore, 1) := by decide +kernel
theorem dX9_init_297 : decode cX9_init 297 = .ok (.dup, 1) := by decide +kernel
theorem dX9_init_298 : decode cX9_init 298 = .ok (.bipush 40, 2) := by decide +kernel
theorem dX9_init_300 : decode cX9_init 300 = .ok (.bipush 32, 2) := by decide +kernel
theorem dX9_init_302 : decode cX9_init 302 = .ok (.iastore, 1) := by decide +kernel
theorem dX9_init_303 : decode cX9_init 303 = .ok (.dup, 1) := by decide +kernel
theorem dX9_init_304 : decode cX9_init 304 = .ok (.bipush 41, 2) := by decide +kernel
theorem dX9_init_306 : decode cX9_init 306 = .ok (.bipush 32, 2) := by decide +kernel
theorem dX9_init_308 : decode cX9_init 308 = .ok (.iastore, 1) := by decide +kernel
theorem dX9_init_309 : decode cX9_init 309 = .ok (.dup, 1) := by decide +kernel
theorem dX9_init_310 : decode cX9_init 310 = .ok (.bipush 42, 2) := by decide +kernel
theorem dX9_init_312 : decode cX9_init 312 = .ok (.bipush 112, 2) := by decide +kernel
theorem dX9_init_314 : decode cX9_init 314 = .ok (.iastore, 1) := by decide +kernel
theorem dX9_init_315 : decode cX9_init 315 = .ok (.dup, 1) := by decide +kernel
theorem dX9_init_316 : decode cX9_init 316 = .ok (.bipush 43, 2) := by decide +kernel
theorem dX9_init_318 : decode cX9_init 318 = .ok (.bipush 111, 2) := by decide +kernel
theorem dX9_init_320 : decode cX9_init 320 = .ok (.iastore, 1) := by decide +kernel
theorem dX9_init_321 : decode cX9_init 321 = .ok (.dup, 1) := by decide +kernel
theorem dX9_init_322 : decode cX9_init 322 = .ok (.bipush 44, 2) := by decide +kernel
theorem dX9_init_324 : decode cX9_init 324 = .ok (.bipush 111, 2) := by decide +kernel
theorem dX9_init_326 : decode cX9_init 326 = .ok (.iastore, 1) := by decide +kernel
theorem dX9_init_327 : decode cX9_init 327 = .ok (.dup, 1) := by decide +kernel
theorem dX9_init_328 : decode cX9_init 328 = .ok (.bipush 45, 2) := by decide +kernel
theorem dX9_init_330 : decode cX9_init 330 = .ok (.bipush 108, 2) := by decide +kernel
theorem dX9_init_332 : decode cX9_init 332 = .ok (.iastore, 1) := by decide +kernel
theorem dX9_init_333 : decode cX9_init 333 = .ok (.dup, 1) := by decide +kernel
theorem dX9_init_334 : decode cX9_init 334 = .ok (.bipush 46, 2) := by decide +kernel
theorem dX9_init_336 : decode cX9_init 336 = .ok (.bipush 32, 2) := by decide +kernel
theorem dX9_init_338 : decode cX9_init 338 = .ok (.iastore, 1) := by decide +kernel
theorem dX9_init_339 : decode cX9_init 339 = .ok (.dup, 1) := by decide +kernel
theorem dX9_init_340 : decode cX9_init 340 = .ok (.bipush 47, 2) := by decide +kernel
theorem dX9_init_342 : decode cX9_init 342 = .ok (.bipush 32, 2) := by decide +kernel
theorem dX9_init_344 : decode cX9_init 344 = .ok (.iastore, 1) := by decide +kernel
theorem dX9_init_345 : decode cX9_init 345 = .ok (.putfield 33, 3) := by decide +kernel
theorem dX9_init_348 : decode cX9_init 348 = .ok (.aload_n 0, 1) := by decide +kernel
theorem dX9_init_349 : decode cX9_init 349 = .ok (.sipush 3000, 3) := by decide +kernel
theorem dX9_init_352 : decode cX9_init 352 = .ok (.newarray .boolean, 2) := by decide +kernel
theorem dX9_init_354 : decode cX9_init 354 = .ok (.putfield 36, 3) := by decide +kernel
theorem dX9_init_357 : decode cX9_init 357 = .ok (.aload_n 0, 1) := by decide +kernel
theorem dX9_init_358 : decode cX9_init 358 = .ok (.sipush 3000, 3) := by decide +kernel
theorem dX9_init_361 : decode cX9_init 361 = .ok (.newarray .boolean, 2) := by decide +kernel
theorem dX9_init_363 : decode cX9_init 363 = .ok (.putfield 40, 3) := by decide +kernel
theorem dX9_init_366 : decode cX9_init 366 = .ok (.aload_n 0, 1) := by decide +kernel
theorem dX9_init_367 : decode cX9_init 367 = .ok (.bipush 40, 2) := by decide +kernel
theorem dX9_init_369 : decode cX9_init 369 = .ok (.newarray .int, 2) := by decide +kernel
theorem dX9_init_371 : decode cX9_init 371 = .ok (.putfield 43, 3) := by decide +kernel
theorem dX9_init_374 : decode cX9_init 374 = .ok (.return_, 1) := by decide +kernel
theorem dX9_thrown_0 : decode cX9_thrown 0 = .ok (.aload_n 0, 1) := by decide +kernel
theorem dX9_thrown_1 : decode cX9_thrown 1 = .ok (.getfield 46, 3) := by decide +kernel
theorem dX9_thrown_4 : decode cX9_thrown 4 = .ok (.ireturn, 1) := by decide +kernel
theorem dX9_in_0 : decode cX9_in 0 = .ok (.iload_n 0, 1) := by decide +kernel
theorem dX9_in_1 : decode cX9_in 1 = .ok (.iload_n 1, 1) := by decide +kernel
theorem dX9_in_2 : decode cX9_in 2 = .ok (.if_icmp .lt 12, 3) := by decide +kernel
theorem dX9_in_5 : decode cX9_in 5 = .ok (.iload_n 0, 1) := by decide +kernel
theorem dX9_in_6 : decode cX9_in 6 = .ok (.iload_n 2, 1) := by decide +kernel
theorem dX9_in_7 : decode cX9_in 7 = .ok (.if_icmp .gt 7, 3) := by decide +kernel
theorem dX9_in_10 : decode cX9_in 10 = .ok (.iconst 1, 1) := by decide +kernel
theorem dX9_in_11 : decode cX9_in 11 = .ok (.goto 4, 3) := by decide +kernel
theorem dX9_in_14 : decode cX9_in 14 = .ok (.iconst 0, 1) := by decide +kernel
theorem dX9_in_15 : decode cX9_in 15 = .ok (.ireturn, 1) := by decide +kernel
theorem dX9_fails_0 : decode cX9_fails 0 = .ok (.aload_n 0, 1) := by decide +kernel
theorem dX9_fails_1 : decode cX9_fails 1 = .ok (.iload_n 1, 1) := by decide +kernel
theorem dX9_fails_2 : decode cX9_fails 2 = .ok (.putfield 46, 3) := by decide +kernel
theorem dX9_fails_5 : decode cX9_fails 5 = .ok (.iconst 0, 1) := by decide +kernel
theorem dX9_fails_6 : decode cX9_fails 6 = .ok (.ireturn, 1) := by decide +kernel
theorem dX9_done_0 : decode cX9_done 0 = .ok (.aload_n 0, 1) := by decide +kernel
theorem dX9_done_1 : decode cX9_done 1 = .ok (.iconst 0, 1) := by decide +kernel
theorem dX9_done_2 : decode cX9_done 2 = .ok (.putfield 46, 3) := by decide +kernel
theorem dX9_done_5 : decode cX9_done 5 = .ok (.iload_n 1, 1) := by decide +kernel
theorem dX9_done_6 : decode cX9_done 6 = .ok (.ireturn, 1) := by decide +kernel
theorem dX9_kind_0 : decode cX9_kind 0 = .ok (.aload_n 0, 1) := by decide +kernel
theorem dX9_kind_1 : decode cX9_kind 1 = .ok (.getfield 7, 3) := by decide +kernel
theorem dX9_kind_4 : decode cX9_kind 4 = .ok (.iconst 1, 1) := by decide +kernel
theorem dX9_kind_5 : decode cX9_kind 5 = .ok (.iload_n 1, 1) := by decide +kernel
theorem dX9_kind_6 : decode cX9_kind 6 = .ok (.iadd, 1) := by decide +kernel
theorem dX9_kind_7 : decode cX9_kind 7 = .ok (.iaload, 1) := by decide +kernel
theorem dX9_kind_8 : decode cX9_kind 8 = .ok (.ireturn, 1) := by decide +kernel
theorem dX9_operand_0 : decode cX9_operand 0 = .ok (.aload_n 0, 1) := by decide +kernel
theorem dX9_operand_1 : decode cX9_operand 1 = .ok (.getfield 7, 3) := by decide +kernel
theorem dX9_operand_4 : decode cX9_operand 4 = .ok (.bipush 41, 2) := by decide +kernel
theorem dX9_operand_6 : decode cX9_operand 6 = .ok (.iload_n 1, 1) := by decide +kernel
theorem dX9_operand_7 : decode cX9_operand 7 = .ok (.iadd, 1) := by decide +kernel
theorem dX9_operand_8 : decode cX9_operand 8 = .ok (.iaload, 1) := by decide +kernel
theorem dX9_operand_9 : decode cX9_operand 9 = .ok (.ireturn, 1) := by decide +kernel
theorem dX9_form_0 : decode cX9_form 0 = .ok (.aload_n 0, 1) := by decide +kernel
theorem dX9_form_1 : decode cX9_form 1 = .ok (.getfield 7, 3) := by decide +kernel
theorem dX9_form_4 : decode cX9_form 4 = .ok (.bipush 81, 2) := by decide +kernel
theorem dX9_form_6 : decode cX9_form 6 = .ok (.iload_n 1, 1) := by decide +kernel
theorem dX9_form_7 : decode cX9_form 7 = .ok (.iadd, 1) := by decide +kernel
theorem dX9_form_8 : decode cX9_form 8 = .ok (.iaload, 1) := by decide +kernel
theorem dX9_form_9 : decode cX9_form 9 = .ok (.ireturn, 1) := by decide +kernel
theorem dX9_forms_0 : decode cX9_forms 0 = .ok (.aload_n 0, 1) := by decide +kernel
theorem dX9_forms_1 : decode cX9_forms 1 = .ok (.getfield 7, 3) := by decide +kernel
theorem dX9_forms_4 : decode cX9_forms 4 = .ok (.bipush 81, 2) := by decide +kernel
theorem dX9_forms_6 : decode cX9_forms 6 = .ok (.iload_n 1, 1) := by decide +kernel
theorem dX9_forms_7 : decode cX9_forms 7 = .ok (.iadd, 1) := by decide +kernel
theorem dX9_forms_8 : decode cX9_forms 8 = .ok (.iload_n 2, 1) := by decide +kernel
theorem dX9_forms_9 : decode cX9_forms 9 = .ok (.iastore, 1) := by decide +kernel
theorem dX9_forms_10 : decode cX9_forms 10 = .ok (.return_, 1) := by decide +kernel
theorem dX9_isItem_0 : decode cX9_isItem 0 = .ok (.iload_n 1, 1) := by decide +kernel
theorem dX9_isItem_1 : decode cX9_isItem 1 = .ok (.iconst 0, 1) := by decide +kernel
theorem dX9_isItem_2 : decode cX9_isItem 2 = .ok (.aload_n 0, 1) := by decide +kernel
theorem dX9_isItem_3 : decode cX9_isItem 3 = .ok (.getfield 7, 3) := by decide +kernel
theorem dX9_isItem_6 : decode cX9_isItem 6 = .ok (.iconst 0, 1) := by decide +kernel
theorem dX9_isItem_7 : decode cX9_isItem 7 = .ok (.iaload, 1) := by decide +kernel
theorem dX9_isItem_8 : decode cX9_isItem 8 = .ok (.iconst 1, 1) := by decide +kernel
theorem dX9_isItem_9 : decode cX9_isItem 9 = .ok (.isub, 1) := by decide +kernel
theorem dX9_isItem_10 : decode cX9_isItem 10 = .ok (.invokestatic 49, 3) := by decide +kernel
theorem dX9_isItem_13 : decode cX9_isItem 13 = .ok (.ireturn, 1) := by decide +kernel
theorem dX9_isTransfer_0 : decode cX9_isTransfer 0 = .ok (.aload_n 0, 1) := by decide +kernel
theorem dX9_isTransfer_1 : decode cX9_isTransfer 1 = .ok (.iload_n 1, 1) := by decide +kernel
theorem dX9_isTransfer_2 : decode cX9_isTransfer 2 = .ok (.invokevirtual 53, 3) := by decide +kernel
theorem dX9_isTransfer_5 : decode cX9_isTransfer 5 = .ok (.iconst 4, 1) := by decide +kernel
theorem dX9_isTransfer_6 : decode cX9_isTransfer 6 = .ok (.iconst 5, 1) := by decide +kernel
theorem dX9_isTransfer_7 : decode cX9_isTransfer 7 = .ok (.invokestatic 49, 3) := by decide +kernel
theorem dX9_isTransfer_10 : decode cX9_isTransfer 10 = .ok (.ireturn, 1) := by decide +kernel
theorem dX9_remembers_0 : decode cX9_remembers 0 = .ok (.aload_n 0, 1) := by decide +kernel
theorem dX9_remembers_1 : decode cX9_remembers 1 = .ok (.getfield 57, 3) := by decide +kernel
theorem dX9_remembers_4 : decode cX9_remembers 4 = .ok (.bipush 10, 2) := by decide +kernel
theorem dX9_remembers_6 : decode cX9_remembers 6 = .ok (.if_icmp .ne 43, 3) := by decide +kernel
theorem dX9_remembers_9 : decode cX9_remembers 9 = .ok (.iconst 0, 1) := by decide +kernel
theorem dX9_remembers_10 : decode cX9_remembers 10 = .ok (.istore_n 1, 1) := by decide +kernel
theorem dX9_remembers_11 : decode cX9_remembers 11 = .ok (.iload_n 1, 1) := by decide +kernel
theorem dX9_remembers_12 : decode cX9_remembers 12 = .ok (.sipush 1089, 3) := by decide +kernel
theorem dX9_remembers_15 : decode cX9_remembers 15 = .ok (.if_icmp .ge 24, 3) := by decide +kernel
theorem dX9_remembers_18 : decode cX9_remembers 18 = .ok (.aload_n 0, 1) := by decide +kernel
theorem dX9_remembers_19 : decode cX9_remembers 19 = .ok (.getfield 13, 3) := by decide +kernel
theorem dX9_remembers_22 : decode cX9_remembers 22 = .ok (.iload_n 1, 1) := by decide +kernel
theorem dX9_remembers_23 : decode cX9_remembers 23 = .ok (.aload_n 0, 1) := by decide +kernel
theorem dX9_remembers_24 : decode cX9_remembers 24 = .ok (.getfield 13, 3) := by decide +kernel
theorem dX9_remembers_27 : decode cX9_remembers 27 = .ok (.iload_n 1, 1) := by decide +kernel
theorem dX9_remembers_28 : decode cX9_remembers 28 = .ok (.bipush 121, 2) := by decide +kernel
theorem dX9_remembers_30 : decode cX9_remembers 30 = .ok (.iadd, 1) := by decide +kernel
theorem dX9_remembers_31 : decode cX9_remembers 31 = .ok (.iaload, 1) := by decide +kernel
theorem dX9_remembers_32 : decode cX9_remembers 32 = .ok (.iastore, 1) := by decide +kernel
theorem dX9_remembers_33 : decode cX9_remembers 33 = .ok (.iinc 1 1, 3) := by decide +kernel
theorem dX9_remembers_36 : decode cX9_remembers 36 = .ok (.goto (-25), 3) := by decide +kernel
theorem dX9_remembers_39 : decode cX9_remembers 39 = .ok (.aload_n 0, 1) := by decide +kernel
theorem dX9_remembers_40 : decode cX9_remembers 40 = .ok (.dup, 1) := by decide +kernel
theorem dX9_remembers_41 : decode cX9_remembers 41 = .ok (.getfield 57, 3) := by decide +kernel
theorem dX9_remembers_44 : decode cX9_remembers 44 = .ok (.iconst 1, 1) := by decide +kernel
theorem dX9_remembers_45 : decode cX9_remembers 45 = .ok (.isub, 1) := by decide +kernel
theorem dX9_remembers_46 : decode cX9_remembers 46 = .ok (.putfield 57, 3) := by decide +kernel
theorem dX9_remembers_49 : decode cX9_remembers 49 = .ok (.iconst 0, 1) := by decide +kernel
theorem dX9_remembers_50 : decode cX9_remembers 50 = .ok (.istore_n 1, 1) := by decide +kernel
theorem dX9_remembers_51 : decode cX9_remembers 51 = .ok (.iload_n 1, 1) := by decide +kernel
theorem dX9_remembers_52 : decode cX9_remembers 52 = .ok (.bipush 121, 2) := by decide +kernel
theorem dX9_remembers_54 : decode cX9_remembers 54 = .ok (.if_icmp .ge 29, 3) := by decide +kernel
theorem dX9_remembers_57 : decode cX9_remembers 57 = .ok (.aload_n 0, 1) := by decide +kernel
theorem dX9_remembers_58 : decode cX9_remembers 58 = .ok (.getfield 13, 3) := by decide +kernel
theorem dX9_remembers_61 : decode cX9_remembers 61 = .ok (.bipush 121, 2) := by decide +kernel
theorem dX9_remembers_63 : decode cX9_remembers 63 = .ok (.aload_n 0, 1) := by decide +kernel
theorem dX9_remembers_64 : decode cX9_remembers 64 = .ok (.getfield 57, 3) := by decide +kernel
theorem dX9_remembers_67 : decode cX9_remembers 67 = .ok (.imul, 1) := by decide +kernel
theorem dX9_remembers_68 : decode cX9_remembers 68 = .ok (.iload_n 1, 1) := by decide +kernel
theorem dX9_remembers_69 : decode cX9_remembers 69 = .ok (.iadd, 1) := by decide +kernel
theorem dX9_remembers_70 : decode cX9_remembers 70 = .ok (.aload_n 0, 1) := by decide +kernel
theorem dX9_remembers_71 : decode cX9_remembers 71 = .ok (.getfield 7, 3) := by decide +kernel
theorem dX9_remembers_74 : decode cX9_remembers 74 = .ok (.iload_n 1, 1) := by decide +kernel
theorem dX9_remembers_75 : decode cX9_remembers 75 = .ok (.iaload, 1) := by decide +kernel
theorem dX9_remembers_76 : decode cX9_remembers 76 = .ok (.iastore, 1) := by decide +kernel
theorem dX9_remembers_77 : decode cX9_remembers 77 = .ok (.iinc 1 1, 3) := by decide +kernel
theorem dX9_remembers_80 : decode cX9_remembers 80 = .ok (.goto (-29), 3) := by decide +kernel
theorem dX9_remembers_83 : decode cX9_remembers 83 = .ok (.aload_n 0, 1) := by decide +kernel
theorem dX9_remembers_84 : decode cX9_remembers 84 = .ok (.dup, 1) := by decide +kernel
theorem dX9_remembers_85 : decode cX9_remembers 85 = .ok (.getfield 57, 3) := by decide +kernel
theorem dX9_remembers_88 : decode cX9_remembers 88 = .ok (.iconst 1, 1) := by decide +kernel
theorem dX9_remembers_89 : decode cX9_remembers 89 = .ok (.iadd, 1) := by decide +kernel
theorem dX9_remembers_90 : decode cX9_remembers 90 = .ok (.putfield 57, 3) := by decide +kernel
theorem dX9_remembers_93 : decode cX9_remembers 93 = .ok (.return_, 1) := by decide +kernel
theorem dX9_tellValues_0 : decode cX9_tellValues 0 = .ok (.iload_n 1, 1) := by decide +kernel
theorem dX9_tellValues_1 : decode cX9_tellValues 1 = .ok (.istore_n 2, 1) := by decide +kernel
theorem dX9_tellValues_2 : decode cX9_tellValues 2 = .ok (.iload_n 2, 1) := by decide +kernel
theorem dX9_tellValues_3 : decode cX9_tellValues 3 = .ok (.ifCond .le 21, 3) := by decide +kernel
theorem dX9_tellValues_6 : decode cX9_tellValues 6 = .ok (.aload_n 0, 1) := by decide +kernel
theorem dX9_tellValues_7 : decode cX9_tellValues 7 = .ok (.iload_n 2, 1) := by decide +kernel
theorem dX9_tellValues_8 : decode cX9_tellValues 8 = .ok (.iconst 1, 1) := by decide +kernel
theorem dX9_tellValues_9 : decode cX9_tellValues 9 = .ok (.isub, 1) := by decide +kernel
theorem dX9_tellValues_10 : decode cX9_tellValues 10 = .ok (.invokevirtual 53, 3) := by decide +kernel
theorem dX9_tellValues_13 : decode cX9_tellValues 13 = .ok (.bipush 7, 2) := by decide +kernel
theorem dX9_tellValues_15 : decode cX9_tellValues 15 = .ok (.if_icmp .eq 9, 3) := by decide +kernel
theorem dX9_tellValues_18 : decode cX9_tellValues 18 = .ok (.iinc 2 (-1), 3) := by decide +kernel
theorem dX9_tellValues_21 : decode cX9_tellValues 21 = .ok (.goto (-19), 3) := by decide +kernel
theorem dX9_tellValues_24 : decode cX9_tellValues 24 = .ok (.aload_n 0, 1) := by decide +kernel
theorem dX9_tellValues_25 : decode cX9_tellValues 25 = .ok (.iconst 0, 1) := by decide +kernel
theorem dX9_tellValues_26 : decode cX9_tellValues 26 = .ok (.putfield 60, 3) := by decide +kernel
theorem dX9_tellValues_29 : decode cX9_tellValues 29 = .ok (.iload_n 2, 1) := by decide +kernel
theorem dX9_tellValues_30 : decode cX9_tellValues 30 = .ok (.istore_n 3, 1) := by decide +kernel
theorem dX9_tellValues_31 : decode cX9_tellValues 31 = .ok (.iload_n 3, 1) := by decide +kernel
theorem dX9_tellValues_32 : decode cX9_tellValues 32 = .ok (.iload_n 1, 1) := by decide +kernel
theorem dX9_tellValues_33 : decode cX9_tellValues 33 = .ok (.if_icmp .ge 56, 3) := by decide +kernel
theorem dX9_tellValues_36 : decode cX9_tellValues 36 = .ok (.aload_n 0, 1) := by decide +kernel
theorem dX9_tellValues_37 : decode cX9_tellValues 37 = .ok (.iload_n 3, 1) := by decide +kernel
theorem dX9_tellValues_38 : decode cX9_tellValues 38 = .ok (.invokevirtual 53, 3) := by decide +kernel
theorem dX9_tellValues_41 : decode cX9_tellValues 41 = .ok (.bipush 6, 2) := by decide +kernel
theorem dX9_tellValues_43 : decode cX9_tellValues 43 = .ok (.if_icmp .ne 40, 3) := by decide +kernel
theorem dX9_tellValues_46 : decode cX9_tellValues 46 = .ok (.aload_n 0, 1) := by decide +kernel
theorem dX9_tellValues_47 : decode cX9_tellValues 47 = .ok (.aload_n 0, 1) := by decide +kernel
theorem dX9_tellValues_48 : decode cX9_tellValues 48 = .ok (.iload_n 3, 1) := by decide +kernel
theorem dX9_tellValues_49 : decode cX9_tellValues 49 = .ok (.invokevirtual 63, 3) := by decide +kernel
theorem dX9_tellValues_52 : decode cX9_tellValues 52 = .ok (.invokevirtual 66, 3) := by decide +kernel
theorem dX9_tellValues_55 : decode cX9_tellValues 55 = .ok (.iconst (-1), 1) := by decide +kernel
theorem dX9_tellValues_56 : decode cX9_tellValues 56 = .ok (.if_icmp .ne 27, 3) := by decide +kernel
theorem dX9_tellValues_59 : decode cX9_tellValues 59 = .ok (.aload_n 0, 1) := by decide +kernel
theorem dX9_tellValues_60 : decode cX9_tellValues 60 = .ok (.getfield 30, 3) := by decide +kernel
theorem dX9_tellValues_63 : decode cX9_tellValues 63 = .ok (.aload_n 0, 1) := by decide +kernel
theorem dX9_tellValues_64 : decode cX9_tellValues 64 = .ok (.getfield 60, 3) := by decide +kernel
theorem dX9_tellValues_67 : decode cX9_tellValues 67 = .ok (.aload_n 0, 1) := by decide +kernel
theorem dX9_tellValues_68 : decode cX9_tellValues 68 = .ok (.iload_n 3, 1) := by decide +kernel
theorem dX9_tellValues_69 : decode cX9_tellValues 69 = .ok (.invokevirtual 63, 3) := by decide +kernel
theorem dX9_tellValues_72 : decode cX9_tellValues 72 = .ok (.iastore, 1) := by decide +kernel
theorem dX9_tellValues_73 : decode cX9_tellValues 73 = .ok (.aload_n 0, 1) := by decide +kernel
theorem dX9_tellValues_74 : decode cX9_tellValues 74 = .ok (.dup, 1) := by decide +kernel
theorem dX9_tellValues_75 : decode cX9_tellValues 75 = .ok (.getfield 60, 3) := by decide +kernel
theorem dX9_tellValues_78 : decode cX9_tellValues 78 = .ok (.iconst 1, 1) := by decide +kernel
theorem dX9_tellValues_79 : decode cX9_tellValues 79 = .ok (.iadd, 1) := by decide +kernel
theorem dX9_tellValues_80 : decode cX9_tellValues 80 = .ok (.putfield 60, 3) := by decide +kernel
theorem dX9_tellValues_83 : decode cX9_tellValues 83 = .ok (.iinc 3 1, 3) := by decide +kernel
theorem dX9_tellValues_86 : decode cX9_tellValues 86 = .ok (.goto (-55), 3) := by decide +kernel
theorem dX9_tellValues_89 : decode cX9_tellValues 89 = .ok (.return_, 1) := by decide +kernel
theorem dX9_valueAt_0 : decode cX9_valueAt 0 = .ok (.iconst 0, 1) := by decide +kernel
theorem dX9_valueAt_1 : decode cX9_valueAt 1 = .ok (.istore_n 2, 1) := by decide +kernel
theorem dX9_valueAt_2 : decode cX9_valueAt 2 = .ok (.iload_n 2, 1) := by decide +kernel
theorem dX9_valueAt_3 : decode cX9_valueAt 3 = .ok (.aload_n 0, 1) := by decide +kernel
theorem dX9_valueAt_4 : decode cX9_valueAt 4 = .ok (.getfield 60, 3) := by decide +kernel
theorem dX9_valueAt_7 : decode cX9_valueAt 7 = .ok (.if_icmp .ge 21, 3) := by decide +kernel
theorem dX9_valueAt_10 : decode cX9_valueAt 10 = .ok (.aload_n 0, 1) := by decide +kernel
theorem dX9_valueAt_11 : decode cX9_valueAt 11 = .ok (.getfield 30, 3) := by decide +kernel
theorem dX9_valueAt_14 : decode cX9_valueAt 14 = .ok (.iload_n 2, 1) := by decide +kernel
theorem dX9_valueAt_15 : decode cX9_valueAt 15 = .ok (.iaload, 1) := by decide +kernel
theorem dX9_valueAt_16 : decode cX9_valueAt 16 = .ok (.iload_n 1, 1) := by decide +kernel
theorem dX9_valueAt_17 : decode cX9_valueAt 17 = .ok (.if_icmp .ne 5, 3) := by decide +kernel
theorem dX9_valueAt_20 : decode cX9_valueAt 20 = .ok (.iload_n 2, 1) := by decide +kernel
theorem dX9_valueAt_21 : decode cX9_valueAt 21 = .ok (.ireturn, 1) := by decide +kernel
theorem dX9_valueAt_22 : decode cX9_valueAt 22 = .ok (.iinc 2 1, 3) := by decide +kernel
theorem dX9_valueAt_25 : decode cX9_valueAt 25 = .ok (.goto (-23), 3) := by decide +kernel
theorem dX9_valueAt_28 : decode cX9_valueAt 28 = .ok (.iconst (-1), 1) := by decide +kernel
theorem dX9_valueAt_29 : decode cX9_valueAt 29 = .ok (.ireturn, 1) := by decide +kernel
theorem dX9_upTo_0 : decode cX9_upTo 0 = .ok (.iload_n 0, 1) := by decide +kernel
theorem dX9_upTo_1 : decode cX9_upTo 1 = .ok (.iload_n 1, 1) := by decide +kernel
theorem dX9_upTo_2 : decode cX9_upTo 2 = .ok (.iadd, 1) := by decide +kernel
theorem dX9_upTo_3 : decode cX9_upTo 3 = .ok (.iconst 1, 1) := by decide +kernel
theorem dX9_upTo_4 : decode cX9_upTo 4 = .ok (.isub, 1) := by decide +kernel
theorem dX9_upTo_5 : decode cX9_upTo 5 = .ok (.iload_n 1, 1) := by decide +kernel
theorem dX9_upTo_6 : decode cX9_upTo 6 = .ok (.idiv, 1) := by decide +kernel
theorem dX9_upTo_7 : decode cX9_upTo 7 = .ok (.iload_n 1, 1) := by decide +kernel
theorem dX9_upTo_8 : decode cX9_upTo 8 = .ok (.imul, 1) := by decide +kernel
theorem dX9_upTo_9 : decode cX9_upTo 9 = .ok (.ireturn, 1) := by decide +kernel
theorem dX9_poolSize_0 : decode cX9_poolSize 0 = .ok (.aload_n 0, 1) := by decide +kernel
theorem dX9_poolSize_1 : decode cX9_poolSize 1 = .ok (.iload_n 1, 1) := by decide +kernel
theorem dX9_poolSize_2 : decode cX9_poolSize 2 = .ok (.invokevirtual 69, 3) := by decide +kernel
theorem dX9_poolSize_5 : decode cX9_poolSize 5 = .ok (.aload_n 0, 1) := by decide +kernel
theorem dX9_poolSize_6 : decode cX9_poolSize 6 = .ok (.getfield 60, 3) := by decide +kernel
theorem dX9_poolSize_9 : decode cX9_poolSize 9 = .ok (.ifCond .ne 7, 3) := by decide +kernel
theorem dX9_poolSize_12 : decode cX9_poolSize 12 = .ok (.iconst 0, 1) := by decide +kernel
theorem dX9_poolSize_13 : decode cX9_poolSize 13 = .ok (.goto 17, 3) := by decide +kernel
theorem dX9_poolSize_16 : decode cX9_poolSize 16 = .ok (.iload_n 2, 1) := by decide +kernel
theorem dX9_poolSize_17 : decode cX9_poolSize 17 = .ok (.iconst 4, 1) := by decide +kernel
theorem dX9_poolSize_18 : decode cX9_poolSize 18 = .ok (.invokestatic 73, 3) := by decide +kernel
theorem dX9_poolSize_21 : decode cX9_poolSize 21 = .ok (.iload_n 2, 1) := by decide +kernel
theorem dX9_poolSize_22 : decode cX9_poolSize 22 = .ok (.isub, 1) := by decide +kernel
theorem dX9_poolSize_23 : decode cX9_poolSize 23 = .ok (.iconst 4, 1) := by decide +kernel
theorem dX9_poolSize_24 : decode cX9_poolSize 24 = .ok (.aload_n 0, 1) := by decide +kernel
theorem dX9_poolSize_25 : decode cX9_poolSize 25 = .ok (.getfield 60, 3) := by decide +kernel
theorem dX9_poolSize_28 : decode cX9_poolSize 28 = .ok (.imul, 1) := by decide +kernel
theorem dX9_poolSize_29 : decode cX9_poolSize 29 = .ok (.iadd, 1) := by decide +kernel
theorem dX9_poolSize_30 : decode cX9_poolSize 30 = .ok (.ireturn, 1) := by decide +kernel
theorem dX9_transferSize_0 : decode cX9_transferSize 0 = .ok (.iload_n 1, 1) := by decide +kernel
theorem dX9_transferSize_1 : decode cX9_transferSize 1 = .ok (.ifCond .ne 7, 3) := by decide +kernel
theorem dX9_transferSize_4 : decode cX9_transferSize 4 = .ok (.iconst 2, 1) := by decide +kernel
theorem dX9_transferSize_5 : decode cX9_transferSize 5 = .ok (.goto 32, 3) := by decide +kernel
theorem dX9_transferSize_8 : decode cX9_transferSize 8 = .ok (.iload_n 0, 1) := by decide +kernel
theorem dX9_transferSize_9 : decode cX9_transferSize 9 = .ok (.iconst 4, 1) := by decide +kernel
theorem dX9_transferSize_10 : decode cX9_transferSize 10 = .ok (.if_icmp .ne 16, 3) := by decide +kernel
theorem dX9_transferSize_13 : decode cX9_transferSize 13 = .ok (.iload_n 1, 1) := by decide +kernel
theorem dX9_transferSize_14 : decode cX9_transferSize 14 = .ok (.iconst 1, 1) := by decide +kernel
theorem dX9_transferSize_15 : decode cX9_transferSize 15 = .ok (.if_icmp .ne 7, 3) := by decide +kernel
theorem dX9_transferSize_18 : decode cX9_transferSize 18 = .ok (.iconst 3, 1) := by decide +kernel
theorem dX9_transferSize_19 : decode cX9_transferSize 19 = .ok (.goto 18, 3) := by decide +kernel
theorem dX9_transferSize_22 : decode cX9_transferSize 22 = .ok (.iconst 5, 1) := by decide +kernel
theorem dX9_transferSize_23 : decode cX9_transferSize 23 = .ok (.goto 14, 3) := by decide +kernel
theorem dX9_transferSize_26 : decode cX9_transferSize 26 = .ok (.iload_n 1, 1) := by decide +kernel
theorem dX9_transferSize_27 : decode cX9_transferSize 27 = .ok (.iconst 1, 1) := by decide +kernel
theorem dX9_transferSize_28 : decode cX9_transferSize 28 = .ok (.if_icmp .ne 7, 3) := by decide +kernel
theorem dX9_transferSize_31 : decode cX9_transferSize 31 = .ok (.iconst 4, 1) := by decide +kernel
theorem dX9_transferSize_32 : decode cX9_transferSize 32 = .ok (.goto 5, 3) := by decide +kernel
theorem dX9_transferSize_35 : decode cX9_transferSize 35 = .ok (.bipush 7, 2) := by decide +kernel
theorem dX9_transferSize_37 : decode cX9_transferSize 37 = .ok (.ireturn, 1) := by decide +kernel
theorem dX9_sizeAt_0 : decode cX9_sizeAt 0 = .ok (.aload_n 0, 1) := by decide +kernel
theorem dX9_sizeAt_1 : decode cX9_sizeAt 1 = .ok (.iload_n 1, 1) := by decide +kernel
theorem dX9_sizeAt_2 : decode cX9_sizeAt 2 = .ok (.invokevirtual 53, 3) := by decide +kernel
theorem dX9_sizeAt_5 : decode cX9_sizeAt 5 = .ok (.tableswitch 86 0 7 #[47, 47, 86, 53, 67, 67, 77, 79], 47) := by decide +kernel
theorem dX9_sizeAt_52 : decode cX9_sizeAt 52 = .ok (.aload_n 0, 1) := by decide +kernel
theorem dX9_sizeAt_53 : decode cX9_sizeAt 53 = .ok (.iload_n 1, 1) := by decide +kernel
theorem dX9_sizeAt_54 : decode cX9_sizeAt 54 = .ok (.invokevirtual 63, 3) := by decide +kernel
theorem dX9_sizeAt_57 : decode cX9_sizeAt 57 = .ok (.ireturn, 1) := by decide +kernel
theorem dX9_sizeAt_58 : decode cX9_sizeAt 58 = .ok (.iload_n 2, 1) := by decide +kernel
theorem dX9_sizeAt_59 : decode cX9_sizeAt 59 = .ok (.iconst 1, 1) := by decide +kernel
theorem dX9_sizeAt_60 : decode cX9_sizeAt 60 = .ok (.aload_n 0, 1) := by decide +kernel
theorem dX9_sizeAt_61 : decode cX9_sizeAt 61 = .ok (.iload_n 1, 1) := by decide +kernel
theorem dX9_sizeAt_62 : decode cX9_sizeAt 62 = .ok (.invokevirtual 63, 3) := by decide +kernel
theorem dX9_sizeAt_65 : decode cX9_sizeAt 65 = .ok (.ishl, 1) := by decide +kernel
theorem dX9_sizeAt_66 : decode cX9_sizeAt 66 = .ok (.invokestatic 73, 3) := by decide +kernel
theorem dX9_sizeAt_69 : decode cX9_sizeAt 69 = .ok (.iload_n 2, 1) := by decide +kernel
theorem dX9_sizeAt_70 : decode cX9_sizeAt 70 = .ok (.isub, 1) := by decide +kernel
theorem dX9_sizeAt_71 : decode cX9_sizeAt 71 = .ok (.ireturn, 1) := by decide +kernel
theorem dX9_sizeAt_72 : decode cX9_sizeAt 72 = .ok (.aload_n 0, 1) := by decide +kernel
theorem dX9_sizeAt_73 : decode cX9_sizeAt 73 = .ok (.iload_n 1, 1) := by decide +kernel
theorem dX9_sizeAt_74 : decode cX9_sizeAt 74 = .ok (.invokevirtual 53, 3) := by decide +kernel
theorem dX9_sizeAt_77 : decode cX9_sizeAt 77 = .ok (.iload_n 3, 1) := by decide +kernel
theorem dX9_sizeAt_78 : decode cX9_sizeAt 78 = .ok (.invokestatic 77, 3) := by decide +kernel
theorem dX9_sizeAt_81 : decode cX9_sizeAt 81 = .ok (.ireturn, 1) := by decide +kernel
theorem dX9_sizeAt_82 : decode cX9_sizeAt 82 = .ok (.iconst 2, 1) := by decide +kernel
theorem dX9_sizeAt_83 : decode cX9_sizeAt 83 = .ok (.ireturn, 1) := by decide +kernel
theorem dX9_sizeAt_84 : decode cX9_sizeAt 84 = .ok (.aload_n 0, 1) := by decide +kernel
theorem dX9_sizeAt_85 : decode cX9_sizeAt 85 = .ok (.iload_n 1, 1) := by decide +kernel
theorem dX9_sizeAt_86 : decode cX9_sizeAt 86 = .ok (.iload_n 2, 1) := by decide +kernel
theorem dX9_sizeAt_87 : decode cX9_sizeAt 87 = .ok (.invokevirtual 80, 3) := by decide +kernel
theorem dX9_sizeAt_90 : decode cX9_sizeAt 90 = .ok (.ireturn, 1) := by decide +kernel
theorem dX9_sizeAt_91 : decode cX9_sizeAt 91 = .ok (.iconst 0, 1) := by decide +kernel
theorem dX9_sizeAt_92 : decode cX9_sizeAt 92 = .ok (.ireturn, 1) := by decide +kernel
theorem dX9_lays_0 : decode cX9_lays 0 = .ok (.iconst 0, 1) := by decide +kernel
theorem dX9_lays_1 : decode cX9_lays 1 = .ok (.istore_n 1, 1) := by decide +kernel
theorem dX9_lays_2 : decode cX9_lays 2 = .ok (.iconst 0, 1) := by decide +kernel
theorem dX9_lays_3 : decode cX9_lays 3 = .ok (.istore_n 2, 1) := by decide +kernel
theorem dX9_lays_4 : decode cX9_lays 4 = .ok (.iload_n 2, 1) := by decide +kernel
theorem dX9_lays_5 : decode cX9_lays 5 = .ok (.aload_n 0, 1) := by decide +kernel
theorem dX9_lays_6 : decode cX9_lays 6 = .ok (.getfield 7, 3) := by decide +kernel
theorem dX9_lays_9 : decode cX9_lays 9 = .ok (.iconst 0, 1) := by decide +kernel
theorem dX9_lays_10 : decode cX9_lays 10 = .ok (.iaload, 1) := by decide +kernel
theorem dX9_lays_11 : decode cX9_lays 11 = .ok (.if_icmp .ge 30, 3) := by decide +kernel
theorem dX9_lays_14 : decode cX9_lays 14 = .ok (.aload_n 0, 1) := by decide +kernel
theorem dX9_lays_15 : decode cX9_lays 15 = .ok (.getfield 27, 3) := by decide +kernel
theorem dX9_lays_18 : decode cX9_lays 18 = .ok (.iload_n 2, 1) := by decide +kernel
theorem dX9_lays_19 : decode cX9_lays 19 = .ok (.iload_n 1, 1) := by decide +kernel
theorem dX9_lays_20 : decode cX9_lays 20 = .ok (.iastore, 1) := by decide +kernel
theorem dX9_lays_21 : decode cX9_lays 21 = .ok (.iload_n 1, 1) := by decide +kernel
theorem dX9_lays_22 : decode cX9_lays 22 = .ok (.aload_n 0, 1) := by decide +kernel
theorem dX9_lays_23 : decode cX9_lays 23 = .ok (.iload_n 2, 1) := by decide +kernel
theorem dX9_lays_24 : decode cX9_lays 24 = .ok (.iload_n 1, 1) := by decide +kernel
theorem dX9_lays_25 : decode cX9_lays 25 = .ok (.aload_n 0, 1) := by decide +kernel
theorem dX9_lays_26 : decode cX9_lays 26 = .ok (.iload_n 2, 1) := by decide +kernel
theorem dX9_lays_27 : decode cX9_lays 27 = .ok (.invokevirtual 83, 3) := by decide +kernel
theorem dX9_lays_30 : decode cX9_lays 30 = .ok (.invokevirtual 86, 3) := by decide +kernel
theorem dX9_lays_33 : decode cX9_lays 33 = .ok (.iadd, 1) := by decide +kernel
theorem dX9_lays_34 : decode cX9_lays 34 = .ok (.istore_n 1, 1) := by decide +kernel
theorem dX9_lays_35 : decode cX9_lays 35 = .ok (.iinc 2 1, 3) := by decide +kernel
theorem dX9_lays_38 : decode cX9_lays 38 = .ok (.goto (-34), 3) := by decide +kernel
theorem dX9_lays_41 : decode cX9_lays 41 = .ok (.aload_n 0, 1) := by decide +kernel
theorem dX9_lays_42 : decode cX9_lays 42 = .ok (.getfield 27, 3) := by decide +kernel
theorem dX9_lays_45 : decode cX9_lays 45 = .ok (.aload_n 0, 1) := by decide +kernel
theorem dX9_lays_46 : decode cX9_lays 46 = .ok (.getfield 7, 3) := by decide +kernel
theorem dX9_lays_49 : decode cX9_lays 49 = .ok (.iconst 0, 1) := by decide +kernel
theorem dX9_lays_50 : decode cX9_lays 50 = .ok (.iaload, 1) := by decide +kernel
theorem dX9_lays_51 : decode cX9_lays 51 = .ok (.iload_n 1, 1) := by decide +kernel
theorem dX9_lays_52 : decode cX9_lays 52 = .ok (.iastore, 1) := by decide +kernel
theorem dX9_lays_53 : decode cX9_lays 53 = .ok (.return_, 1) := by decide +kernel
theorem dX9_total_0 : decode cX9_total 0 = .ok (.aload_n 0, 1) := by decide +kernel
theorem dX9_total_1 : decode cX9_total 1 = .ok (.getfield 27, 3) := by decide +kernel
theorem dX9_total_4 : decode cX9_total 4 = .ok (.aload_n 0, 1) := by decide +kernel
theorem dX9_total_5 : decode cX9_total 5 = .ok (.getfield 7, 3) := by decide +kernel
theorem dX9_total_8 : decode cX9_total 8 = .ok (.iconst 0, 1) := by decide +kernel
theorem dX9_total_9 : decode cX9_total 9 = .ok (.iaload, 1) := by decide +kernel
theorem dX9_total_10 : decode cX9_total 10 = .ok (.iaload, 1) := by decide +kernel
theorem dX9_total_11 : decode cX9_total 11 = .ok (.aload_n 0, 1) := by decide +kernel
theorem dX9_total_12 : decode cX9_total 12 = .ok (.aload_n 0, 1) := by decide +kernel
theorem dX9_total_13 : decode cX9_total 13 = .ok (.getfield 7, 3) := by decide +kernel
theorem dX9_total_16 : decode cX9_total 16 = .ok (.iconst 0, 1) := by decide +kernel
theorem dX9_total_17 : decode cX9_total 17 = .ok (.iaload, 1) := by decide +kernel
theorem dX9_total_18 : decode cX9_total 18 = .ok (.aload_n 0, 1) := by decide +kernel
theorem dX9_total_19 : decode cX9_total 19 = .ok (.getfield 27, 3) := by decide +kernel
theorem dX9_total_22 : decode cX9_total 22 = .ok (.aload_n 0, 1) := by decide +kernel
theorem dX9_total_23 : decode cX9_total 23 = .ok (.getfield 7, 3) := by decide +kernel
theorem dX9_total_26 : decode cX9_total 26 = .ok (.iconst 0, 1) := by decide +kernel
theorem dX9_total_27 : decode cX9_total 27 = .ok (.iaload, 1) := by decide +kernel
theorem dX9_total_28 : decode cX9_total 28 = .ok (.iaload, 1) := by decide +kernel
theorem dX9_total_29 : decode cX9_total 29 = .ok (.invokevirtual 80, 3) := by decide +kernel
theorem dX9_total_32 : decode cX9_total 32 = .ok (.iadd, 1) := by decide +kernel
theorem dX9_total_33 : decode cX9_total 33 = .ok (.ireturn, 1) := by decide +kernel
theorem dX9_defines_0 : decode cX9_defines 0 = .ok (.iconst 0, 1) := by decide +kernel
theorem dX9_defines_1 : decode cX9_defines 1 = .ok (.istore_n 2, 1) := by decide +kernel
theorem dX9_defines_2 : decode cX9_defines 2 = .ok (.iload_n 2, 1) := by decide +kernel
theorem dX9_defines_3 : decode cX9_defines 3 = .ok (.aload_n 0, 1) := by decide +kernel
theorem dX9_defines_4 : decode cX9_defines 4 = .ok (.getfield 7, 3) := by decide +kernel
theorem dX9_defines_7 : decode cX9_defines 7 = .ok (.iconst 0, 1) := by decide +kernel
theorem dX9_defines_8 : decode cX9_defines 8 = .ok (.iaload, 1) := by decide +kernel
theorem dX9_defines_9 : decode cX9_defines 9 = .ok (.if_icmp .ge 29, 3) := by decide +kernel
theorem dX9_defines_12 : decode cX9_defines 12 = .ok (.aload_n 0, 1) := by decide +kernel
theorem dX9_defines_13 : decode cX9_defines 13 = .ok (.iload_n 2, 1) := by decide +kernel
theorem dX9_defines_14 : decode cX9_defines 14 = .ok (.invokevirtual 53, 3) := by decide +kernel
theorem dX9_defines_17 : decode cX9_defines 17 = .ok (.iconst 2, 1) := by decide +kernel
theorem dX9_defines_18 : decode cX9_defines 18 = .ok (.if_icmp .ne 14, 3) := by decide +kernel
theorem dX9_defines_21 : decode cX9_defines 21 = .ok (.aload_n 0, 1) := by decide +kernel
theorem dX9_defines_22 : decode cX9_defines 22 = .ok (.iload_n 2, 1) := by decide +kernel
theorem dX9_defines_23 : decode cX9_defines 23 = .ok (.invokevirtual 63, 3) := by decide +kernel
theorem dX9_defines_26 : decode cX9_defines 26 = .ok (.iload_n 1, 1) := by decide +kernel
theorem dX9_defines_27 : decode cX9_defines 27 = .ok (.if_icmp .ne 5, 3) := by decide +kernel
theorem dX9_defines_30 : decode cX9_defines 30 = .ok (.iload_n 2, 1) := by decide +kernel
theorem dX9_defines_31 : decode cX9_defines 31 = .ok (.ireturn, 1) := by decide +kernel
theorem dX9_defines_32 : decode cX9_defines 32 = .ok (.iinc 2 1, 3) := by decide +kernel
theorem dX9_defines_35 : decode cX9_defines 35 = .ok (.goto (-33), 3) := by decide +kernel
theorem dX9_defines_38 : decode cX9_defines 38 = .ok (.iconst (-1), 1) := by decide +kernel
theorem dX9_defines_39 : decode cX9_defines 39 = .ok (.ireturn, 1) := by decide +kernel
theorem dX9_reset_0 : decode cX9_reset 0 = .ok (.aload_n 0, 1) := by decide +kernel
theorem dX9_reset_1 : decode cX9_reset 1 = .ok (.getfield 7, 3) := by decide +kernel
theorem dX9_reset_4 : decode cX9_reset 4 = .ok (.iconst 0, 1) := by decide +kernel
theorem dX9_reset_5 : decode cX9_reset 5 = .ok (.iaload, 1) := by decide +kernel
theorem dX9_reset_6 : decode cX9_reset 6 = .ok (.istore_n 1, 1) := by decide +kernel
theorem dX9_reset_7 : decode cX9_reset 7 = .ok (.iconst 0, 1) := by decide +kernel
