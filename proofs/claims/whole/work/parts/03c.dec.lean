theorem dX11_init_0 : decode cX11_init 0 = .ok (.aload_n 0, 1) := by decide +kernel
theorem dX11_init_1 : decode cX11_init 1 = .ok (.invokespecial 1, 3) := by decide +kernel
theorem dX11_init_4 : decode cX11_init 4 = .ok (.aload_n 0, 1) := by decide +kernel
theorem dX11_init_5 : decode cX11_init 5 = .ok (.sipush 336, 3) := by decide +kernel
theorem dX11_init_8 : decode cX11_init 8 = .ok (.newarray .int, 2) := by decide +kernel
theorem dX11_init_10 : decode cX11_init 10 = .ok (.putfield 7, 3) := by decide +kernel
theorem dX11_init_13 : decode cX11_init 13 = .ok (.aload_n 0, 1) := by decide +kernel
theorem dX11_init_14 : decode cX11_init 14 = .ok (.bipush 20, 2) := by decide +kernel
theorem dX11_init_16 : decode cX11_init 16 = .ok (.newarray .int, 2) := by decide +kernel
theorem dX11_init_18 : decode cX11_init 18 = .ok (.dup, 1) := by decide +kernel
theorem dX11_init_19 : decode cX11_init 19 = .ok (.iconst 0, 1) := by decide +kernel
theorem dX11_init_20 : decode cX11_init 20 = .ok (.bipush 10, 2) := by decide +kernel
theorem dX11_init_22 : decode cX11_init 22 = .ok (.iastore, 1) := by decide +kernel
theorem dX11_init_23 : decode cX11_init 23 = .ok (.dup, 1) := by decide +kernel
theorem dX11_init_24 : decode cX11_init 24 = .ok (.iconst 1, 1) := by decide +kernel
theorem dX11_init_25 : decode cX11_init 25 = .ok (.bipush 10, 2) := by decide +kernel
theorem dX11_init_27 : decode cX11_init 27 = .ok (.iastore, 1) := by decide +kernel
theorem dX11_init_28 : decode cX11_init 28 = .ok (.dup, 1) := by decide +kernel
theorem dX11_init_29 : decode cX11_init 29 = .ok (.iconst 2, 1) := by decide +kernel
theorem dX11_init_30 : decode cX11_init 30 = .ok (.bipush 10, 2) := by decide +kernel
theorem dX11_init_32 : decode cX11_init 32 = .ok (.iastore, 1) := by decide +kernel
theorem dX11_init_33 : decode cX11_init 33 = .ok (.dup, 1) := by decide +kernel
theorem dX11_init_34 : decode cX11_init 34 = .ok (.iconst 3, 1) := by decide +kernel
theorem dX11_init_35 : decode cX11_init 35 = .ok (.bipush 10, 2) := by decide +kernel
theorem dX11_init_37 : decode cX11_init 37 = .ok (.iastore, 1) := by decide +kernel
theorem dX11_init_38 : decode cX11_init 38 = .ok (.dup, 1) := by decide +kernel
theorem dX11_init_39 : decode cX11_init 39 = .ok (.iconst 4, 1) := by decide +kernel
theorem dX11_init_40 : decode cX11_init 40 = .ok (.bipush 10, 2) := by decide +kernel
theorem dX11_init_42 : decode cX11_init 42 = .ok (.iastore, 1) := by decide +kernel
theorem dX11_init_43 : decode cX11_init 43 = .ok (.dup, 1) := by decide +kernel
theorem dX11_init_44 : decode cX11_init 44 = .ok (.iconst 5, 1) := by decide +kernel
theorem dX11_init_45 : decode cX11_init 45 = .ok (.bipush 10, 2) := by decide +kernel
theorem dX11_init_47 : decode cX11_init 47 = .ok (.iastore, 1) := by decide +kernel
theorem dX11_init_48 : decode cX11_init 48 = .ok (.dup, 1) := by decide +kernel
theorem dX11_init_49 : decode cX11_init 49 = .ok (.bipush 6, 2) := by decide +kernel
theorem dX11_init_51 : decode cX11_init 51 = .ok (.bipush 10, 2) := by decide +kernel
theorem dX11_init_53 : decode cX11_init 53 = .ok (.iastore, 1) := by decide +kernel
theorem dX11_init_54 : decode cX11_init 54 = .ok (.dup, 1) := by decide +kernel
theorem dX11_init_55 : decode cX11_init 55 = .ok (.bipush 7, 2) := by decide +kernel
theorem dX11_init_57 : decode cX11_init 57 = .ok (.bipush 10, 2) := by decide +kernel
theorem dX11_init_59 : decode cX11_init 59 = .ok (.iastore, 1) := by decide +kernel
theorem dX11_init_60 : decode cX11_init 60 = .ok (.dup, 1) := by decide +kernel
theorem dX11_init_61 : decode cX11_init 61 = .ok (.bipush 8, 2) := by decide +kernel
theorem dX11_init_63 : decode cX11_init 63 = .ok (.bipush 10, 2) := by decide +kernel
theorem dX11_init_65 : decode cX11_init 65 = .ok (.iastore, 1) := by decide +kernel
theorem dX11_init_66 : decode cX11_init 66 = .ok (.dup, 1) := by decide +kernel
theorem dX11_init_67 : decode cX11_init 67 = .ok (.bipush 9, 2) := by decide +kernel
theorem dX11_init_69 : decode cX11_init 69 = .ok (.bipush 10, 2) := by decide +kernel
theorem dX11_init_71 : decode cX11_init 71 = .ok (.iastore, 1) := by decide +kernel
theorem dX11_init_72 : decode cX11_init 72 = .ok (.dup, 1) := by decide +kernel
theorem dX11_init_73 : decode cX11_init 73 = .ok (.bipush 10, 2) := by decide +kernel
theorem dX11_init_75 : decode cX11_init 75 = .ok (.bipush 10, 2) := by decide +kernel
theorem dX11_init_77 : decode cX11_init 77 = .ok (.iastore, 1) := by decide +kernel
theorem dX11_init_78 : decode cX11_init 78 = .ok (.dup, 1) := by decide +kernel
theorem dX11_init_79 : decode cX11_init 79 = .ok (.bipush 11, 2) := by decide +kernel
theorem dX11_init_81 : decode cX11_init 81 = .ok (.bipush 10, 2) := by decide +kernel
theorem dX11_init_83 : decode cX11_init 83 = .ok (.iastore, 1) := by decide +kernel
theorem dX11_init_84 : decode cX11_init 84 = .ok (.dup, 1) := by decide +kernel
theorem dX11_init_85 : decode cX11_init 85 = .ok (.bipush 12, 2) := by decide +kernel
theorem dX11_init_87 : decode cX11_init 87 = .ok (.bipush 10, 2) := by decide +kernel
theorem dX11_init_89 : decode cX11_init 89 = .ok (.iastore, 1) := by decide +kernel
theorem dX11_init_90 : decode cX11_init 90 = .ok (.dup, 1) := by decide +kernel
theorem dX11_init_91 : decode cX11_init 91 = .ok (.bipush 13, 2) := by decide +kernel
theorem dX11_init_93 : decode cX11_init 93 = .ok (.bipush 10, 2) := by decide +kernel
theorem dX11_init_95 : decode cX11_init 95 = .ok (.iastore, 1) := by decide +kernel
theorem dX11_init_96 : decode cX11_init 96 = .ok (.dup, 1) := by decide +kernel
theorem dX11_init_97 : decode cX11_init 97 = .ok (.bipush 14, 2) := by decide +kernel
theorem dX11_init_99 : decode cX11_init 99 = .ok (.bipush 10, 2) := by decide +kernel
theorem dX11_init_101 : decode cX11_init 101 = .ok (.iastore, 1) := by decide +kernel
theorem dX11_init_102 : decode cX11_init 102 = .ok (.dup, 1) := by decide +kernel
theorem dX11_init_103 : decode cX11_init 103 = .ok (.bipush 15, 2) := by decide +kernel
theorem dX11_init_105 : decode cX11_init 105 = .ok (.bipush 10, 2) := by decide +kernel
theorem dX11_init_107 : decode cX11_init 107 = .ok (.iastore, 1) := by decide +kernel
theorem dX11_init_108 : decode cX11_init 108 = .ok (.dup, 1) := by decide +kernel
theorem dX11_init_109 : decode cX11_init 109 = .ok (.bipush 16, 2) := by decide +kernel
theorem dX11_init_111 : decode cX11_init 111 = .ok (.bipush 10, 2) := by decide +kernel
theorem dX11_init_113 : decode cX11_init 113 = .ok (.iastore, 1) := by decide +kernel
theorem dX11_init_114 : decode cX11_init 114 = .ok (.dup, 1) := by decide +kernel
theorem dX11_init_115 : decode cX11_init 115 = .ok (.bipush 17, 2) := by decide +kernel
theorem dX11_init_117 : decode cX11_init 117 = .ok (.bipush 10, 2) := by decide +kernel
theorem dX11_init_119 : decode cX11_init 119 = .ok (.iastore, 1) := by decide +kernel
theorem dX11_init_120 : decode cX11_init 120 = .ok (.dup, 1) := by decide +kernel
theorem dX11_init_121 : decode cX11_init 121 = .ok (.bipush 18, 2) := by decide +kernel
theorem dX11_init_123 : decode cX11_init 123 = .ok (.bipush 10, 2) := by decide +kernel
theorem dX11_init_125 : decode cX11_init 125 = .ok (.iastore, 1) := by decide +kernel
theorem dX11_init_126 : decode cX11_init 126 = .ok (.dup, 1) := by decide +kernel
theorem dX11_init_127 : decode cX11_init 127 = .ok (.bipush 19, 2) := by decide +kernel
theorem dX11_init_129 : decode cX11_init 129 = .ok (.bipush 10, 2) := by decide +kernel
theorem dX11_init_131 : decode cX11_init 131 = .ok (.iastore, 1) := by decide +kernel
theorem dX11_init_132 : decode cX11_init 132 = .ok (.putfield 13, 3) := by decide +kernel
theorem dX11_init_135 : decode cX11_init 135 = .ok (.aload_n 0, 1) := by decide +kernel
theorem dX11_init_136 : decode cX11_init 136 = .ok (.bipush 80, 2) := by decide +kernel
theorem dX11_init_138 : decode cX11_init 138 = .ok (.newarray .int, 2) := by decide +kernel
theorem dX11_init_140 : decode cX11_init 140 = .ok (.putfield 16, 3) := by decide +kernel
theorem dX11_init_143 : decode cX11_init 143 = .ok (.aload_n 0, 1) := by decide +kernel
theorem dX11_init_144 : decode cX11_init 144 = .ok (.bipush 10, 2) := by decide +kernel
theorem dX11_init_146 : decode cX11_init 146 = .ok (.newarray .int, 2) := by decide +kernel
theorem dX11_init_148 : decode cX11_init 148 = .ok (.putfield 19, 3) := by decide +kernel
theorem dX11_init_151 : decode cX11_init 151 = .ok (.aload_n 0, 1) := by decide +kernel
theorem dX11_init_152 : decode cX11_init 152 = .ok (.iconst 4, 1) := by decide +kernel
theorem dX11_init_153 : decode cX11_init 153 = .ok (.newarray .int, 2) := by decide +kernel
theorem dX11_init_155 : decode cX11_init 155 = .ok (.dup, 1) := by decide +kernel
theorem dX11_init_156 : decode cX11_init 156 = .ok (.iconst 0, 1) := by decide +kernel
theorem dX11_init_157 : decode cX11_init 157 = .ok (.bipush 10, 2) := by decide +kernel
theorem dX11_init_159 : decode cX11_init 159 = .ok (.iastore, 1) := by decide +kernel
theorem dX11_init_160 : decode cX11_init 160 = .ok (.dup, 1) := by decide +kernel
theorem dX11_init_161 : decode cX11_init 161 = .ok (.iconst 1, 1) := by decide +kernel
theorem dX11_init_162 : decode cX11_init 162 = .ok (.iconst 2, 1) := by decide +kernel
theorem dX11_init_163 : decode cX11_init 163 = .ok (.iastore, 1) := by decide +kernel
theorem dX11_init_164 : decode cX11_init 164 = .ok (.dup, 1) := by decide +kernel
theorem dX11_init_165 : decode cX11_init 165 = .ok (.iconst 2, 1) := by decide +kernel
theorem dX11_init_166 : decode cX11_init 166 = .ok (.iconst 1, 1) := by decide +kernel
theorem dX11_init_167 : decode cX11_init 167 = .ok (.iastore, 1) := by decide +kernel
theorem dX11_init_168 : decode cX11_init 168 = .ok (.dup, 1) := by decide +kernel
theorem dX11_init_169 : decode cX11_init 169 = .ok (.iconst 3, 1) := by decide +kernel
theorem dX11_init_170 : decode cX11_init 170 = .ok (.bipush 6, 2) := by decide +kernel
theorem dX11_init_172 : decode cX11_init 172 = .ok (.iastore, 1) := by decide +kernel
theorem dX11_init_173 : decode cX11_init 173 = .ok (.putfield 22, 3) := by decide +kernel
theorem dX11_init_176 : decode cX11_init 176 = .ok (.aload_n 0, 1) := by decide +kernel
theorem dX11_init_177 : decode cX11_init 177 = .ok (.iconst 4, 1) := by decide +kernel
theorem dX11_init_178 : decode cX11_init 178 = .ok (.newarray .int, 2) := by decide +kernel
theorem dX11_init_180 : decode cX11_init 180 = .ok (.dup, 1) := by decide +kernel
theorem dX11_init_181 : decode cX11_init 181 = .ok (.iconst 0, 1) := by decide +kernel
theorem dX11_init_182 : decode cX11_init 182 = .ok (.bipush 100, 2) := by decide +kernel
theorem dX11_init_184 : decode cX11_init 184 = .ok (.iastore, 1) := by decide +kernel
theorem dX11_init_185 : decode cX11_init 185 = .ok (.dup, 1) := by decide +kernel
theorem dX11_init_186 : decode cX11_init 186 = .ok (.iconst 1, 1) := by decide +kernel
theorem dX11_init_187 : decode cX11_init 187 = .ok (.bipush 99, 2) := by decide +kernel
theorem dX11_init_189 : decode cX11_init 189 = .ok (.iastore, 1) := by decide +kernel
theorem dX11_init_190 : decode cX11_init 190 = .ok (.dup, 1) := by decide +kernel
theorem dX11_init_191 : decode cX11_init 191 = .ok (.iconst 2, 1) := by decide +kernel
theorem dX11_init_192 : decode cX11_init 192 = .ok (.bipush 99, 2) := by decide +kernel
theorem dX11_init_194 : decode cX11_init 194 = .ok (.iastore, 1) := by decide +kernel
theorem dX11_init_195 : decode cX11_init 195 = .ok (.dup, 1) := by decide +kernel
theorem dX11_init_196 : decode cX11_init 196 = .ok (.iconst 3, 1) := by decide +kernel
theorem dX11_init_197 : decode cX11_init 197 = .ok (.bipush 20, 2) := by decide +kernel
theorem dX11_init_199 : decode cX11_init 199 = .ok (.iastore, 1) := by decide +kernel
theorem dX11_init_200 : decode cX11_init 200 = .ok (.putfield 25, 3) := by decide +kernel
theorem dX11_init_203 : decode cX11_init 203 = .ok (.aload_n 0, 1) := by decide +kernel
theorem dX11_init_204 : decode cX11_init 204 = .ok (.sipush 240, 3) := by decide +kernel
theorem dX11_init_207 : decode cX11_init 207 = .ok (.newarray .int, 2) := by decide +kernel
theorem dX11_init_209 : decode cX11_init 209 = .ok (.putfield 28, 3) := by decide +kernel
theorem dX11_init_212 : decode cX11_init 212 = .ok (.aload_n 0, 1) := by decide +kernel
theorem dX11_init_213 : decode cX11_init 213 = .ok (.bipush 20, 2) := by decide +kernel
theorem dX11_init_215 : decode cX11_init 215 = .ok (.newarray .int, 2) := by decide +kernel
theorem dX11_init_217 : decode cX11_init 217 = .ok (.putfield 31, 3) := by decide +kernel
theorem dX11_init_220 : decode cX11_init 220 = .ok (.aload_n 0, 1) := by decide +kernel
theorem dX11_init_221 : decode cX11_init 221 = .ok (.bipush 80, 2) := by decide +kernel
theorem dX11_init_223 : decode cX11_init 223 = .ok (.newarray .int, 2) := by decide +kernel
theorem dX11_init_225 : decode cX11_init 225 = .ok (.putfield 34, 3) := by decide +kernel
theorem dX11_init_228 : decode cX11_init 228 = .ok (.aload_n 0, 1) := by decide +kernel
theorem dX11_init_229 : decode cX11_init 229 = .ok (.bipush 20, 2) := by decide +kernel
theorem dX11_init_231 : decode cX11_init 231 = .ok (.newarray .int, 2) := by decide +kernel
theorem dX11_init_233 : decode cX11_init 233 = .ok (.putfield 37, 3) := by decide +kernel
theorem dX11_init_236 : decode cX11_init 236 = .ok (.aload_n 0, 1) := by decide +kernel
theorem dX11_init_237 : decode cX11_init 237 = .ok (.bipush 10, 2) := by decide +kernel
theorem dX11_init_239 : decode cX11_init 239 = .ok (.newarray .int, 2) := by decide +kernel
theorem dX11_init_241 : decode cX11_init 241 = .ok (.putfield 40, 3) := by decide +kernel
theorem dX11_init_244 : decode cX11_init 244 = .ok (.aload_n 0, 1) := by decide +kernel
theorem dX11_init_245 : decode cX11_init 245 = .ok (.bipush 120, 2) := by decide +kernel
theorem dX11_init_247 : decode cX11_init 247 = .ok (.newarray .int, 2) := by decide +kernel
theorem dX11_init_249 : decode cX11_init 249 = .ok (.putfield 43, 3) := by decide +kernel
theorem dX11_init_252 : decode cX11_init 252 = .ok (.aload_n 0, 1) := by decide +kernel
theorem dX11_init_253 : decode cX11_init 253 = .ok (.iconst 4, 1) := by decide +kernel
theorem dX11_init_254 : decode cX11_init 254 = .ok (.newarray .int, 2) := by decide +kernel
theorem dX11_init_256 : decode cX11_init 256 = .ok (.putfield 46, 3) := by decide +kernel
theorem dX11_init_259 : decode cX11_init 259 = .ok (.aload_n 0, 1) := by decide +kernel
theorem dX11_init_260 : decode cX11_init 260 = .ok (.bipush 60, 2) := by decide +kernel
theorem dX11_init_262 : decode cX11_init 262 = .ok (.newarray .int, 2) := by decide +kernel
theorem dX11_init_264 : decode cX11_init 264 = .ok (.putfield 49, 3) := by decide +kernel
theorem dX11_init_267 : decode cX11_init 267 = .ok (.aload_n 0, 1) := by decide +kernel
theorem dX11_init_268 : decode cX11_init 268 = .ok (.bipush 60, 2) := by decide +kernel
theorem dX11_init_270 : decode cX11_init 270 = .ok (.newarray .int, 2) := by decide +kernel
theorem dX11_init_272 : decode cX11_init 272 = .ok (.putfield 52, 3) := by decide +kernel
theorem dX11_init_275 : decode cX11_init 275 = .ok (.aload_n 0, 1) := by decide +kernel
theorem dX11_init_276 : decode cX11_init 276 = .ok (.iconst 4, 1) := by decide +kernel
theorem dX11_init_277 : decode cX11_init 277 = .ok (.newarray .int, 2) := by decide +kernel
theorem dX11_init_279 : decode cX11_init 279 = .ok (.dup, 1) := by decide +kernel
theorem dX11_init_280 : decode cX11_init 280 = .ok (.iconst 0, 1) := by decide +kernel
theorem dX11_init_281 : decode cX11_init 281 = .ok (.iconst (-1), 1) := by decide +kernel
theorem dX11_init_282 : decode cX11_init 282 = .ok (.iastore, 1) := by decide +kernel
theorem dX11_init_283 : decode cX11_init 283 = .ok (.dup, 1) := by decide +kernel
theorem dX11_init_284 : decode cX11_init 284 = .ok (.iconst 1, 1) := by decide +kernel
theorem dX11_init_285 : decode cX11_init 285 = .ok (.iconst (-1), 1) := by decide +kernel
theorem dX11_init_286 : decode cX11_init 286 = .ok (.iastore, 1) := by decide +kernel
theorem dX11_init_287 : decode cX11_init 287 = .ok (.dup, 1) := by decide +kernel
theorem dX11_init_288 : decode cX11_init 288 = .ok (.iconst 2, 1) := by decide +kernel
theorem dX11_init_289 : decode cX11_init 289 = .ok (.iconst (-1), 1) := by decide +kernel
theorem dX11_init_290 : decode cX11_init 290 = .ok (.iastore, 1) := by decide +kernel
theorem dX11_init_291 : decode cX11_init 291 = .ok (.dup, 1) := by decide +kernel
theorem dX11_init_292 : decode cX11_init 292 = .ok (.iconst 3, 1) := by decide +kernel
theorem dX11_init_293 : decode cX11_init 293 = .ok (.iconst (-1), 1) := by decide +kernel
theorem dX11_init_294 : decode cX11_init 294 = .ok (.iastore, 1) := by decide +kernel
theorem dX11_init_295 : decode cX11_init 295 = .ok (.putfield 55, 3) := by decide +kernel
theorem dX11_init_298 : decode cX11_init 298 = .ok (.aload_n 0, 1) := by decide +kernel
theorem dX11_init_299 : decode cX11_init 299 = .ok (.iconst 4, 1) := by decide +kernel
theorem dX11_init_300 : decode cX11_init 300 = .ok (.newarray .int, 2) := by decide +kernel
theorem dX11_init_302 : decode cX11_init 302 = .ok (.putfield 58, 3) := by decide +kernel
theorem dX11_init_305 : decode cX11_init 305 = .ok (.aload_n 0, 1) := by decide +kernel
theorem dX11_init_306 : decode cX11_init 306 = .ok (.sipush 160, 3) := by decide +kernel
theorem dX11_init_309 : decode cX11_init 309 = .ok (.newarray .long, 2) := by decide +kernel
theorem dX11_init_311 : decode cX11_init 311 = .ok (.putfield 61, 3) := by decide +kernel
theorem dX11_init_314 : decode cX11_init 314 = .ok (.aload_n 0, 1) := by decide +kernel
theorem dX11_init_315 : decode cX11_init 315 = .ok (.iconst 4, 1) := by decide +kernel
theorem dX11_init_316 : decode cX11_init 316 = .ok (.newarray .int, 2) := by decide +kernel
theorem dX11_init_318 : decode cX11_init 318 = .ok (.dup, 1) := by decide +kernel
theorem dX11_init_319 : decode cX11_init 319 = .ok (.iconst 0, 1) := by decide +kernel
theorem dX11_init_320 : decode cX11_init 320 = .ok (.iconst (-1), 1) := by decide +kernel
theorem dX11_init_321 : decode cX11_init 321 = .ok (.iastore, 1) := by decide +kernel
theorem dX11_init_322 : decode cX11_init 322 = .ok (.dup, 1) := by decide +kernel
theorem dX11_init_323 : decode cX11_init 323 = .ok (.iconst 1, 1) := by decide +kernel
theorem dX11_init_324 : decode cX11_init 324 = .ok (.iconst (-1), 1) := by decide +kernel
theorem dX11_init_325 : decode cX11_init 325 = .ok (.iastore, 1) := by decide +kernel
theorem dX11_init_326 : decode cX11_init 326 = .ok (.dup, 1) := by decide +kernel
theorem dX11_init_327 : decode cX11_init 327 = .ok (.iconst 2, 1) := by decide +kernel
theorem dX11_init_328 : decode cX11_init 328 = .ok (.iconst (-1), 1) := by decide +kernel
theorem dX11_init_329 : decode cX11_init 329 = .ok (.iastore, 1) := by decide +kernel
theorem dX11_init_330 : decode cX11_init 330 = .ok (.dup, 1) := by decide +kernel
theorem dX11_init_331 : decode cX11_init 331 = .ok (.iconst 3, 1) := by decide +kernel
theorem dX11_init_332 : decode cX11_init 332 = .ok (.iconst (-1), 1) := by decide +kernel
theorem dX11_init_333 : decode cX11_init 333 = .ok (.iastore, 1) := by decide +kernel
theorem dX11_init_334 : decode cX11_init 334 = .ok (.putfield 65, 3) := by decide +kernel
theorem dX11_init_337 : decode cX11_init 337 = .ok (.aload_n 0, 1) := by decide +kernel
theorem dX11_init_338 : decode cX11_init 338 = .ok (.iconst 4, 1) := by decide +kernel
theorem dX11_init_339 : decode cX11_init 339 = .ok (.newarray .int, 2) := by decide +kernel
theorem dX11_init_341 : decode cX11_init 341 = .ok (.putfield 68, 3) := by decide +kernel
theorem dX11_init_344 : decode cX11_init 344 = .ok (.aload_n 0, 1) := by decide +kernel
theorem dX11_init_345 : decode cX11_init 345 = .ok (.iconst 4, 1) := by decide +kernel
theorem dX11_init_346 : decode cX11_init 346 = .ok (.newarray .int, 2) := by decide +kernel
theorem dX11_init_348 : decode cX11_init 348 = .ok (.putfield 71, 3) := by decide +kernel
theorem dX11_init_351 : decode cX11_init 351 = .ok (.aload_n 0, 1) := by decide +kernel
theorem dX11_init_352 : decode cX11_init 352 = .ok (.bipush 30, 2) := by decide +kernel
theorem dX11_init_354 : decode cX11_init 354 = .ok (.newarray .int, 2) := by decide +kernel
theorem dX11_init_356 : decode cX11_init 356 = .ok (.putfield 74, 3) := by decide +kernel
theorem dX11_init_359 : decode cX11_init 359 = .ok (.aload_n 0, 1) := by decide +kernel
theorem dX11_init_360 : decode cX11_init 360 = .ok (.sipush 290, 3) := by decide +kernel
theorem dX11_init_363 : decode cX11_init 363 = .ok (.newarray .int, 2) := by decide +kernel
theorem dX11_init_365 : decode cX11_init 365 = .ok (.putfield 77, 3) := by decide +kernel
theorem dX11_init_368 : decode cX11_init 368 = .ok (.aload_n 0, 1) := by decide +kernel
theorem dX11_init_369 : decode cX11_init 369 = .ok (.iconst 1, 1) := by decide +kernel
theorem dX11_init_370 : decode cX11_init 370 = .ok (.newarray .int, 2) := by decide +kernel
theorem dX11_init_372 : decode cX11_init 372 = .ok (.putfield 80, 3) := by decide +kernel
theorem dX11_init_375 : decode cX11_init 375 = .ok (.aload_n 0, 1) := by decide +kernel
theorem dX11_init_376 : decode cX11_init 376 = .ok (.getfield 7, 3) := by decide +kernel
theorem dX11_init_379 : decode cX11_init 379 = .ok (.iconst 1, 1) := by decide +kernel
theorem dX11_init_380 : decode cX11_init 380 = .ok (.iconst 1, 1) := by decide +kernel
theorem dX11_init_381 : decode cX11_init 381 = .ok (.iastore, 1) := by decide +kernel
theorem dX11_init_382 : decode cX11_init 382 = .ok (.iconst 0, 1) := by decide +kernel
theorem dX11_init_383 : decode cX11_init 383 = .ok (.istore_n 1, 1) := by decide +kernel
theorem dX11_init_384 : decode cX11_init 384 = .ok (.iload_n 1, 1) := by decide +kernel
theorem dX11_init_385 : decode cX11_init 385 = .ok (.bipush 20, 2) := by decide +kernel
theorem dX11_init_387 : decode cX11_init 387 = .ok (.if_icmp .ge 28, 3) := by decide +kernel
theorem dX11_init_390 : decode cX11_init 390 = .ok (.aload_n 0, 1) := by decide +kernel
theorem dX11_init_391 : decode cX11_init 391 = .ok (.getfield 7, 3) := by decide +kernel
theorem dX11_init_394 : decode cX11_init 394 = .ok (.iconst 3, 1) := by decide +kernel
theorem dX11_init_395 : decode cX11_init 395 = .ok (.iload_n 1, 1) := by decide +kernel
theorem dX11_init_396 : decode cX11_init 396 = .ok (.iadd, 1) := by decide +kernel
theorem dX11_init_397 : decode cX11_init 397 = .ok (.iconst (-1), 1) := by decide +kernel
theorem dX11_init_398 : decode cX11_init 398 = .ok (.iastore, 1) := by decide +kernel
theorem dX11_init_399 : decode cX11_init 399 = .ok (.aload_n 0, 1) := by decide +kernel
theorem dX11_init_400 : decode cX11_init 400 = .ok (.getfield 7, 3) := by decide +kernel
theorem dX11_init_403 : decode cX11_init 403 = .ok (.bipush 23, 2) := by decide +kernel
theorem dX11_init_405 : decode cX11_init 405 = .ok (.iload_n 1, 1) := by decide +kernel
theorem dX11_init_406 : decode cX11_init 406 = .ok (.iadd, 1) := by decide +kernel
theorem dX11_init_407 : decode cX11_init 407 = .ok (.iconst (-1), 1) := by decide +kernel
theorem dX11_init_408 : decode cX11_init 408 = .ok (.iastore, 1) := by decide +kernel
theorem dX11_init_409 : decode cX11_init 409 = .ok (.iinc 1 1, 3) := by decide +kernel
theorem dX11_init_412 : decode cX11_init 412 = .ok (.goto (-28), 3) := by decide +kernel
theorem dX11_init_415 : decode cX11_init 415 = .ok (.iconst 0, 1) := by decide +kernel
theorem dX11_init_416 : decode cX11_init 416 = .ok (.istore_n 1, 1) := by decide +kernel
theorem dX11_init_417 : decode cX11_init 417 = .ok (.iload_n 1, 1) := by decide +kernel
theorem dX11_init_418 : decode cX11_init 418 = .ok (.bipush 80, 2) := by decide +kernel
theorem dX11_init_420 : decode cX11_init 420 = .ok (.if_icmp .ge 16, 3) := by decide +kernel
theorem dX11_init_423 : decode cX11_init 423 = .ok (.aload_n 0, 1) := by decide +kernel
theorem dX11_init_424 : decode cX11_init 424 = .ok (.getfield 16, 3) := by decide +kernel
theorem dX11_init_427 : decode cX11_init 427 = .ok (.iload_n 1, 1) := by decide +kernel
theorem dX11_init_428 : decode cX11_init 428 = .ok (.iconst 1, 1) := by decide +kernel
theorem dX11_init_429 : decode cX11_init 429 = .ok (.iastore, 1) := by decide +kernel
theorem dX11_init_430 : decode cX11_init 430 = .ok (.iinc 1 1, 3) := by decide +kernel
theorem dX11_init_433 : decode cX11_init 433 = .ok (.goto (-16), 3) := by decide +kernel
theorem dX11_init_436 : decode cX11_init 436 = .ok (.return_, 1) := by decide +kernel
theorem dX11_in_0 : decode cX11_in 0 = .ok (.iload_n 0, 1) := by decide +kernel
theorem dX11_in_1 : decode cX11_in 1 = .ok (.iload_n 1, 1) := by decide +kernel
theorem dX11_in_2 : decode cX11_in 2 = .ok (.if_icmp .lt 12, 3) := by decide +kernel
theorem dX11_in_5 : decode cX11_in 5 = .ok (.iload_n 0, 1) := by decide +kernel
theorem dX11_in_6 : decode cX11_in 6 = .ok (.iload_n 2, 1) := by decide +kernel
theorem dX11_in_7 : decode cX11_in 7 = .ok (.if_icmp .gt 7, 3) := by decide +kernel
theorem dX11_in_10 : decode cX11_in 10 = .ok (.iconst 1, 1) := by decide +kernel
theorem dX11_in_11 : decode cX11_in 11 = .ok (.goto 4, 3) := by decide +kernel
theorem dX11_in_14 : decode cX11_in 14 = .ok (.iconst 0, 1) := by decide +kernel
theorem dX11_in_15 : decode cX11_in 15 = .ok (.ireturn, 1) := by decide +kernel
theorem dX11_isDay_0 : decode cX11_isDay 0 = .ok (.iload_n 0, 1) := by decide +kernel
theorem dX11_isDay_1 : decode cX11_isDay 1 = .ok (.iconst 0, 1) := by decide +kernel
theorem dX11_isDay_2 : decode cX11_isDay 2 = .ok (.bipush 19, 2) := by decide +kernel
theorem dX11_isDay_4 : decode cX11_isDay 4 = .ok (.invokestatic 83, 3) := by decide +kernel
theorem dX11_isDay_7 : decode cX11_isDay 7 = .ok (.ireturn, 1) := by decide +kernel
theorem dX11_isWeather_0 : decode cX11_isWeather 0 = .ok (.iload_n 0, 1) := by decide +kernel
theorem dX11_isWeather_1 : decode cX11_isWeather 1 = .ok (.iconst 0, 1) := by decide +kernel
theorem dX11_isWeather_2 : decode cX11_isWeather 2 = .ok (.iconst 3, 1) := by decide +kernel
theorem dX11_isWeather_3 : decode cX11_isWeather 3 = .ok (.invokestatic 83, 3) := by decide +kernel
theorem dX11_isWeather_6 : decode cX11_isWeather 6 = .ok (.ireturn, 1) := by decide +kernel
theorem dX11_isSayer_0 : decode cX11_isSayer 0 = .ok (.iload_n 1, 1) := by decide +kernel
theorem dX11_isSayer_1 : decode cX11_isSayer 1 = .ok (.iconst 0, 1) := by decide +kernel
theorem dX11_isSayer_2 : decode cX11_isSayer 2 = .ok (.aload_n 0, 1) := by decide +kernel
theorem dX11_isSayer_3 : decode cX11_isSayer 3 = .ok (.getfield 87, 3) := by decide +kernel
theorem dX11_isSayer_6 : decode cX11_isSayer 6 = .ok (.iconst 1, 1) := by decide +kernel
theorem dX11_isSayer_7 : decode cX11_isSayer 7 = .ok (.isub, 1) := by decide +kernel
theorem dX11_isSayer_8 : decode cX11_isSayer 8 = .ok (.invokestatic 83, 3) := by decide +kernel
theorem dX11_isSayer_11 : decode cX11_isSayer 11 = .ok (.ireturn, 1) := by decide +kernel
theorem dX11_isSide_0 : decode cX11_isSide 0 = .ok (.iload_n 0, 1) := by decide +kernel
theorem dX11_isSide_1 : decode cX11_isSide 1 = .ok (.iconst 0, 1) := by decide +kernel
theorem dX11_isSide_2 : decode cX11_isSide 2 = .ok (.iconst 1, 1) := by decide +kernel
theorem dX11_isSide_3 : decode cX11_isSide 3 = .ok (.invokestatic 83, 3) := by decide +kernel
theorem dX11_isSide_6 : decode cX11_isSide 6 = .ok (.ireturn, 1) := by decide +kernel
theorem dX11_its_0 : decode cX11_its 0 = .ok (.aload_n 0, 1) := by decide +kernel
theorem dX11_its_1 : decode cX11_its 1 = .ok (.getfield 7, 3) := by decide +kernel
theorem dX11_its_4 : decode cX11_its 4 = .ok (.aload_n 0, 1) := by decide +kernel
theorem dX11_its_5 : decode cX11_its 5 = .ok (.getfield 91, 3) := by decide +kernel
theorem dX11_its_8 : decode cX11_its 8 = .ok (.iload_n 1, 1) := by decide +kernel
theorem dX11_its_9 : decode cX11_its 9 = .ok (.iadd, 1) := by decide +kernel
theorem dX11_its_10 : decode cX11_its 10 = .ok (.iaload, 1) := by decide +kernel
theorem dX11_its_11 : decode cX11_its 11 = .ok (.ireturn, 1) := by decide +kernel
theorem dX11_saying_0 : decode cX11_saying 0 = .ok (.aload_n 0, 1) := by decide +kernel
theorem dX11_saying_1 : decode cX11_saying 1 = .ok (.getfield 7, 3) := by decide +kernel
theorem dX11_saying_4 : decode cX11_saying 4 = .ok (.aload_n 0, 1) := by decide +kernel
theorem dX11_saying_5 : decode cX11_saying 5 = .ok (.getfield 91, 3) := by decide +kernel
theorem dX11_saying_8 : decode cX11_saying 8 = .ok (.bipush 48, 2) := by decide +kernel
theorem dX11_saying_10 : decode cX11_saying 10 = .ok (.iadd, 1) := by decide +kernel
theorem dX11_saying_11 : decode cX11_saying 11 = .ok (.iconst 3, 1) := by decide +kernel
theorem dX11_saying_12 : decode cX11_saying 12 = .ok (.iload_n 1, 1) := by decide +kernel
theorem dX11_saying_13 : decode cX11_saying 13 = .ok (.imul, 1) := by decide +kernel
theorem dX11_saying_14 : decode cX11_saying 14 = .ok (.iadd, 1) := by decide +kernel
theorem dX11_saying_15 : decode cX11_saying 15 = .ok (.iload_n 2, 1) := by decide +kernel
theorem dX11_saying_16 : decode cX11_saying 16 = .ok (.iadd, 1) := by decide +kernel
theorem dX11_saying_17 : decode cX11_saying 17 = .ok (.iaload, 1) := by decide +kernel
theorem dX11_saying_18 : decode cX11_saying 18 = .ok (.ireturn, 1) := by decide +kernel
theorem dX11_kindOf_0 : decode cX11_kindOf 0 = .ok (.aload_n 0, 1) := by decide +kernel
theorem dX11_kindOf_1 : decode cX11_kindOf 1 = .ok (.getfield 19, 3) := by decide +kernel
theorem dX11_kindOf_4 : decode cX11_kindOf 4 = .ok (.iconst 2, 1) := by decide +kernel
theorem dX11_kindOf_5 : decode cX11_kindOf 5 = .ok (.iload_n 1, 1) := by decide +kernel
theorem dX11_kindOf_6 : decode cX11_kindOf 6 = .ok (.imul, 1) := by decide +kernel
theorem dX11_kindOf_7 : decode cX11_kindOf 7 = .ok (.iaload, 1) := by decide +kernel
theorem dX11_kindOf_8 : decode cX11_kindOf 8 = .ok (.ireturn, 1) := by decide +kernel
theorem dX11_aOf_0 : decode cX11_aOf 0 = .ok (.aload_n 0, 1) := by decide +kernel
theorem dX11_aOf_1 : decode cX11_aOf 1 = .ok (.getfield 19, 3) := by decide +kernel
theorem dX11_aOf_4 : decode cX11_aOf 4 = .ok (.iconst 2, 1) := by decide +kernel
theorem dX11_aOf_5 : decode cX11_aOf 5 = .ok (.iload_n 1, 1) := by decide +kernel
theorem dX11_aOf_6 : decode cX11_aOf 6 = .ok (.imul, 1) := by decide +kernel
theorem dX11_aOf_7 : decode cX11_aOf 7 = .ok (.iconst 1, 1) := by decide +kernel
theorem dX11_aOf_8 : decode cX11_aOf 8 = .ok (.iadd, 1) := by decide +kernel
theorem dX11_aOf_9 : decode cX11_aOf 9 = .ok (.iaload, 1) := by decide +kernel
theorem dX11_aOf_10 : decode cX11_aOf 10 = .ok (.ireturn, 1) := by decide +kernel
theorem dX11_feed_0 : decode cX11_feed 0 = .ok (.iload_n 3, 1) := by decide +kernel
theorem dX11_feed_1 : decode cX11_feed 1 = .ok (.iconst 1, 1) := by decide +kernel
theorem dX11_feed_2 : decode cX11_feed 2 = .ok (.bipush 8, 2) := by decide +kernel
theorem dX11_feed_4 : decode cX11_feed 4 = .ok (.invokestatic 83, 3) := by decide +kernel
theorem dX11_feed_7 : decode cX11_feed 7 = .ok (.ifCond .ne 5, 3) := by decide +kernel
theorem dX11_feed_10 : decode cX11_feed 10 = .ok (.iconst (-1), 1) := by decide +kernel
theorem dX11_feed_11 : decode cX11_feed 11 = .ok (.ireturn, 1) := by decide +kernel
theorem dX11_feed_12 : decode cX11_feed 12 = .ok (.aload_n 0, 1) := by decide +kernel
theorem dX11_feed_13 : decode cX11_feed 13 = .ok (.getfield 94, 3) := by decide +kernel
theorem dX11_feed_16 : decode cX11_feed 16 = .ok (.iload_n 3, 1) := by decide +kernel
theorem dX11_feed_17 : decode cX11_feed 17 = .ok (.iadd, 1) := by decide +kernel
theorem dX11_feed_18 : decode cX11_feed 18 = .ok (.sipush 240, 3) := by decide +kernel
theorem dX11_feed_21 : decode cX11_feed 21 = .ok (.if_icmp .le 6, 3) := by decide +kernel
theorem dX11_feed_24 : decode cX11_feed 24 = .ok (.bipush (-2), 2) := by decide +kernel
theorem dX11_feed_26 : decode cX11_feed 26 = .ok (.ireturn, 1) := by decide +kernel
theorem dX11_feed_27 : decode cX11_feed 27 = .ok (.iconst 0, 1) := by decide +kernel
theorem dX11_feed_28 : decode cX11_feed 28 = .ok (.istore 4, 2) := by decide +kernel
theorem dX11_feed_30 : decode cX11_feed 30 = .ok (.iload 4, 2) := by decide +kernel
theorem dX11_feed_32 : decode cX11_feed 32 = .ok (.iload_n 3, 1) := by decide +kernel
theorem dX11_feed_33 : decode cX11_feed 33 = .ok (.if_icmp .ge 40, 3) := by decide +kernel
theorem dX11_feed_36 : decode cX11_feed 36 = .ok (.aload_n 0, 1) := by decide +kernel
theorem dX11_feed_37 : decode cX11_feed 37 = .ok (.getfield 28, 3) := by decide +kernel
theorem dX11_feed_40 : decode cX11_feed 40 = .ok (.aload_n 0, 1) := by decide +kernel
theorem dX11_feed_41 : decode cX11_feed 41 = .ok (.getfield 94, 3) := by decide +kernel
theorem dX11_feed_44 : decode cX11_feed 44 = .ok (.lload_n 1, 1) := by decide +kernel
theorem dX11_feed_45 : decode cX11_feed 45 = .ok (.bipush 8, 2) := by decide +kernel
theorem dX11_feed_47 : decode cX11_feed 47 = .ok (.iload 4, 2) := by decide +kernel
theorem dX11_feed_49 : decode cX11_feed 49 = .ok (.imul, 1) := by decide +kernel
theorem dX11_feed_50 : decode cX11_feed 50 = .ok (.lshr, 1) := by decide +kernel
theorem dX11_feed_51 : decode cX11_feed 51 = .ok (.ldc2_w 97, 3) := by decide +kernel
theorem dX11_feed_54 : decode cX11_feed 54 = .ok (.land, 1) := by decide +kernel
theorem dX11_feed_55 : decode cX11_feed 55 = .ok (.l2i, 1) := by decide +kernel
theorem dX11_feed_56 : decode cX11_feed 56 = .ok (.iastore, 1) := by decide +kernel
theorem dX11_feed_57 : decode cX11_feed 57 = .ok (.aload_n 0, 1) := by decide +kernel
theorem dX11_feed_58 : decode cX11_feed 58 = .ok (.dup, 1) := by decide +kernel
theorem dX11_feed_59 : decode cX11_feed 59 = .ok (.getfield 94, 3) := by decide +kernel
theorem dX11_feed_62 : decode cX11_feed 62 = .ok (.iconst 1, 1) := by decide +kernel
theorem dX11_feed_63 : decode cX11_feed 63 = .ok (.iadd, 1) := by decide +kernel
theorem dX11_feed_64 : decode cX11_feed 64 = .ok (.putfield 94, 3) := by decide +kernel
theorem dX11_feed_67 : decode cX11_feed 67 = .ok (.iinc 4 1, 3) := by decide +kernel
theorem dX11_feed_70 : decode cX11_feed 70 = .ok (.goto (-40), 3) := by decide +kernel
theorem dX11_feed_73 : decode cX11_feed 73 = .ok (.aload_n 0, 1) := by decide +kernel
theorem dX11_feed_74 : decode cX11_feed 74 = .ok (.getfield 94, 3) := by decide +kernel
theorem dX11_feed_77 : decode cX11_feed 77 = .ok (.ireturn, 1) := by decide +kernel
theorem dX11_byteAt_0 : decode cX11_byteAt 0 = .ok (.iload_n 1, 1) := by decide +kernel
theorem dX11_byteAt_1 : decode cX11_byteAt 1 = .ok (.aload_n 0, 1) := by decide +kernel
theorem dX11_byteAt_2 : decode cX11_byteAt 2 = .ok (.getfield 94, 3) := by decide +kernel
theorem dX11_byteAt_5 : decode cX11_byteAt 5 = .ok (.if_icmp .ge 12, 3) := by decide +kernel
theorem dX11_byteAt_8 : decode cX11_byteAt 8 = .ok (.aload_n 0, 1) := by decide +kernel
theorem dX11_byteAt_9 : decode cX11_byteAt 9 = .ok (.getfield 28, 3) := by decide +kernel
theorem dX11_byteAt_12 : decode cX11_byteAt 12 = .ok (.iload_n 1, 1) := by decide +kernel
theorem dX11_byteAt_13 : decode cX11_byteAt 13 = .ok (.iaload, 1) := by decide +kernel
theorem dX11_byteAt_14 : decode cX11_byteAt 14 = .ok (.goto 4, 3) := by decide +kernel
theorem dX11_byteAt_17 : decode cX11_byteAt 17 = .ok (.iconst (-1), 1) := by decide +kernel
theorem dX11_byteAt_18 : decode cX11_byteAt 18 = .ok (.ireturn, 1) := by decide +kernel
theorem dX11_isLetter_0 : decode cX11_isLetter 0 = .ok (.iload_n 0, 1) := by decide +kernel
theorem dX11_isLetter_1 : decode cX11_isLetter 1 = .ok (.bipush 97, 2) := by decide +kernel
theorem dX11_isLetter_3 : decode cX11_isLetter 3 = .ok (.bipush 122, 2) := by decide +kernel
theorem dX11_isLetter_5 : decode cX11_isLetter 5 = .ok (.invokestatic 83, 3) := by decide +kernel
theorem dX11_isLetter_8 : decode cX11_isLetter 8 = .ok (.ireturn, 1) := by decide +kernel
theorem dX11_isDigit_0 : decode cX11_isDigit 0 = .ok (.iload_n 0, 1) := by decide +kernel
theorem dX11_isDigit_1 : decode cX11_isDigit 1 = .ok (.bipush 48, 2) := by decide +kernel
theorem dX11_isDigit_3 : decode cX11_isDigit 3 = .ok (.bipush 57, 2) := by decide +kernel
theorem dX11_isDigit_5 : decode cX11_isDigit 5 = .ok (.invokestatic 83, 3) := by decide +kernel
theorem dX11_isDigit_8 : decode cX11_isDigit 8 = .ok (.ireturn, 1) := by decide +kernel
theorem dX11_advance_0 : decode cX11_advance 0 = .ok (.aload_n 0, 1) := by decide +kernel
theorem dX11_advance_1 : decode cX11_advance 1 = .ok (.aload_n 0, 1) := by decide +kernel
theorem dX11_advance_2 : decode cX11_advance 2 = .ok (.getfield 99, 3) := by decide +kernel
theorem dX11_advance_5 : decode cX11_advance 5 = .ok (.putfield 102, 3) := by decide +kernel
theorem dX11_advance_8 : decode cX11_advance 8 = .ok (.aload_n 0, 1) := by decide +kernel
theorem dX11_advance_9 : decode cX11_advance 9 = .ok (.aload_n 0, 1) := by decide +kernel
theorem dX11_advance_10 : decode cX11_advance 10 = .ok (.getfield 102, 3) := by decide +kernel
theorem dX11_advance_13 : decode cX11_advance 13 = .ok (.invokevirtual 105, 3) := by decide +kernel
theorem dX11_advance_16 : decode cX11_advance 16 = .ok (.bipush 32, 2) := by decide +kernel
theorem dX11_advance_18 : decode cX11_advance 18 = .ok (.if_icmp .ne 16, 3) := by decide +kernel
theorem dX11_advance_21 : decode cX11_advance 21 = .ok (.aload_n 0, 1) := by decide +kernel
theorem dX11_advance_22 : decode cX11_advance 22 = .ok (.dup, 1) := by decide +kernel
theorem dX11_advance_23 : decode cX11_advance 23 = .ok (.getfield 102, 3) := by decide +kernel
theorem dX11_advance_26 : decode cX11_advance 26 = .ok (.iconst 1, 1) := by decide +kernel
theorem dX11_advance_27 : decode cX11_advance 27 = .ok (.iadd, 1) := by decide +kernel
theorem dX11_advance_28 : decode cX11_advance 28 = .ok (.putfield 102, 3) := by decide +kernel
theorem dX11_advance_31 : decode cX11_advance 31 = .ok (.goto (-23), 3) := by decide +kernel
theorem dX11_advance_34 : decode cX11_advance 34 = .ok (.aload_n 0, 1) := by decide +kernel
theorem dX11_advance_35 : decode cX11_advance 35 = .ok (.aload_n 0, 1) := by decide +kernel
theorem dX11_advance_36 : decode cX11_advance 36 = .ok (.getfield 102, 3) := by decide +kernel
theorem dX11_advance_39 : decode cX11_advance 39 = .ok (.putfield 99, 3) := by decide +kernel
theorem dX11_advance_42 : decode cX11_advance 42 = .ok (.aload_n 0, 1) := by decide +kernel
theorem dX11_advance_43 : decode cX11_advance 43 = .ok (.aload_n 0, 1) := by decide +kernel
theorem dX11_advance_44 : decode cX11_advance 44 = .ok (.getfield 102, 3) := by decide +kernel
theorem dX11_advance_47 : decode cX11_advance 47 = .ok (.invokevirtual 105, 3) := by decide +kernel
theorem dX11_advance_50 : decode cX11_advance 50 = .ok (.istore_n 1, 1) := by decide +kernel
theorem dX11_advance_51 : decode cX11_advance 51 = .ok (.aload_n 0, 1) := by decide +kernel
theorem dX11_advance_52 : decode cX11_advance 52 = .ok (.iload_n 1, 1) := by decide +kernel
theorem dX11_advance_53 : decode cX11_advance 53 = .ok (.ifCond .ge 7, 3) := by decide +kernel
theorem dX11_advance_56 : decode cX11_advance 56 = .ok (.iconst 0, 1) := by decide +kernel
theorem dX11_advance_57 : decode cX11_advance 57 = .ok (.goto 26, 3) := by decide +kernel
theorem dX11_advance_60 : decode cX11_advance 60 = .ok (.iload_n 1, 1) := by decide +kernel
theorem dX11_advance_61 : decode cX11_advance 61 = .ok (.invokestatic 109, 3) := by decide +kernel
theorem dX11_advance_64 : decode cX11_advance 64 = .ok (.ifCond .eq 7, 3) := by decide +kernel
theorem dX11_advance_67 : decode cX11_advance 67 = .ok (.iconst 1, 1) := by decide +kernel
theorem dX11_advance_68 : decode cX11_advance 68 = .ok (.goto 15, 3) := by decide +kernel
theorem dX11_advance_71 : decode cX11_advance 71 = .ok (.iload_n 1, 1) := by decide +kernel
theorem dX11_advance_72 : decode cX11_advance 72 = .ok (.invokestatic 113, 3) := by decide +kernel
theorem dX11_advance_75 : decode cX11_advance 75 = .ok (.ifCond .eq 7, 3) := by decide +kernel
theorem dX11_advance_78 : decode cX11_advance 78 = .ok (.iconst 2, 1) := by decide +kernel
theorem dX11_advance_79 : decode cX11_advance 79 = .ok (.goto 4, 3) := by decide +kernel
theorem dX11_advance_82 : decode cX11_advance 82 = .ok (.iconst 3, 1) := by decide +kernel
theorem dX11_advance_83 : decode cX11_advance 83 = .ok (.putfield 116, 3) := by decide +kernel
theorem dX11_advance_86 : decode cX11_advance 86 = .ok (.aload_n 0, 1) := by decide +kernel
theorem dX11_advance_87 : decode cX11_advance 87 = .ok (.lconst 0, 1) := by decide +kernel
theorem dX11_advance_88 : decode cX11_advance 88 = .ok (.putfield 119, 3) := by decide +kernel
theorem dX11_advance_91 : decode cX11_advance 91 = .ok (.aload_n 0, 1) := by decide +kernel
theorem dX11_advance_92 : decode cX11_advance 92 = .ok (.aload_n 0, 1) := by decide +kernel
theorem dX11_advance_93 : decode cX11_advance 93 = .ok (.getfield 116, 3) := by decide +kernel
theorem dX11_advance_96 : decode cX11_advance 96 = .ok (.iconst 2, 1) := by decide +kernel
theorem dX11_advance_97 : decode cX11_advance 97 = .ok (.if_icmp .ne 7, 3) := by decide +kernel
theorem dX11_advance_100 : decode cX11_advance 100 = .ok (.iconst 0, 1) := by decide +kernel
theorem dX11_advance_101 : decode cX11_advance 101 = .ok (.goto 4, 3) := by decide +kernel
theorem dX11_advance_104 : decode cX11_advance 104 = .ok (.iload_n 1, 1) := by decide +kernel
theorem dX11_advance_105 : decode cX11_advance 105 = .ok (.putfield 123, 3) := by decide +kernel
theorem dX11_advance_108 : decode cX11_advance 108 = .ok (.aload_n 0, 1) := by decide +kernel
theorem dX11_advance_109 : decode cX11_advance 109 = .ok (.getfield 116, 3) := by decide +kernel
theorem dX11_advance_112 : decode cX11_advance 112 = .ok (.iconst 3, 1) := by decide +kernel
theorem dX11_advance_113 : decode cX11_advance 113 = .ok (.if_icmp .ne 13, 3) := by decide +kernel
theorem dX11_advance_116 : decode cX11_advance 116 = .ok (.aload_n 0, 1) := by decide +kernel
theorem dX11_advance_117 : decode cX11_advance 117 = .ok (.dup, 1) := by decide +kernel
theorem dX11_advance_118 : decode cX11_advance 118 = .ok (.getfield 99, 3) := by decide +kernel
theorem dX11_advance_121 : decode cX11_advance 121 = .ok (.iconst 1, 1) := by decide +kernel
theorem dX11_advance_122 : decode cX11_advance 122 = .ok (.iadd, 1) := by decide +kernel
theorem dX11_advance_123 : decode cX11_advance 123 = .ok (.putfield 99, 3) := by decide +kernel
theorem dX11_advance_126 : decode cX11_advance 126 = .ok (.aload_n 0, 1) := by decide +kernel
theorem dX11_advance_127 : decode cX11_advance 127 = .ok (.getfield 116, 3) := by decide +kernel
theorem dX11_advance_130 : decode cX11_advance 130 = .ok (.iconst 1, 1) := by decide +kernel
theorem dX11_advance_131 : decode cX11_advance 131 = .ok (.if_icmp .ne 76, 3) := by decide +kernel
theorem dX11_advance_134 : decode cX11_advance 134 = .ok (.aload_n 0, 1) := by decide +kernel
theorem dX11_advance_135 : decode cX11_advance 135 = .ok (.aload_n 0, 1) := by decide +kernel
theorem dX11_advance_136 : decode cX11_advance 136 = .ok (.getfield 99, 3) := by decide +kernel
theorem dX11_advance_139 : decode cX11_advance 139 = .ok (.invokevirtual 105, 3) := by decide +kernel
theorem dX11_advance_142 : decode cX11_advance 142 = .ok (.invokestatic 109, 3) := by decide +kernel
theorem dX11_advance_145 : decode cX11_advance 145 = .ok (.ifCond .eq 62, 3) := by decide +kernel
theorem dX11_advance_148 : decode cX11_advance 148 = .ok (.aload_n 0, 1) := by decide +kernel
theorem dX11_advance_149 : decode cX11_advance 149 = .ok (.aload_n 0, 1) := by decide +kernel
theorem dX11_advance_150 : decode cX11_advance 150 = .ok (.getfield 99, 3) := by decide +kernel
theorem dX11_advance_153 : decode cX11_advance 153 = .ok (.aload_n 0, 1) := by decide +kernel
theorem dX11_advance_154 : decode cX11_advance 154 = .ok (.getfield 102, 3) := by decide +kernel
theorem dX11_advance_157 : decode cX11_advance 157 = .ok (.isub, 1) := by decide +kernel
theorem dX11_advance_158 : decode cX11_advance 158 = .ok (.bipush 8, 2) := by decide +kernel
theorem dX11_advance_160 : decode cX11_advance 160 = .ok (.if_icmp .ge 28, 3) := by decide +kernel
theorem dX11_advance_163 : decode cX11_advance 163 = .ok (.ldc2_w 126, 3) := by decide +kernel
theorem dX11_advance_166 : decode cX11_advance 166 = .ok (.aload_n 0, 1) := by decide +kernel
theorem dX11_advance_167 : decode cX11_advance 167 = .ok (.getfield 119, 3) := by decide +kernel
theorem dX11_advance_170 : decode cX11_advance 170 = .ok (.lmul, 1) := by decide +kernel
theorem dX11_advance_171 : decode cX11_advance 171 = .ok (.aload_n 0, 1) := by decide +kernel
theorem dX11_advance_172 : decode cX11_advance 172 = .ok (.aload_n 0, 1) := by decide +kernel
theorem dX11_advance_173 : decode cX11_advance 173 = .ok (.getfield 99, 3) := by decide +kernel
theorem dX11_advance_176 : decode cX11_advance 176 = .ok (.invokevirtual 105, 3) := by decide +kernel
theorem dX11_advance_179 : decode cX11_advance 179 = .ok (.i2l, 1) := by decide +kernel
theorem dX11_advance_180 : decode cX11_advance 180 = .ok (.ladd, 1) := by decide +kernel
theorem dX11_advance_181 : decode cX11_advance 181 = .ok (.ldc2_w 128, 3) := by decide +kernel
theorem dX11_advance_184 : decode cX11_advance 184 = .ok (.lsub, 1) := by decide +kernel
theorem dX11_advance_185 : decode cX11_advance 185 = .ok (.goto 6, 3) := by decide +kernel
theorem dX11_advance_188 : decode cX11_advance 188 = .ok (.ldc2_w 130, 3) := by decide +kernel
theorem dX11_advance_191 : decode cX11_advance 191 = .ok (.putfield 119, 3) := by decide +kernel
theorem dX11_advance_194 : decode cX11_advance 194 = .ok (.aload_n 0, 1) := by decide +kernel
theorem dX11_advance_195 : decode cX11_advance 195 = .ok (.dup, 1) := by decide +kernel
theorem dX11_advance_196 : decode cX11_advance 196 = .ok (.getfield 99, 3) := by decide +kernel
theorem dX11_advance_199 : decode cX11_advance 199 = .ok (.iconst 1, 1) := by decide +kernel
theorem dX11_advance_200 : decode cX11_advance 200 = .ok (.iadd, 1) := by decide +kernel
theorem dX11_advance_201 : decode cX11_advance 201 = .ok (.putfield 99, 3) := by decide +kernel
theorem dX11_advance_204 : decode cX11_advance 204 = .ok (.goto (-78), 3) := by decide +kernel
theorem dX11_advance_207 : decode cX11_advance 207 = .ok (.aload_n 0, 1) := by decide +kernel
theorem dX11_advance_208 : decode cX11_advance 208 = .ok (.getfield 116, 3) := by decide +kernel
theorem dX11_advance_211 : decode cX11_advance 211 = .ok (.iconst 2, 1) := by decide +kernel
theorem dX11_advance_212 : decode cX11_advance 212 = .ok (.if_icmp .ne 70, 3) := by decide +kernel
theorem dX11_advance_215 : decode cX11_advance 215 = .ok (.aload_n 0, 1) := by decide +kernel
theorem dX11_advance_216 : decode cX11_advance 216 = .ok (.aload_n 0, 1) := by decide +kernel
theorem dX11_advance_217 : decode cX11_advance 217 = .ok (.getfield 99, 3) := by decide +kernel
theorem dX11_advance_220 : decode cX11_advance 220 = .ok (.invokevirtual 105, 3) := by decide +kernel
theorem dX11_advance_223 : decode cX11_advance 223 = .ok (.invokestatic 113, 3) := by decide +kernel
theorem dX11_advance_226 : decode cX11_advance 226 = .ok (.ifCond .eq 56, 3) := by decide +kernel
theorem dX11_advance_229 : decode cX11_advance 229 = .ok (.aload_n 0, 1) := by decide +kernel
theorem dX11_advance_230 : decode cX11_advance 230 = .ok (.aload_n 0, 1) := by decide +kernel
theorem dX11_advance_231 : decode cX11_advance 231 = .ok (.getfield 99, 3) := by decide +kernel
theorem dX11_advance_234 : decode cX11_advance 234 = .ok (.aload_n 0, 1) := by decide +kernel
theorem dX11_advance_235 : decode cX11_advance 235 = .ok (.getfield 102, 3) := by decide +kernel
theorem dX11_advance_238 : decode cX11_advance 238 = .ok (.isub, 1) := by decide +kernel
theorem dX11_advance_239 : decode cX11_advance 239 = .ok (.iconst 2, 1) := by decide +kernel
theorem dX11_advance_240 : decode cX11_advance 240 = .ok (.if_icmp .ge 25, 3) := by decide +kernel
theorem dX11_advance_243 : decode cX11_advance 243 = .ok (.bipush 10, 2) := by decide +kernel
theorem dX11_advance_245 : decode cX11_advance 245 = .ok (.aload_n 0, 1) := by decide +kernel
theorem dX11_advance_246 : decode cX11_advance 246 = .ok (.getfield 123, 3) := by decide +kernel
theorem dX11_advance_249 : decode cX11_advance 249 = .ok (.imul, 1) := by decide +kernel
theorem dX11_advance_250 : decode cX11_advance 250 = .ok (.aload_n 0, 1) := by decide +kernel
theorem dX11_advance_251 : decode cX11_advance 251 = .ok (.aload_n 0, 1) := by decide +kernel
theorem dX11_advance_252 : decode cX11_advance 252 = .ok (.getfield 99, 3) := by decide +kernel
theorem dX11_advance_255 : decode cX11_advance 255 = .ok (.invokevirtual 105, 3) := by decide +kernel
theorem dX11_advance_258 : decode cX11_advance 258 = .ok (.iadd, 1) := by decide +kernel
theorem dX11_advance_259 : decode cX11_advance 259 = .ok (.bipush 48, 2) := by decide +kernel
theorem dX11_advance_261 : decode cX11_advance 261 = .ok (.isub, 1) := by decide +kernel
theorem dX11_advance_262 : decode cX11_advance 262 = .ok (.goto 4, 3) := by decide +kernel
theorem dX11_advance_265 : decode cX11_advance 265 = .ok (.iconst (-1), 1) := by decide +kernel
theorem dX11_advance_266 : decode cX11_advance 266 = .ok (.putfield 123, 3) := by decide +kernel
theorem dX11_advance_269 : decode cX11_advance 269 = .ok (.aload_n 0, 1) := by decide +kernel
theorem dX11_advance_270 : decode cX11_advance 270 = .ok (.dup, 1) := by decide +kernel
theorem dX11_advance_271 : decode cX11_advance 271 = .ok (.getfield 99, 3) := by decide +kernel
theorem dX11_advance_274 : decode cX11_advance 274 = .ok (.iconst 1, 1) := by decide +kernel
theorem dX11_advance_275 : decode cX11_advance 275 = .ok (.iadd, 1) := by decide +kernel
theorem dX11_advance_276 : decode cX11_advance 276 = .ok (.putfield 99, 3) := by decide +kernel
theorem dX11_advance_279 : decode cX11_advance 279 = .ok (.goto (-72), 3) := by decide +kernel
theorem dX11_advance_282 : decode cX11_advance 282 = .ok (.return_, 1) := by decide +kernel
theorem dX11_isWord_0 : decode cX11_isWord 0 = .ok (.aload_n 0, 1) := by decide +kernel
theorem dX11_isWord_1 : decode cX11_isWord 1 = .ok (.getfield 116, 3) := by decide +kernel
theorem dX11_isWord_4 : decode cX11_isWord 4 = .ok (.iconst 1, 1) := by decide +kernel
theorem dX11_isWord_5 : decode cX11_isWord 5 = .ok (.if_icmp .ne 16, 3) := by decide +kernel
theorem dX11_isWord_8 : decode cX11_isWord 8 = .ok (.aload_n 0, 1) := by decide +kernel
theorem dX11_isWord_9 : decode cX11_isWord 9 = .ok (.getfield 119, 3) := by decide +kernel
theorem dX11_isWord_12 : decode cX11_isWord 12 = .ok (.lload_n 1, 1) := by decide +kernel
theorem dX11_isWord_13 : decode cX11_isWord 13 = .ok (.lcmp, 1) := by decide +kernel
theorem dX11_isWord_14 : decode cX11_isWord 14 = .ok (.ifCond .ne 7, 3) := by decide +kernel
theorem dX11_isWord_17 : decode cX11_isWord 17 = .ok (.iconst 1, 1) := by decide +kernel
theorem dX11_isWord_18 : decode cX11_isWord 18 = .ok (.goto 4, 3) := by decide +kernel
theorem dX11_isWord_21 : decode cX11_isWord 21 = .ok (.iconst 0, 1) := by decide +kernel
theorem dX11_isWord_22 : decode cX11_isWord 22 = .ok (.ireturn, 1) := by decide +kernel
theorem dX11_isMark_0 : decode cX11_isMark 0 = .ok (.aload_n 0, 1) := by decide +kernel
theorem dX11_isMark_1 : decode cX11_isMark 1 = .ok (.getfield 116, 3) := by decide +kernel
theorem dX11_isMark_4 : decode cX11_isMark 4 = .ok (.iconst 3, 1) := by decide +kernel
theorem dX11_isMark_5 : decode cX11_isMark 5 = .ok (.if_icmp .ne 15, 3) := by decide +kernel
theorem dX11_isMark_8 : decode cX11_isMark 8 = .ok (.aload_n 0, 1) := by decide +kernel
theorem dX11_isMark_9 : decode cX11_isMark 9 = .ok (.getfield 123, 3) := by decide +kernel
theorem dX11_isMark_12 : decode cX11_isMark 12 = .ok (.iload_n 1, 1) := by decide +kernel
theorem dX11_isMark_13 : decode cX11_isMark 13 = .ok (.if_icmp .ne 7, 3) := by decide +kernel
theorem dX11_isMark_16 : decode cX11_isMark 16 = .ok (.iconst 1, 1) := by decide +kernel
theorem dX11_isMark_17 : decode cX11_isMark 17 = .ok (.goto 4, 3) := by decide +kernel
theorem dX11_isMark_20 : decode cX11_isMark 20 = .ok (.iconst 0, 1) := by decide +kernel
theorem dX11_isMark_21 : decode cX11_isMark 21 = .ok (.ireturn, 1) := by decide +kernel
theorem dX11_kindHere_0 : decode cX11_kindHere 0 = .ok (.aload_n 0, 1) := by decide +kernel
theorem dX11_kindHere_1 : decode cX11_kindHere 1 = .ok (.ldc2_w 132, 3) := by decide +kernel
theorem dX11_kindHere_4 : decode cX11_kindHere 4 = .ok (.invokevirtual 134, 3) := by decide +kernel
theorem dX11_kindHere_7 : decode cX11_kindHere 7 = .ok (.ifCond .eq 7, 3) := by decide +kernel
theorem dX11_kindHere_10 : decode cX11_kindHere 10 = .ok (.iconst 0, 1) := by decide +kernel
theorem dX11_kindHere_11 : decode cX11_kindHere 11 = .ok (.goto 74, 3) := by decide +kernel
theorem dX11_kindHere_14 : decode cX11_kindHere 14 = .ok (.aload_n 0, 1) := by decide +kernel
theorem dX11_kindHere_15 : decode cX11_kindHere 15 = .ok (.ldc2_w 138, 3) := by decide +kernel
theorem dX11_kindHere_18 : decode cX11_kindHere 18 = .ok (.invokevirtual 134, 3) := by decide +kernel
theorem dX11_kindHere_21 : decode cX11_kindHere 21 = .ok (.ifCond .eq 7, 3) := by decide +kernel
theorem dX11_kindHere_24 : decode cX11_kindHere 24 = .ok (.iconst 1, 1) := by decide +kernel
theorem dX11_kindHere_25 : decode cX11_kindHere 25 = .ok (.goto 60, 3) := by decide +kernel
theorem dX11_kindHere_28 : decode cX11_kindHere 28 = .ok (.aload_n 0, 1) := by decide +kernel
theorem dX11_kindHere_29 : decode cX11_kindHere 29 = .ok (.ldc2_w 140, 3) := by decide +kernel
theorem dX11_kindHere_32 : decode cX11_kindHere 32 = .ok (.invokevirtual 134, 3) := by decide +kernel
theorem dX11_kindHere_35 : decode cX11_kindHere 35 = .ok (.ifCond .eq 7, 3) := by decide +kernel
theorem dX11_kindHere_38 : decode cX11_kindHere 38 = .ok (.iconst 2, 1) := by decide +kernel
theorem dX11_kindHere_39 : decode cX11_kindHere 39 = .ok (.goto 46, 3) := by decide +kernel
theorem dX11_kindHere_42 : decode cX11_kindHere 42 = .ok (.aload_n 0, 1) := by decide +kernel
theorem dX11_kindHere_43 : decode cX11_kindHere 43 = .ok (.ldc2_w 142, 3) := by decide +kernel
theorem dX11_kindHere_46 : decode cX11_kindHere 46 = .ok (.invokevirtual 134, 3) := by decide +kernel
theorem dX11_kindHere_49 : decode cX11_kindHere 49 = .ok (.ifCond .eq 7, 3) := by decide +kernel
theorem dX11_kindHere_52 : decode cX11_kindHere 52 = .ok (.iconst 3, 1) := by decide +kernel
theorem dX11_kindHere_53 : decode cX11_kindHere 53 = .ok (.goto 32, 3) := by decide +kernel
theorem dX11_kindHere_56 : decode cX11_kindHere 56 = .ok (.aload_n 0, 1) := by decide +kernel
theorem dX11_kindHere_57 : decode cX11_kindHere 57 = .ok (.ldc2_w 144, 3) := by decide +kernel
theorem dX11_kindHere_60 : decode cX11_kindHere 60 = .ok (.invokevirtual 134, 3) := by decide +kernel
theorem dX11_kindHere_63 : decode cX11_kindHere 63 = .ok (.ifCond .eq 7, 3) := by decide +kernel
theorem dX11_kindHere_66 : decode cX11_kindHere 66 = .ok (.iconst 4, 1) := by decide +kernel
theorem dX11_kindHere_67 : decode cX11_kindHere 67 = .ok (.goto 18, 3) := by decide +kernel
theorem dX11_kindHere_70 : decode cX11_kindHere 70 = .ok (.aload_n 0, 1) := by decide +kernel
theorem dX11_kindHere_71 : decode cX11_kindHere 71 = .ok (.ldc2_w 146, 3) := by decide +kernel
theorem dX11_kindHere_74 : decode cX11_kindHere 74 = .ok (.invokevirtual 134, 3) := by decide +kernel
theorem dX11_kindHere_77 : decode cX11_kindHere 77 = .ok (.ifCond .eq 7, 3) := by decide +kernel
theorem dX11_kindHere_80 : decode cX11_kindHere 80 = .ok (.iconst 5, 1) := by decide +kernel
theorem dX11_kindHere_81 : decode cX11_kindHere 81 = .ok (.goto 4, 3) := by decide +kernel
theorem dX11_kindHere_84 : decode cX11_kindHere 84 = .ok (.iconst (-1), 1) := by decide +kernel
theorem dX11_kindHere_85 : decode cX11_kindHere 85 = .ok (.ireturn, 1) := by decide +kernel
theorem dX11_wantNumber_0 : decode cX11_wantNumber 0 = .ok (.aload_n 0, 1) := by decide +kernel
theorem dX11_wantNumber_1 : decode cX11_wantNumber 1 = .ok (.getfield 123, 3) := by decide +kernel
theorem dX11_wantNumber_4 : decode cX11_wantNumber 4 = .ok (.istore_n 2, 1) := by decide +kernel
theorem dX11_wantNumber_5 : decode cX11_wantNumber 5 = .ok (.aload_n 0, 1) := by decide +kernel
theorem dX11_wantNumber_6 : decode cX11_wantNumber 6 = .ok (.aload_n 0, 1) := by decide +kernel
theorem dX11_wantNumber_7 : decode cX11_wantNumber 7 = .ok (.getfield 148, 3) := by decide +kernel
theorem dX11_wantNumber_10 : decode cX11_wantNumber 10 = .ok (.ifCond .eq 24, 3) := by decide +kernel
theorem dX11_wantNumber_13 : decode cX11_wantNumber 13 = .ok (.aload_n 0, 1) := by decide +kernel
theorem dX11_wantNumber_14 : decode cX11_wantNumber 14 = .ok (.getfield 116, 3) := by decide +kernel
theorem dX11_wantNumber_17 : decode cX11_wantNumber 17 = .ok (.iconst 2, 1) := by decide +kernel
theorem dX11_wantNumber_18 : decode cX11_wantNumber 18 = .ok (.if_icmp .ne 16, 3) := by decide +kernel
theorem dX11_wantNumber_21 : decode cX11_wantNumber 21 = .ok (.iload_n 2, 1) := by decide +kernel
theorem dX11_wantNumber_22 : decode cX11_wantNumber 22 = .ok (.iconst 0, 1) := by decide +kernel
theorem dX11_wantNumber_23 : decode cX11_wantNumber 23 = .ok (.iload_n 1, 1) := by decide +kernel
theorem dX11_wantNumber_24 : decode cX11_wantNumber 24 = .ok (.invokestatic 83, 3) := by decide +kernel
theorem dX11_wantNumber_27 : decode cX11_wantNumber 27 = .ok (.ifCond .eq 7, 3) := by decide +kernel
theorem dX11_wantNumber_30 : decode cX11_wantNumber 30 = .ok (.iconst 1, 1) := by decide +kernel
theorem dX11_wantNumber_31 : decode cX11_wantNumber 31 = .ok (.goto 4, 3) := by decide +kernel
theorem dX11_wantNumber_34 : decode cX11_wantNumber 34 = .ok (.iconst 0, 1) := by decide +kernel
theorem dX11_wantNumber_35 : decode cX11_wantNumber 35 = .ok (.putfield 148, 3) := by decide +kernel
theorem dX11_wantNumber_38 : decode cX11_wantNumber 38 = .ok (.aload_n 0, 1) := by decide +kernel
theorem dX11_wantNumber_39 : decode cX11_wantNumber 39 = .ok (.getfield 148, 3) := by decide +kernel
theorem dX11_wantNumber_42 : decode cX11_wantNumber 42 = .ok (.ifCond .eq 7, 3) := by decide +kernel
theorem dX11_wantNumber_45 : decode cX11_wantNumber 45 = .ok (.aload_n 0, 1) := by decide +kernel
theorem dX11_wantNumber_46 : decode cX11_wantNumber 46 = .ok (.invokevirtual 152, 3) := by decide +kernel
theorem dX11_wantNumber_49 : decode cX11_wantNumber 49 = .ok (.iload_n 2, 1) := by decide +kernel
theorem dX11_wantNumber_50 : decode cX11_wantNumber 50 = .ok (.ireturn, 1) := by decide +kernel
theorem dX11_wantWord_0 : decode cX11_wantWord 0 = .ok (.aload_n 0, 1) := by decide +kernel
theorem dX11_wantWord_1 : decode cX11_wantWord 1 = .ok (.aload_n 0, 1) := by decide +kernel
theorem dX11_wantWord_2 : decode cX11_wantWord 2 = .ok (.getfield 148, 3) := by decide +kernel
theorem dX11_wantWord_5 : decode cX11_wantWord 5 = .ok (.ifCond .eq 15, 3) := by decide +kernel
theorem dX11_wantWord_8 : decode cX11_wantWord 8 = .ok (.aload_n 0, 1) := by decide +kernel
theorem dX11_wantWord_9 : decode cX11_wantWord 9 = .ok (.lload_n 1, 1) := by decide +kernel
theorem dX11_wantWord_10 : decode cX11_wantWord 10 = .ok (.invokevirtual 134, 3) := by decide +kernel
theorem dX11_wantWord_13 : decode cX11_wantWord 13 = .ok (.ifCond .eq 7, 3) := by decide +kernel
theorem dX11_wantWord_16 : decode cX11_wantWord 16 = .ok (.iconst 1, 1) := by decide +kernel
theorem dX11_wantWord_17 : decode cX11_wantWord 17 = .ok (.goto 4, 3) := by decide +kernel
theorem dX11_wantWord_20 : decode cX11_wantWord 20 = .ok (.iconst 0, 1) := by decide +kernel
theorem dX11_wantWord_21 : decode cX11_wantWord 21 = .ok (.putfield 148, 3) := by decide +kernel
theorem dX11_wantWord_24 : decode cX11_wantWord 24 = .ok (.aload_n 0, 1) := by decide +kernel
theorem dX11_wantWord_25 : decode cX11_wantWord 25 = .ok (.getfield 148, 3) := by decide +kernel
theorem dX11_wantWord_28 : decode cX11_wantWord 28 = .ok (.ifCond .eq 7, 3) := by decide +kernel
theorem dX11_wantWord_31 : decode cX11_wantWord 31 = .ok (.aload_n 0, 1) := by decide +kernel
theorem dX11_wantWord_32 : decode cX11_wantWord 32 = .ok (.invokevirtual 152, 3) := by decide +kernel
theorem dX11_wantWord_35 : decode cX11_wantWord 35 = .ok (.return_, 1) := by decide +kernel
theorem dX11_wantEnd_0 : decode cX11_wantEnd 0 = .ok (.aload_n 0, 1) := by decide +kernel
theorem dX11_wantEnd_1 : decode cX11_wantEnd 1 = .ok (.aload_n 0, 1) := by decide +kernel
theorem dX11_wantEnd_2 : decode cX11_wantEnd 2 = .ok (.getfield 148, 3) := by decide +kernel
theorem dX11_wantEnd_5 : decode cX11_wantEnd 5 = .ok (.ifCond .eq 16, 3) := by decide +kernel
theorem dX11_wantEnd_8 : decode cX11_wantEnd 8 = .ok (.aload_n 0, 1) := by decide +kernel
theorem dX11_wantEnd_9 : decode cX11_wantEnd 9 = .ok (.bipush 59, 2) := by decide +kernel
theorem dX11_wantEnd_11 : decode cX11_wantEnd 11 = .ok (.invokevirtual 155, 3) := by decide +kernel
theorem dX11_wantEnd_14 : decode cX11_wantEnd 14 = .ok (.ifCond .eq 7, 3) := by decide +kernel
theorem dX11_wantEnd_17 : decode cX11_wantEnd 17 = .ok (.iconst 1, 1) := by decide +kernel
theorem dX11_wantEnd_18 : decode cX11_wantEnd 18 = .ok (.goto 4, 3) := by decide +kernel
theorem dX11_wantEnd_21 : decode cX11_wantEnd 21 = .ok (.iconst 0, 1) := by decide +kernel
theorem dX11_wantEnd_22 : decode cX11_wantEnd 22 = .ok (.putfield 148, 3) := by decide +kernel
theorem dX11_wantEnd_25 : decode cX11_wantEnd 25 = .ok (.aload_n 0, 1) := by decide +kernel
theorem dX11_wantEnd_26 : decode cX11_wantEnd 26 = .ok (.getfield 148, 3) := by decide +kernel
theorem dX11_wantEnd_29 : decode cX11_wantEnd 29 = .ok (.ifCond .eq 7, 3) := by decide +kernel
theorem dX11_wantEnd_32 : decode cX11_wantEnd 32 = .ok (.aload_n 0, 1) := by decide +kernel
theorem dX11_wantEnd_33 : decode cX11_wantEnd 33 = .ok (.invokevirtual 152, 3) := by decide +kernel
theorem dX11_wantEnd_36 : decode cX11_wantEnd 36 = .ok (.return_, 1) := by decide +kernel
theorem dX11_wantDay_0 : decode cX11_wantDay 0 = .ok (.aload_n 0, 1) := by decide +kernel
theorem dX11_wantDay_1 : decode cX11_wantDay 1 = .ok (.invokevirtual 152, 3) := by decide +kernel
theorem dX11_wantDay_4 : decode cX11_wantDay 4 = .ok (.aload_n 0, 1) := by decide +kernel
theorem dX11_wantDay_5 : decode cX11_wantDay 5 = .ok (.bipush 19, 2) := by decide +kernel
theorem dX11_wantDay_7 : decode cX11_wantDay 7 = .ok (.invokevirtual 158, 3) := by decide +kernel
theorem dX11_wantDay_10 : decode cX11_wantDay 10 = .ok (.istore_n 1, 1) := by decide +kernel
theorem dX11_wantDay_11 : decode cX11_wantDay 11 = .ok (.aload_n 0, 1) := by decide +kernel
theorem dX11_wantDay_12 : decode cX11_wantDay 12 = .ok (.ldc2_w 161, 3) := by decide +kernel
theorem dX11_wantDay_15 : decode cX11_wantDay 15 = .ok (.invokevirtual 163, 3) := by decide +kernel
theorem dX11_wantDay_18 : decode cX11_wantDay 18 = .ok (.aload_n 0, 1) := by decide +kernel
theorem dX11_wantDay_19 : decode cX11_wantDay 19 = .ok (.bipush 99, 2) := by decide +kernel
theorem dX11_wantDay_21 : decode cX11_wantDay 21 = .ok (.invokevirtual 158, 3) := by decide +kernel
theorem dX11_wantDay_24 : decode cX11_wantDay 24 = .ok (.istore_n 2, 1) := by decide +kernel
theorem dX11_wantDay_25 : decode cX11_wantDay 25 = .ok (.iconst 0, 1) := by decide +kernel
theorem dX11_wantDay_26 : decode cX11_wantDay 26 = .ok (.istore_n 3, 1) := by decide +kernel
theorem dX11_wantDay_27 : decode cX11_wantDay 27 = .ok (.iload_n 3, 1) := by decide +kernel
theorem dX11_wantDay_28 : decode cX11_wantDay 28 = .ok (.iconst 4, 1) := by decide +kernel
theorem dX11_wantDay_29 : decode cX11_wantDay 29 = .ok (.if_icmp .ge 16, 3) := by decide +kernel
theorem dX11_wantDay_32 : decode cX11_wantDay 32 = .ok (.aload_n 0, 1) := by decide +kernel
theorem dX11_wantDay_33 : decode cX11_wantDay 33 = .ok (.getfield 46, 3) := by decide +kernel
theorem dX11_wantDay_36 : decode cX11_wantDay 36 = .ok (.iload_n 3, 1) := by decide +kernel
theorem dX11_wantDay_37 : decode cX11_wantDay 37 = .ok (.iconst 1, 1) := by decide +kernel
theorem dX11_wantDay_38 : decode cX11_wantDay 38 = .ok (.iastore, 1) := by decide +kernel
theorem dX11_wantDay_39 : decode cX11_wantDay 39 = .ok (.iinc 3 1, 3) := by decide +kernel
theorem dX11_wantDay_42 : decode cX11_wantDay 42 = .ok (.goto (-15), 3) := by decide +kernel
theorem dX11_wantDay_45 : decode cX11_wantDay 45 = .ok (.aload_n 0, 1) := by decide +kernel
theorem dX11_wantDay_46 : decode cX11_wantDay 46 = .ok (.getfield 148, 3) := by decide +kernel
theorem dX11_wantDay_49 : decode cX11_wantDay 49 = .ok (.ifCond .eq 119, 3) := by decide +kernel
theorem dX11_wantDay_52 : decode cX11_wantDay 52 = .ok (.aload_n 0, 1) := by decide +kernel
theorem dX11_wantDay_53 : decode cX11_wantDay 53 = .ok (.ldc2_w 167, 3) := by decide +kernel
theorem dX11_wantDay_56 : decode cX11_wantDay 56 = .ok (.invokevirtual 134, 3) := by decide +kernel
theorem dX11_wantDay_59 : decode cX11_wantDay 59 = .ok (.ifCond .eq 109, 3) := by decide +kernel
theorem dX11_wantDay_62 : decode cX11_wantDay 62 = .ok (.aload_n 0, 1) := by decide +kernel
theorem dX11_wantDay_63 : decode cX11_wantDay 63 = .ok (.invokevirtual 152, 3) := by decide +kernel
theorem dX11_wantDay_66 : decode cX11_wantDay 66 = .ok (.aload_n 0, 1) := by decide +kernel
theorem dX11_wantDay_67 : decode cX11_wantDay 67 = .ok (.getfield 46, 3) := by decide +kernel
theorem dX11_wantDay_70 : decode cX11_wantDay 70 = .ok (.iconst 0, 1) := by decide +kernel
theorem dX11_wantDay_71 : decode cX11_wantDay 71 = .ok (.aload_n 0, 1) := by decide +kernel
theorem dX11_wantDay_72 : decode cX11_wantDay 72 = .ok (.bipush 9, 2) := by decide +kernel
theorem dX11_wantDay_74 : decode cX11_wantDay 74 = .ok (.invokevirtual 158, 3) := by decide +kernel
theorem dX11_wantDay_77 : decode cX11_wantDay 77 = .ok (.iastore, 1) := by decide +kernel
theorem dX11_wantDay_78 : decode cX11_wantDay 78 = .ok (.aload_n 0, 1) := by decide +kernel
theorem dX11_wantDay_79 : decode cX11_wantDay 79 = .ok (.getfield 46, 3) := by decide +kernel
theorem dX11_wantDay_82 : decode cX11_wantDay 82 = .ok (.iconst 1, 1) := by decide +kernel
theorem dX11_wantDay_83 : decode cX11_wantDay 83 = .ok (.aload_n 0, 1) := by decide +kernel
theorem dX11_wantDay_84 : decode cX11_wantDay 84 = .ok (.bipush 9, 2) := by decide +kernel
theorem dX11_wantDay_86 : decode cX11_wantDay 86 = .ok (.invokevirtual 158, 3) := by decide +kernel
theorem dX11_wantDay_89 : decode cX11_wantDay 89 = .ok (.iastore, 1) := by decide +kernel
theorem dX11_wantDay_90 : decode cX11_wantDay 90 = .ok (.aload_n 0, 1) := by decide +kernel
theorem dX11_wantDay_91 : decode cX11_wantDay 91 = .ok (.getfield 46, 3) := by decide +kernel
theorem dX11_wantDay_94 : decode cX11_wantDay 94 = .ok (.iconst 2, 1) := by decide +kernel
theorem dX11_wantDay_95 : decode cX11_wantDay 95 = .ok (.aload_n 0, 1) := by decide +kernel
theorem dX11_wantDay_96 : decode cX11_wantDay 96 = .ok (.bipush 9, 2) := by decide +kernel
theorem dX11_wantDay_98 : decode cX11_wantDay 98 = .ok (.invokevirtual 158, 3) := by decide +kernel
theorem dX11_wantDay_101 : decode cX11_wantDay 101 = .ok (.iastore, 1) := by decide +kernel
theorem dX11_wantDay_102 : decode cX11_wantDay 102 = .ok (.aload_n 0, 1) := by decide +kernel
theorem dX11_wantDay_103 : decode cX11_wantDay 103 = .ok (.aload_n 0, 1) := by decide +kernel
theorem dX11_wantDay_104 : decode cX11_wantDay 104 = .ok (.getfield 148, 3) := by decide +kernel
theorem dX11_wantDay_107 : decode cX11_wantDay 107 = .ok (.ifCond .eq 45, 3) := by decide +kernel
theorem dX11_wantDay_110 : decode cX11_wantDay 110 = .ok (.aload_n 0, 1) := by decide +kernel
theorem dX11_wantDay_111 : decode cX11_wantDay 111 = .ok (.getfield 116, 3) := by decide +kernel
theorem dX11_wantDay_114 : decode cX11_wantDay 114 = .ok (.iconst 2, 1) := by decide +kernel
theorem dX11_wantDay_115 : decode cX11_wantDay 115 = .ok (.if_icmp .ne 33, 3) := by decide +kernel
theorem dX11_wantDay_118 : decode cX11_wantDay 118 = .ok (.aload_n 0, 1) := by decide +kernel
theorem dX11_wantDay_119 : decode cX11_wantDay 119 = .ok (.getfield 123, 3) := by decide +kernel
theorem dX11_wantDay_122 : decode cX11_wantDay 122 = .ok (.ifCond .ne 26, 3) := by decide +kernel
theorem dX11_wantDay_125 : decode cX11_wantDay 125 = .ok (.aload_n 0, 1) := by decide +kernel
theorem dX11_wantDay_126 : decode cX11_wantDay 126 = .ok (.getfield 46, 3) := by decide +kernel
theorem dX11_wantDay_129 : decode cX11_wantDay 129 = .ok (.iconst 0, 1) := by decide +kernel
theorem dX11_wantDay_130 : decode cX11_wantDay 130 = .ok (.iaload, 1) := by decide +kernel
theorem dX11_wantDay_131 : decode cX11_wantDay 131 = .ok (.aload_n 0, 1) := by decide +kernel
theorem dX11_wantDay_132 : decode cX11_wantDay 132 = .ok (.getfield 46, 3) := by decide +kernel
theorem dX11_wantDay_135 : decode cX11_wantDay 135 = .ok (.iconst 1, 1) := by decide +kernel
theorem dX11_wantDay_136 : decode cX11_wantDay 136 = .ok (.iaload, 1) := by decide +kernel
theorem dX11_wantDay_137 : decode cX11_wantDay 137 = .ok (.iadd, 1) := by decide +kernel
theorem dX11_wantDay_138 : decode cX11_wantDay 138 = .ok (.aload_n 0, 1) := by decide +kernel
theorem dX11_wantDay_139 : decode cX11_wantDay 139 = .ok (.getfield 46, 3) := by decide +kernel
theorem dX11_wantDay_142 : decode cX11_wantDay 142 = .ok (.iconst 2, 1) := by decide +kernel
theorem dX11_wantDay_143 : decode cX11_wantDay 143 = .ok (.iaload, 1) := by decide +kernel
theorem dX11_wantDay_144 : decode cX11_wantDay 144 = .ok (.iadd, 1) := by decide +kernel
theorem dX11_wantDay_145 : decode cX11_wantDay 145 = .ok (.ifCond .eq 7, 3) := by decide +kernel
theorem dX11_wantDay_148 : decode cX11_wantDay 148 = .ok (.iconst 1, 1) := by decide +kernel
theorem dX11_wantDay_149 : decode cX11_wantDay 149 = .ok (.goto 4, 3) := by decide +kernel
theorem dX11_wantDay_152 : decode cX11_wantDay 152 = .ok (.iconst 0, 1) := by decide +kernel
theorem dX11_wantDay_153 : decode cX11_wantDay 153 = .ok (.putfield 148, 3) := by decide +kernel
theorem dX11_wantDay_156 : decode cX11_wantDay 156 = .ok (.aload_n 0, 1) := by decide +kernel
theorem dX11_wantDay_157 : decode cX11_wantDay 157 = .ok (.getfield 46, 3) := by decide +kernel
theorem dX11_wantDay_160 : decode cX11_wantDay 160 = .ok (.iconst 3, 1) := by decide +kernel
theorem dX11_wantDay_161 : decode cX11_wantDay 161 = .ok (.aload_n 0, 1) := by decide +kernel
theorem dX11_wantDay_162 : decode cX11_wantDay 162 = .ok (.bipush 9, 2) := by decide +kernel
theorem dX11_wantDay_164 : decode cX11_wantDay 164 = .ok (.invokevirtual 158, 3) := by decide +kernel
theorem dX11_wantDay_167 : decode cX11_wantDay 167 = .ok (.iastore, 1) := by decide +kernel
theorem dX11_wantDay_168 : decode cX11_wantDay 168 = .ok (.iconst (-1), 1) := by decide +kernel
theorem dX11_wantDay_169 : decode cX11_wantDay 169 = .ok (.istore_n 3, 1) := by decide +kernel
theorem dX11_wantDay_170 : decode cX11_wantDay 170 = .ok (.aload_n 0, 1) := by decide +kernel
theorem dX11_wantDay_171 : decode cX11_wantDay 171 = .ok (.getfield 148, 3) := by decide +kernel
theorem dX11_wantDay_174 : decode cX11_wantDay 174 = .ok (.ifCond .eq 23, 3) := by decide +kernel
theorem dX11_wantDay_177 : decode cX11_wantDay 177 = .ok (.aload_n 0, 1) := by decide +kernel
theorem dX11_wantDay_178 : decode cX11_wantDay 178 = .ok (.ldc2_w 169, 3) := by decide +kernel
theorem dX11_wantDay_181 : decode cX11_wantDay 181 = .ok (.invokevirtual 134, 3) := by decide +kernel
theorem dX11_wantDay_184 : decode cX11_wantDay 184 = .ok (.ifCond .eq 13, 3) := by decide +kernel
theorem dX11_wantDay_187 : decode cX11_wantDay 187 = .ok (.aload_n 0, 1) := by decide +kernel
theorem dX11_wantDay_188 : decode cX11_wantDay 188 = .ok (.invokevirtual 152, 3) := by decide +kernel
theorem dX11_wantDay_191 : decode cX11_wantDay 191 = .ok (.aload_n 0, 1) := by decide +kernel
theorem dX11_wantDay_192 : decode cX11_wantDay 192 = .ok (.iconst 3, 1) := by decide +kernel
theorem dX11_wantDay_193 : decode cX11_wantDay 193 = .ok (.invokevirtual 158, 3) := by decide +kernel
theorem dX11_wantDay_196 : decode cX11_wantDay 196 = .ok (.istore_n 3, 1) := by decide +kernel
theorem dX11_wantDay_197 : decode cX11_wantDay 197 = .ok (.aload_n 0, 1) := by decide +kernel
theorem dX11_wantDay_198 : decode cX11_wantDay 198 = .ok (.invokevirtual 171, 3) := by decide +kernel
theorem dX11_wantDay_201 : decode cX11_wantDay 201 = .ok (.aload_n 0, 1) := by decide +kernel
theorem dX11_wantDay_202 : decode cX11_wantDay 202 = .ok (.getfield 148, 3) := by decide +kernel
theorem dX11_wantDay_205 : decode cX11_wantDay 205 = .ok (.ifCond .eq 50, 3) := by decide +kernel
theorem dX11_wantDay_208 : decode cX11_wantDay 208 = .ok (.aload_n 0, 1) := by decide +kernel
theorem dX11_wantDay_209 : decode cX11_wantDay 209 = .ok (.getfield 31, 3) := by decide +kernel
theorem dX11_wantDay_212 : decode cX11_wantDay 212 = .ok (.iload_n 1, 1) := by decide +kernel
theorem dX11_wantDay_213 : decode cX11_wantDay 213 = .ok (.iload_n 2, 1) := by decide +kernel
theorem dX11_wantDay_214 : decode cX11_wantDay 214 = .ok (.iastore, 1) := by decide +kernel
theorem dX11_wantDay_215 : decode cX11_wantDay 215 = .ok (.aload_n 0, 1) := by decide +kernel
theorem dX11_wantDay_216 : decode cX11_wantDay 216 = .ok (.getfield 37, 3) := by decide +kernel
theorem dX11_wantDay_219 : decode cX11_wantDay 219 = .ok (.iload_n 1, 1) := by decide +kernel
theorem dX11_wantDay_220 : decode cX11_wantDay 220 = .ok (.iload_n 3, 1) := by decide +kernel
theorem dX11_wantDay_221 : decode cX11_wantDay 221 = .ok (.iastore, 1) := by decide +kernel
theorem dX11_wantDay_222 : decode cX11_wantDay 222 = .ok (.iconst 0, 1) := by decide +kernel
theorem dX11_wantDay_223 : decode cX11_wantDay 223 = .ok (.istore 4, 2) := by decide +kernel
theorem dX11_wantDay_225 : decode cX11_wantDay 225 = .ok (.iload 4, 2) := by decide +kernel
theorem dX11_wantDay_227 : decode cX11_wantDay 227 = .ok (.iconst 4, 1) := by decide +kernel
theorem dX11_wantDay_228 : decode cX11_wantDay 228 = .ok (.if_icmp .ge 27, 3) := by decide +kernel
theorem dX11_wantDay_231 : decode cX11_wantDay 231 = .ok (.aload_n 0, 1) := by decide +kernel
theorem dX11_wantDay_232 : decode cX11_wantDay 232 = .ok (.getfield 34, 3) := by decide +kernel
theorem dX11_wantDay_235 : decode cX11_wantDay 235 = .ok (.iconst 4, 1) := by decide +kernel
theorem dX11_wantDay_236 : decode cX11_wantDay 236 = .ok (.iload_n 1, 1) := by decide +kernel
theorem dX11_wantDay_237 : decode cX11_wantDay 237 = .ok (.imul, 1) := by decide +kernel
theorem dX11_wantDay_238 : decode cX11_wantDay 238 = .ok (.iload 4, 2) := by decide +kernel
theorem dX11_wantDay_240 : decode cX11_wantDay 240 = .ok (.iadd, 1) := by decide +kernel
theorem dX11_wantDay_241 : decode cX11_wantDay 241 = .ok (.aload_n 0, 1) := by decide +kernel
theorem dX11_wantDay_242 : decode cX11_wantDay 242 = .ok (.getfield 46, 3) := by decide +kernel
theorem dX11_wantDay_245 : decode cX11_wantDay 245 = .ok (.iload 4, 2) := by decide +kernel
theorem dX11_wantDay_247 : decode cX11_wantDay 247 = .ok (.iaload, 1) := by decide +kernel
theorem dX11_wantDay_248 : decode cX11_wantDay 248 = .ok (.iastore, 1) := by decide +kernel
theorem dX11_wantDay_249 : decode cX11_wantDay 249 = .ok (.iinc 4 1, 3) := by decide +kernel
theorem dX11_wantDay_252 : decode cX11_wantDay 252 = .ok (.goto (-27), 3) := by decide +kernel
theorem dX11_wantDay_255 : decode cX11_wantDay 255 = .ok (.return_, 1) := by decide +kernel
theorem dX11_isFreshSaid_0 : decode cX11_isFreshSaid 0 = .ok (.iconst 0, 1) := by decide +kernel
theorem dX11_isFreshSaid_1 : decode cX11_isFreshSaid 1 = .ok (.istore_n 3, 1) := by decide +kernel
theorem dX11_isFreshSaid_2 : decode cX11_isFreshSaid 2 = .ok (.iconst 0, 1) := by decide +kernel
theorem dX11_isFreshSaid_3 : decode cX11_isFreshSaid 3 = .ok (.istore 4, 2) := by decide +kernel
theorem dX11_isFreshSaid_5 : decode cX11_isFreshSaid 5 = .ok (.iload 4, 2) := by decide +kernel
theorem dX11_isFreshSaid_7 : decode cX11_isFreshSaid 7 = .ok (.aload_n 0, 1) := by decide +kernel
theorem dX11_isFreshSaid_8 : decode cX11_isFreshSaid 8 = .ok (.getfield 174, 3) := by decide +kernel
theorem dX11_isFreshSaid_11 : decode cX11_isFreshSaid 11 = .ok (.if_icmp .ge 49, 3) := by decide +kernel
theorem dX11_isFreshSaid_14 : decode cX11_isFreshSaid 14 = .ok (.iload_n 3, 1) := by decide +kernel
theorem dX11_isFreshSaid_15 : decode cX11_isFreshSaid 15 = .ok (.ifCond .ne 33, 3) := by decide +kernel
theorem dX11_isFreshSaid_18 : decode cX11_isFreshSaid 18 = .ok (.aload_n 0, 1) := by decide +kernel
theorem dX11_isFreshSaid_19 : decode cX11_isFreshSaid 19 = .ok (.getfield 43, 3) := by decide +kernel
theorem dX11_isFreshSaid_22 : decode cX11_isFreshSaid 22 = .ok (.iconst 3, 1) := by decide +kernel
theorem dX11_isFreshSaid_23 : decode cX11_isFreshSaid 23 = .ok (.iload 4, 2) := by decide +kernel
theorem dX11_isFreshSaid_25 : decode cX11_isFreshSaid 25 = .ok (.imul, 1) := by decide +kernel
theorem dX11_isFreshSaid_26 : decode cX11_isFreshSaid 26 = .ok (.iconst 1, 1) := by decide +kernel
theorem dX11_isFreshSaid_27 : decode cX11_isFreshSaid 27 = .ok (.iadd, 1) := by decide +kernel
theorem dX11_isFreshSaid_28 : decode cX11_isFreshSaid 28 = .ok (.iaload, 1) := by decide +kernel
theorem dX11_isFreshSaid_29 : decode cX11_isFreshSaid 29 = .ok (.iload_n 1, 1) := by decide +kernel
theorem dX11_isFreshSaid_30 : decode cX11_isFreshSaid 30 = .ok (.if_icmp .ne 22, 3) := by decide +kernel
theorem dX11_isFreshSaid_33 : decode cX11_isFreshSaid 33 = .ok (.aload_n 0, 1) := by decide +kernel
theorem dX11_isFreshSaid_34 : decode cX11_isFreshSaid 34 = .ok (.getfield 43, 3) := by decide +kernel
theorem dX11_isFreshSaid_37 : decode cX11_isFreshSaid 37 = .ok (.iconst 3, 1) := by decide +kernel
theorem dX11_isFreshSaid_38 : decode cX11_isFreshSaid 38 = .ok (.iload 4, 2) := by decide +kernel
theorem dX11_isFreshSaid_40 : decode cX11_isFreshSaid 40 = .ok (.imul, 1) := by decide +kernel
theorem dX11_isFreshSaid_41 : decode cX11_isFreshSaid 41 = .ok (.iconst 2, 1) := by decide +kernel
theorem dX11_isFreshSaid_42 : decode cX11_isFreshSaid 42 = .ok (.iadd, 1) := by decide +kernel
theorem dX11_isFreshSaid_43 : decode cX11_isFreshSaid 43 = .ok (.iaload, 1) := by decide +kernel
theorem dX11_isFreshSaid_44 : decode cX11_isFreshSaid 44 = .ok (.iload_n 2, 1) := by decide +kernel
theorem dX11_isFreshSaid_45 : decode cX11_isFreshSaid 45 = .ok (.if_icmp .ne 7, 3) := by decide +kernel
theorem dX11_isFreshSaid_48 : decode cX11_isFreshSaid 48 = .ok (.iconst 1, 1) := by decide +kernel
theorem dX11_isFreshSaid_49 : decode cX11_isFreshSaid 49 = .ok (.goto 4, 3) := by decide +kernel
theorem dX11_isFreshSaid_52 : decode cX11_isFreshSaid 52 = .ok (.iconst 0, 1) := by decide +kernel
theorem dX11_isFreshSaid_53 : decode cX11_isFreshSaid 53 = .ok (.istore_n 3, 1) := by decide +kernel
theorem dX11_isFreshSaid_54 : decode cX11_isFreshSaid 54 = .ok (.iinc 4 1, 3) := by decide +kernel
theorem dX11_isFreshSaid_57 : decode cX11_isFreshSaid 57 = .ok (.goto (-52), 3) := by decide +kernel
theorem dX11_isFreshSaid_60 : decode cX11_isFreshSaid 60 = .ok (.iload_n 3, 1) := by decide +kernel
theorem dX11_isFreshSaid_61 : decode cX11_isFreshSaid 61 = .ok (.ireturn, 1) := by decide +kernel
theorem dX11_wantSaying_0 : decode cX11_wantSaying 0 = .ok (.aload_n 0, 1) := by decide +kernel
theorem dX11_wantSaying_1 : decode cX11_wantSaying 1 = .ok (.aload_n 0, 1) := by decide +kernel
theorem dX11_wantSaying_2 : decode cX11_wantSaying 2 = .ok (.getfield 174, 3) := by decide +kernel
theorem dX11_wantSaying_5 : decode cX11_wantSaying 5 = .ok (.bipush 40, 2) := by decide +kernel
theorem dX11_wantSaying_7 : decode cX11_wantSaying 7 = .ok (.if_icmp .ge 7, 3) := by decide +kernel
theorem dX11_wantSaying_10 : decode cX11_wantSaying 10 = .ok (.iconst 1, 1) := by decide +kernel
theorem dX11_wantSaying_11 : decode cX11_wantSaying 11 = .ok (.goto 4, 3) := by decide +kernel
theorem dX11_wantSaying_14 : decode cX11_wantSaying 14 = .ok (.iconst 0, 1) := by decide +kernel
theorem dX11_wantSaying_15 : decode cX11_wantSaying 15 = .ok (.putfield 148, 3) := by decide +kernel
theorem dX11_wantSaying_18 : decode cX11_wantSaying 18 = .ok (.aload_n 0, 1) := by decide +kernel
theorem dX11_wantSaying_19 : decode cX11_wantSaying 19 = .ok (.getfield 148, 3) := by decide +kernel
theorem dX11_wantSaying_22 : decode cX11_wantSaying 22 = .ok (.ifCond .eq 7, 3) := by decide +kernel
theorem dX11_wantSaying_25 : decode cX11_wantSaying 25 = .ok (.aload_n 0, 1) := by decide +kernel
theorem dX11_wantSaying_26 : decode cX11_wantSaying 26 = .ok (.invokevirtual 152, 3) := by decide +kernel
theorem dX11_wantSaying_29 : decode cX11_wantSaying 29 = .ok (.aload_n 0, 1) := by decide +kernel
theorem dX11_wantSaying_30 : decode cX11_wantSaying 30 = .ok (.aload_n 0, 1) := by decide +kernel
theorem dX11_wantSaying_31 : decode cX11_wantSaying 31 = .ok (.getfield 177, 3) := by decide +kernel
theorem dX11_wantSaying_34 : decode cX11_wantSaying 34 = .ok (.iconst 1, 1) := by decide +kernel
theorem dX11_wantSaying_35 : decode cX11_wantSaying 35 = .ok (.isub, 1) := by decide +kernel
theorem dX11_wantSaying_36 : decode cX11_wantSaying 36 = .ok (.invokevirtual 158, 3) := by decide +kernel
theorem dX11_wantSaying_39 : decode cX11_wantSaying 39 = .ok (.istore_n 1, 1) := by decide +kernel
theorem dX11_wantSaying_40 : decode cX11_wantSaying 40 = .ok (.aload_n 0, 1) := by decide +kernel
theorem dX11_wantSaying_41 : decode cX11_wantSaying 41 = .ok (.bipush 19, 2) := by decide +kernel
theorem dX11_wantSaying_43 : decode cX11_wantSaying 43 = .ok (.invokevirtual 158, 3) := by decide +kernel
theorem dX11_wantSaying_46 : decode cX11_wantSaying 46 = .ok (.istore_n 2, 1) := by decide +kernel
theorem dX11_wantSaying_47 : decode cX11_wantSaying 47 = .ok (.aload_n 0, 1) := by decide +kernel
theorem dX11_wantSaying_48 : decode cX11_wantSaying 48 = .ok (.aload_n 0, 1) := by decide +kernel
theorem dX11_wantSaying_49 : decode cX11_wantSaying 49 = .ok (.getfield 148, 3) := by decide +kernel
theorem dX11_wantSaying_52 : decode cX11_wantSaying 52 = .ok (.ifCond .eq 27, 3) := by decide +kernel
theorem dX11_wantSaying_55 : decode cX11_wantSaying 55 = .ok (.aload_n 0, 1) := by decide +kernel
theorem dX11_wantSaying_56 : decode cX11_wantSaying 56 = .ok (.getfield 116, 3) := by decide +kernel
theorem dX11_wantSaying_59 : decode cX11_wantSaying 59 = .ok (.iconst 2, 1) := by decide +kernel
theorem dX11_wantSaying_60 : decode cX11_wantSaying 60 = .ok (.if_icmp .ne 15, 3) := by decide +kernel
theorem dX11_wantSaying_63 : decode cX11_wantSaying 63 = .ok (.aload_n 0, 1) := by decide +kernel
theorem dX11_wantSaying_64 : decode cX11_wantSaying 64 = .ok (.iload_n 2, 1) := by decide +kernel
theorem dX11_wantSaying_65 : decode cX11_wantSaying 65 = .ok (.aload_n 0, 1) := by decide +kernel
theorem dX11_wantSaying_66 : decode cX11_wantSaying 66 = .ok (.getfield 123, 3) := by decide +kernel
theorem dX11_wantSaying_69 : decode cX11_wantSaying 69 = .ok (.invokevirtual 180, 3) := by decide +kernel
theorem dX11_wantSaying_72 : decode cX11_wantSaying 72 = .ok (.ifCond .ne 7, 3) := by decide +kernel
theorem dX11_wantSaying_75 : decode cX11_wantSaying 75 = .ok (.iconst 1, 1) := by decide +kernel
theorem dX11_wantSaying_76 : decode cX11_wantSaying 76 = .ok (.goto 4, 3) := by decide +kernel
theorem dX11_wantSaying_79 : decode cX11_wantSaying 79 = .ok (.iconst 0, 1) := by decide +kernel
theorem dX11_wantSaying_80 : decode cX11_wantSaying 80 = .ok (.putfield 148, 3) := by decide +kernel
theorem dX11_wantSaying_83 : decode cX11_wantSaying 83 = .ok (.aload_n 0, 1) := by decide +kernel
theorem dX11_wantSaying_84 : decode cX11_wantSaying 84 = .ok (.iconst 3, 1) := by decide +kernel
theorem dX11_wantSaying_85 : decode cX11_wantSaying 85 = .ok (.invokevirtual 158, 3) := by decide +kernel
theorem dX11_wantSaying_88 : decode cX11_wantSaying 88 = .ok (.istore_n 3, 1) := by decide +kernel
theorem dX11_wantSaying_89 : decode cX11_wantSaying 89 = .ok (.aload_n 0, 1) := by decide +kernel
theorem dX11_wantSaying_90 : decode cX11_wantSaying 90 = .ok (.invokevirtual 171, 3) := by decide +kernel
theorem dX11_wantSaying_93 : decode cX11_wantSaying 93 = .ok (.aload_n 0, 1) := by decide +kernel
theorem dX11_wantSaying_94 : decode cX11_wantSaying 94 = .ok (.getfield 148, 3) := by decide +kernel
theorem dX11_wantSaying_97 : decode cX11_wantSaying 97 = .ok (.ifCond .eq 53, 3) := by decide +kernel
theorem dX11_wantSaying_100 : decode cX11_wantSaying 100 = .ok (.aload_n 0, 1) := by decide +kernel
theorem dX11_wantSaying_101 : decode cX11_wantSaying 101 = .ok (.getfield 43, 3) := by decide +kernel
theorem dX11_wantSaying_104 : decode cX11_wantSaying 104 = .ok (.iconst 3, 1) := by decide +kernel
theorem dX11_wantSaying_105 : decode cX11_wantSaying 105 = .ok (.aload_n 0, 1) := by decide +kernel
theorem dX11_wantSaying_106 : decode cX11_wantSaying 106 = .ok (.getfield 174, 3) := by decide +kernel
theorem dX11_wantSaying_109 : decode cX11_wantSaying 109 = .ok (.imul, 1) := by decide +kernel
theorem dX11_wantSaying_110 : decode cX11_wantSaying 110 = .ok (.iload_n 1, 1) := by decide +kernel
theorem dX11_wantSaying_111 : decode cX11_wantSaying 111 = .ok (.iastore, 1) := by decide +kernel
theorem dX11_wantSaying_112 : decode cX11_wantSaying 112 = .ok (.aload_n 0, 1) := by decide +kernel
theorem dX11_wantSaying_113 : decode cX11_wantSaying 113 = .ok (.getfield 43, 3) := by decide +kernel
theorem dX11_wantSaying_116 : decode cX11_wantSaying 116 = .ok (.iconst 3, 1) := by decide +kernel
theorem dX11_wantSaying_117 : decode cX11_wantSaying 117 = .ok (.aload_n 0, 1) := by decide +kernel
theorem dX11_wantSaying_118 : decode cX11_wantSaying 118 = .ok (.getfield 174, 3) := by decide +kernel
theorem dX11_wantSaying_121 : decode cX11_wantSaying 121 = .ok (.imul, 1) := by decide +kernel
theorem dX11_wantSaying_122 : decode cX11_wantSaying 122 = .ok (.iconst 1, 1) := by decide +kernel
theorem dX11_wantSaying_123 : decode cX11_wantSaying 123 = .ok (.iadd, 1) := by decide +kernel
theorem dX11_wantSaying_124 : decode cX11_wantSaying 124 = .ok (.iload_n 2, 1) := by decide +kernel
theorem dX11_wantSaying_125 : decode cX11_wantSaying 125 = .ok (.iastore, 1) := by decide +kernel
theorem dX11_wantSaying_126 : decode cX11_wantSaying 126 = .ok (.aload_n 0, 1) := by decide +kernel
theorem dX11_wantSaying_127 : decode cX11_wantSaying 127 = .ok (.getfield 43, 3) := by decide +kernel
theorem dX11_wantSaying_130 : decode cX11_wantSaying 130 = .ok (.iconst 3, 1) := by decide +kernel
theorem dX11_wantSaying_131 : decode cX11_wantSaying 131 = .ok (.aload_n 0, 1) := by decide +kernel
theorem dX11_wantSaying_132 : decode cX11_wantSaying 132 = .ok (.getfield 174, 3) := by decide +kernel
theorem dX11_wantSaying_135 : decode cX11_wantSaying 135 = .ok (.imul, 1) := by decide +kernel
theorem dX11_wantSaying_136 : decode cX11_wantSaying 136 = .ok (.iconst 2, 1) := by decide +kernel
theorem dX11_wantSaying_137 : decode cX11_wantSaying 137 = .ok (.iadd, 1) := by decide +kernel
theorem dX11_wantSaying_138 : decode cX11_wantSaying 138 = .ok (.iload_n 3, 1) := by decide +kernel
theorem dX11_wantSaying_139 : decode cX11_wantSaying 139 = .ok (.iastore, 1) := by decide +kernel
theorem dX11_wantSaying_140 : decode cX11_wantSaying 140 = .ok (.aload_n 0, 1) := by decide +kernel
theorem dX11_wantSaying_141 : decode cX11_wantSaying 141 = .ok (.dup, 1) := by decide +kernel
theorem dX11_wantSaying_142 : decode cX11_wantSaying 142 = .ok (.getfield 174, 3) := by decide +kernel
theorem dX11_wantSaying_145 : decode cX11_wantSaying 145 = .ok (.iconst 1, 1) := by decide +kernel
theorem dX11_wantSaying_146 : decode cX11_wantSaying 146 = .ok (.iadd, 1) := by decide +kernel
theorem dX11_wantSaying_147 : decode cX11_wantSaying 147 = .ok (.putfield 174, 3) := by decide +kernel
theorem dX11_wantSaying_150 : decode cX11_wantSaying 150 = .ok (.return_, 1) := by decide +kernel
theorem dX11_wantSayer_0 : decode cX11_wantSayer 0 = .ok (.aload_n 0, 1) := by decide +kernel
theorem dX11_wantSayer_1 : decode cX11_wantSayer 1 = .ok (.aload_n 0, 1) := by decide +kernel
theorem dX11_wantSayer_2 : decode cX11_wantSayer 2 = .ok (.getfield 177, 3) := by decide +kernel
theorem dX11_wantSayer_5 : decode cX11_wantSayer 5 = .ok (.iconst 5, 1) := by decide +kernel
theorem dX11_wantSayer_6 : decode cX11_wantSayer 6 = .ok (.if_icmp .ge 7, 3) := by decide +kernel
theorem dX11_wantSayer_9 : decode cX11_wantSayer 9 = .ok (.iconst 1, 1) := by decide +kernel
theorem dX11_wantSayer_10 : decode cX11_wantSayer 10 = .ok (.goto 4, 3) := by decide +kernel
theorem dX11_wantSayer_13 : decode cX11_wantSayer 13 = .ok (.iconst 0, 1) := by decide +kernel
theorem dX11_wantSayer_14 : decode cX11_wantSayer 14 = .ok (.putfield 148, 3) := by decide +kernel
theorem dX11_wantSayer_17 : decode cX11_wantSayer 17 = .ok (.aload_n 0, 1) := by decide +kernel
theorem dX11_wantSayer_18 : decode cX11_wantSayer 18 = .ok (.getfield 148, 3) := by decide +kernel
theorem dX11_wantSayer_21 : decode cX11_wantSayer 21 = .ok (.ifCond .eq 7, 3) := by decide +kernel
theorem dX11_wantSayer_24 : decode cX11_wantSayer 24 = .ok (.aload_n 0, 1) := by decide +kernel
theorem dX11_wantSayer_25 : decode cX11_wantSayer 25 = .ok (.invokevirtual 152, 3) := by decide +kernel
theorem dX11_wantSayer_28 : decode cX11_wantSayer 28 = .ok (.aload_n 0, 1) := by decide +kernel
theorem dX11_wantSayer_29 : decode cX11_wantSayer 29 = .ok (.bipush 9, 2) := by decide +kernel
theorem dX11_wantSayer_31 : decode cX11_wantSayer 31 = .ok (.invokevirtual 158, 3) := by decide +kernel
theorem dX11_wantSayer_34 : decode cX11_wantSayer 34 = .ok (.istore_n 2, 1) := by decide +kernel
theorem dX11_wantSayer_35 : decode cX11_wantSayer 35 = .ok (.aload_n 0, 1) := by decide +kernel
theorem dX11_wantSayer_36 : decode cX11_wantSayer 36 = .ok (.invokevirtual 171, 3) := by decide +kernel
theorem dX11_wantSayer_39 : decode cX11_wantSayer 39 = .ok (.aload_n 0, 1) := by decide +kernel
theorem dX11_wantSayer_40 : decode cX11_wantSayer 40 = .ok (.getfield 148, 3) := by decide +kernel
theorem dX11_wantSayer_43 : decode cX11_wantSayer 43 = .ok (.ifCond .eq 39, 3) := by decide +kernel
theorem dX11_wantSayer_46 : decode cX11_wantSayer 46 = .ok (.aload_n 0, 1) := by decide +kernel
theorem dX11_wantSayer_47 : decode cX11_wantSayer 47 = .ok (.getfield 40, 3) := by decide +kernel
theorem dX11_wantSayer_50 : decode cX11_wantSayer 50 = .ok (.iconst 2, 1) := by decide +kernel
theorem dX11_wantSayer_51 : decode cX11_wantSayer 51 = .ok (.aload_n 0, 1) := by decide +kernel
theorem dX11_wantSayer_52 : decode cX11_wantSayer 52 = .ok (.getfield 177, 3) := by decide +kernel
theorem dX11_wantSayer_55 : decode cX11_wantSayer 55 = .ok (.imul, 1) := by decide +kernel
theorem dX11_wantSayer_56 : decode cX11_wantSayer 56 = .ok (.iload_n 1, 1) := by decide +kernel
theorem dX11_wantSayer_57 : decode cX11_wantSayer 57 = .ok (.iastore, 1) := by decide +kernel
theorem dX11_wantSayer_58 : decode cX11_wantSayer 58 = .ok (.aload_n 0, 1) := by decide +kernel
theorem dX11_wantSayer_59 : decode cX11_wantSayer 59 = .ok (.getfield 40, 3) := by decide +kernel
theorem dX11_wantSayer_62 : decode cX11_wantSayer 62 = .ok (.iconst 2, 1) := by decide +kernel
theorem dX11_wantSayer_63 : decode cX11_wantSayer 63 = .ok (.aload_n 0, 1) := by decide +kernel
theorem dX11_wantSayer_64 : decode cX11_wantSayer 64 = .ok (.getfield 177, 3) := by decide +kernel
theorem dX11_wantSayer_67 : decode cX11_wantSayer 67 = .ok (.imul, 1) := by decide +kernel
theorem dX11_wantSayer_68 : decode cX11_wantSayer 68 = .ok (.iconst 1, 1) := by decide +kernel
theorem dX11_wantSayer_69 : decode cX11_wantSayer 69 = .ok (.iadd, 1) := by decide +kernel
theorem dX11_wantSayer_70 : decode cX11_wantSayer 70 = .ok (.iload_n 2, 1) := by decide +kernel
theorem dX11_wantSayer_71 : decode cX11_wantSayer 71 = .ok (.iastore, 1) := by decide +kernel
theorem dX11_wantSayer_72 : decode cX11_wantSayer 72 = .ok (.aload_n 0, 1) := by decide +kernel
theorem dX11_wantSayer_73 : decode cX11_wantSayer 73 = .ok (.dup, 1) := by decide +kernel
theorem dX11_wantSayer_74 : decode cX11_wantSayer 74 = .ok (.getfield 177, 3) := by decide +kernel
theorem dX11_wantSayer_77 : decode cX11_wantSayer 77 = .ok (.iconst 1, 1) := by decide +kernel
theorem dX11_wantSayer_78 : decode cX11_wantSayer 78 = .ok (.iadd, 1) := by decide +kernel
theorem dX11_wantSayer_79 : decode cX11_wantSayer 79 = .ok (.putfield 177, 3) := by decide +kernel
theorem dX11_wantSayer_82 : decode cX11_wantSayer 82 = .ok (.return_, 1) := by decide +kernel
theorem dX11_wantClause_0 : decode cX11_wantClause 0 = .ok (.aload_n 0, 1) := by decide +kernel
theorem dX11_wantClause_1 : decode cX11_wantClause 1 = .ok (.ldc2_w 184, 3) := by decide +kernel
theorem dX11_wantClause_4 : decode cX11_wantClause 4 = .ok (.invokevirtual 134, 3) := by decide +kernel
theorem dX11_wantClause_7 : decode cX11_wantClause 7 = .ok (.ifCond .eq 10, 3) := by decide +kernel
theorem dX11_wantClause_10 : decode cX11_wantClause 10 = .ok (.aload_n 0, 1) := by decide +kernel
theorem dX11_wantClause_11 : decode cX11_wantClause 11 = .ok (.invokevirtual 186, 3) := by decide +kernel
theorem dX11_wantClause_14 : decode cX11_wantClause 14 = .ok (.goto 74, 3) := by decide +kernel
theorem dX11_wantClause_17 : decode cX11_wantClause 17 = .ok (.aload_n 0, 1) := by decide +kernel
theorem dX11_wantClause_18 : decode cX11_wantClause 18 = .ok (.ldc2_w 189, 3) := by decide +kernel
theorem dX11_wantClause_21 : decode cX11_wantClause 21 = .ok (.invokevirtual 134, 3) := by decide +kernel
theorem dX11_wantClause_24 : decode cX11_wantClause 24 = .ok (.ifCond .eq 10, 3) := by decide +kernel
theorem dX11_wantClause_27 : decode cX11_wantClause 27 = .ok (.aload_n 0, 1) := by decide +kernel
theorem dX11_wantClause_28 : decode cX11_wantClause 28 = .ok (.invokevirtual 191, 3) := by decide +kernel
theorem dX11_wantClause_31 : decode cX11_wantClause 31 = .ok (.goto 57, 3) := by decide +kernel
theorem dX11_wantClause_34 : decode cX11_wantClause 34 = .ok (.aload_n 0, 1) := by decide +kernel
theorem dX11_wantClause_35 : decode cX11_wantClause 35 = .ok (.ldc2_w 194, 3) := by decide +kernel
theorem dX11_wantClause_38 : decode cX11_wantClause 38 = .ok (.invokevirtual 134, 3) := by decide +kernel
theorem dX11_wantClause_41 : decode cX11_wantClause 41 = .ok (.ifCond .eq 24, 3) := by decide +kernel
theorem dX11_wantClause_44 : decode cX11_wantClause 44 = .ok (.aload_n 0, 1) := by decide +kernel
theorem dX11_wantClause_45 : decode cX11_wantClause 45 = .ok (.invokevirtual 152, 3) := by decide +kernel
theorem dX11_wantClause_48 : decode cX11_wantClause 48 = .ok (.aload_n 0, 1) := by decide +kernel
theorem dX11_wantClause_49 : decode cX11_wantClause 49 = .ok (.aload_n 0, 1) := by decide +kernel
theorem dX11_wantClause_50 : decode cX11_wantClause 50 = .ok (.bipush 20, 2) := by decide +kernel
theorem dX11_wantClause_52 : decode cX11_wantClause 52 = .ok (.invokevirtual 158, 3) := by decide +kernel
theorem dX11_wantClause_55 : decode cX11_wantClause 55 = .ok (.putfield 196, 3) := by decide +kernel
theorem dX11_wantClause_58 : decode cX11_wantClause 58 = .ok (.aload_n 0, 1) := by decide +kernel
theorem dX11_wantClause_59 : decode cX11_wantClause 59 = .ok (.invokevirtual 171, 3) := by decide +kernel
theorem dX11_wantClause_62 : decode cX11_wantClause 62 = .ok (.goto 26, 3) := by decide +kernel
theorem dX11_wantClause_65 : decode cX11_wantClause 65 = .ok (.aload_n 0, 1) := by decide +kernel
theorem dX11_wantClause_66 : decode cX11_wantClause 66 = .ok (.invokevirtual 199, 3) := by decide +kernel
theorem dX11_wantClause_69 : decode cX11_wantClause 69 = .ok (.ifCond .lt 14, 3) := by decide +kernel
theorem dX11_wantClause_72 : decode cX11_wantClause 72 = .ok (.aload_n 0, 1) := by decide +kernel
theorem dX11_wantClause_73 : decode cX11_wantClause 73 = .ok (.aload_n 0, 1) := by decide +kernel
theorem dX11_wantClause_74 : decode cX11_wantClause 74 = .ok (.invokevirtual 199, 3) := by decide +kernel
theorem dX11_wantClause_77 : decode cX11_wantClause 77 = .ok (.invokevirtual 203, 3) := by decide +kernel
theorem dX11_wantClause_80 : decode cX11_wantClause 80 = .ok (.goto 8, 3) := by decide +kernel
theorem dX11_wantClause_83 : decode cX11_wantClause 83 = .ok (.aload_n 0, 1) := by decide +kernel
theorem dX11_wantClause_84 : decode cX11_wantClause 84 = .ok (.iconst 0, 1) := by decide +kernel
theorem dX11_wantClause_85 : decode cX11_wantClause 85 = .ok (.putfield 148, 3) := by decide +kernel
theorem dX11_wantClause_88 : decode cX11_wantClause 88 = .ok (.return_, 1) := by decide +kernel
theorem dX11_clerk_0 : decode cX11_clerk 0 = .ok (.aload_n 0, 1) := by decide +kernel
theorem dX11_clerk_1 : decode cX11_clerk 1 = .ok (.iconst 0, 1) := by decide +kernel
theorem dX11_clerk_2 : decode cX11_clerk 2 = .ok (.putfield 99, 3) := by decide +kernel
theorem dX11_clerk_5 : decode cX11_clerk 5 = .ok (.aload_n 0, 1) := by decide +kernel
theorem dX11_clerk_6 : decode cX11_clerk 6 = .ok (.iconst 1, 1) := by decide +kernel
theorem dX11_clerk_7 : decode cX11_clerk 7 = .ok (.putfield 148, 3) := by decide +kernel
theorem dX11_clerk_10 : decode cX11_clerk 10 = .ok (.aload_n 0, 1) := by decide +kernel
theorem dX11_clerk_11 : decode cX11_clerk 11 = .ok (.iconst 0, 1) := by decide +kernel
theorem dX11_clerk_12 : decode cX11_clerk 12 = .ok (.putfield 196, 3) := by decide +kernel
theorem dX11_clerk_15 : decode cX11_clerk 15 = .ok (.aload_n 0, 1) := by decide +kernel
theorem dX11_clerk_16 : decode cX11_clerk 16 = .ok (.iconst 0, 1) := by decide +kernel
theorem dX11_clerk_17 : decode cX11_clerk 17 = .ok (.putfield 177, 3) := by decide +kernel
theorem dX11_clerk_20 : decode cX11_clerk 20 = .ok (.aload_n 0, 1) := by decide +kernel
theorem dX11_clerk_21 : decode cX11_clerk 21 = .ok (.iconst 0, 1) := by decide +kernel
theorem dX11_clerk_22 : decode cX11_clerk 22 = .ok (.putfield 174, 3) := by decide +kernel
theorem dX11_clerk_25 : decode cX11_clerk 25 = .ok (.iconst 0, 1) := by decide +kernel
theorem dX11_clerk_26 : decode cX11_clerk 26 = .ok (.istore_n 1, 1) := by decide +kernel
theorem dX11_clerk_27 : decode cX11_clerk 27 = .ok (.iload_n 1, 1) := by decide +kernel
theorem dX11_clerk_28 : decode cX11_clerk 28 = .ok (.bipush 20, 2) := by decide +kernel
theorem dX11_clerk_30 : decode cX11_clerk 30 = .ok (.if_icmp .ge 24, 3) := by decide +kernel
theorem dX11_clerk_33 : decode cX11_clerk 33 = .ok (.aload_n 0, 1) := by decide +kernel
theorem dX11_clerk_34 : decode cX11_clerk 34 = .ok (.getfield 31, 3) := by decide +kernel
theorem dX11_clerk_37 : decode cX11_clerk 37 = .ok (.iload_n 1, 1) := by decide +kernel
theorem dX11_clerk_38 : decode cX11_clerk 38 = .ok (.bipush 10, 2) := by decide +kernel
theorem dX11_clerk_40 : decode cX11_clerk 40 = .ok (.iastore, 1) := by decide +kernel
theorem dX11_clerk_41 : decode cX11_clerk 41 = .ok (.aload_n 0, 1) := by decide +kernel
theorem dX11_clerk_42 : decode cX11_clerk 42 = .ok (.getfield 37, 3) := by decide +kernel
theorem dX11_clerk_45 : decode cX11_clerk 45 = .ok (.iload_n 1, 1) := by decide +kernel
theorem dX11_clerk_46 : decode cX11_clerk 46 = .ok (.iconst (-1), 1) := by decide +kernel
theorem dX11_clerk_47 : decode cX11_clerk 47 = .ok (.iastore, 1) := by decide +kernel
theorem dX11_clerk_48 : decode cX11_clerk 48 = .ok (.iinc 1 1, 3) := by decide +kernel
theorem dX11_clerk_51 : decode cX11_clerk 51 = .ok (.goto (-24), 3) := by decide +kernel
theorem dX11_clerk_54 : decode cX11_clerk 54 = .ok (.iconst 0, 1) := by decide +kernel
theorem dX11_clerk_55 : decode cX11_clerk 55 = .ok (.istore_n 1, 1) := by decide +kernel
theorem dX11_clerk_56 : decode cX11_clerk 56 = .ok (.iload_n 1, 1) := by decide +kernel
theorem dX11_clerk_57 : decode cX11_clerk 57 = .ok (.bipush 80, 2) := by decide +kernel
theorem dX11_clerk_59 : decode cX11_clerk 59 = .ok (.if_icmp .ge 16, 3) := by decide +kernel
theorem dX11_clerk_62 : decode cX11_clerk 62 = .ok (.aload_n 0, 1) := by decide +kernel
theorem dX11_clerk_63 : decode cX11_clerk 63 = .ok (.getfield 34, 3) := by decide +kernel
theorem dX11_clerk_66 : decode cX11_clerk 66 = .ok (.iload_n 1, 1) := by decide +kernel
theorem dX11_clerk_67 : decode cX11_clerk 67 = .ok (.iconst 1, 1) := by decide +kernel
theorem dX11_clerk_68 : decode cX11_clerk 68 = .ok (.iastore, 1) := by decide +kernel
theorem dX11_clerk_69 : decode cX11_clerk 69 = .ok (.iinc 1 1, 3) := by decide +kernel
theorem dX11_clerk_72 : decode cX11_clerk 72 = .ok (.goto (-16), 3) := by decide +kernel
theorem dX11_clerk_75 : decode cX11_clerk 75 = .ok (.aload_n 0, 1) := by decide +kernel
theorem dX11_clerk_76 : decode cX11_clerk 76 = .ok (.invokevirtual 152, 3) := by decide +kernel
theorem dX11_clerk_79 : decode cX11_clerk 79 = .ok (.aload_n 0, 1) := by decide +kernel
theorem dX11_clerk_80 : decode cX11_clerk 80 = .ok (.getfield 148, 3) := by decide +kernel
theorem dX11_clerk_83 : decode cX11_clerk 83 = .ok (.ifCond .eq 17, 3) := by decide +kernel
theorem dX11_clerk_86 : decode cX11_clerk 86 = .ok (.aload_n 0, 1) := by decide +kernel
theorem dX11_clerk_87 : decode cX11_clerk 87 = .ok (.getfield 116, 3) := by decide +kernel
theorem dX11_clerk_90 : decode cX11_clerk 90 = .ok (.ifCond .eq 10, 3) := by decide +kernel
theorem dX11_clerk_93 : decode cX11_clerk 93 = .ok (.aload_n 0, 1) := by decide +kernel
theorem dX11_clerk_94 : decode cX11_clerk 94 = .ok (.invokevirtual 207, 3) := by decide +kernel
theorem dX11_clerk_97 : decode cX11_clerk 97 = .ok (.goto (-18), 3) := by decide +kernel
theorem dX11_clerk_100 : decode cX11_clerk 100 = .ok (.aload_n 0, 1) := by decide +kernel
theorem dX11_clerk_101 : decode cX11_clerk 101 = .ok (.iconst 0, 1) := by decide +kernel
theorem dX11_clerk_102 : decode cX11_clerk 102 = .ok (.putfield 94, 3) := by decide +kernel
theorem dX11_clerk_105 : decode cX11_clerk 105 = .ok (.aload_n 0, 1) := by decide +kernel
theorem dX11_clerk_106 : decode cX11_clerk 106 = .ok (.getfield 148, 3) := by decide +kernel
theorem dX11_clerk_109 : decode cX11_clerk 109 = .ok (.ifCond .ne 11, 3) := by decide +kernel
theorem dX11_clerk_112 : decode cX11_clerk 112 = .ok (.bipush (-100), 2) := by decide +kernel
theorem dX11_clerk_114 : decode cX11_clerk 114 = .ok (.aload_n 0, 1) := by decide +kernel
theorem dX11_clerk_115 : decode cX11_clerk 115 = .ok (.getfield 102, 3) := by decide +kernel
theorem dX11_clerk_118 : decode cX11_clerk 118 = .ok (.isub, 1) := by decide +kernel
theorem dX11_clerk_119 : decode cX11_clerk 119 = .ok (.ireturn, 1) := by decide +kernel
theorem dX11_clerk_120 : decode cX11_clerk 120 = .ok (.aload_n 0, 1) := by decide +kernel
theorem dX11_clerk_121 : decode cX11_clerk 121 = .ok (.invokevirtual 210, 3) := by decide +kernel
theorem dX11_clerk_124 : decode cX11_clerk 124 = .ok (.aload_n 0, 1) := by decide +kernel
theorem dX11_clerk_125 : decode cX11_clerk 125 = .ok (.iconst 0, 1) := by decide +kernel
theorem dX11_clerk_126 : decode cX11_clerk 126 = .ok (.putfield 213, 3) := by decide +kernel
theorem dX11_clerk_129 : decode cX11_clerk 129 = .ok (.aload_n 0, 1) := by decide +kernel
theorem dX11_clerk_130 : decode cX11_clerk 130 = .ok (.getfield 87, 3) := by decide +kernel
theorem dX11_clerk_133 : decode cX11_clerk 133 = .ok (.ireturn, 1) := by decide +kernel
theorem dX11_becomes_0 : decode cX11_becomes 0 = .ok (.aload_n 0, 1) := by decide +kernel
theorem dX11_becomes_1 : decode cX11_becomes 1 = .ok (.aload_n 0, 1) := by decide +kernel
theorem dX11_becomes_2 : decode cX11_becomes 2 = .ok (.getfield 177, 3) := by decide +kernel
theorem dX11_becomes_5 : decode cX11_becomes 5 = .ok (.putfield 87, 3) := by decide +kernel
theorem dX11_becomes_8 : decode cX11_becomes 8 = .ok (.aload_n 0, 1) := by decide +kernel
theorem dX11_becomes_9 : decode cX11_becomes 9 = .ok (.getfield 7, 3) := by decide +kernel
theorem dX11_becomes_12 : decode cX11_becomes 12 = .ok (.iconst 0, 1) := by decide +kernel
theorem dX11_becomes_13 : decode cX11_becomes 13 = .ok (.aload_n 0, 1) := by decide +kernel
theorem dX11_becomes_14 : decode cX11_becomes 14 = .ok (.getfield 196, 3) := by decide +kernel
theorem dX11_becomes_17 : decode cX11_becomes 17 = .ok (.iastore, 1) := by decide +kernel
theorem dX11_becomes_18 : decode cX11_becomes 18 = .ok (.aload_n 0, 1) := by decide +kernel
theorem dX11_becomes_19 : decode cX11_becomes 19 = .ok (.getfield 7, 3) := by decide +kernel
theorem dX11_becomes_22 : decode cX11_becomes 22 = .ok (.iconst 2, 1) := by decide +kernel
theorem dX11_becomes_23 : decode cX11_becomes 23 = .ok (.aload_n 0, 1) := by decide +kernel
theorem dX11_becomes_24 : decode cX11_becomes 24 = .ok (.getfield 174, 3) := by decide +kernel
theorem dX11_becomes_27 : decode cX11_becomes 27 = .ok (.iastore, 1) := by decide +kernel
theorem dX11_becomes_28 : decode cX11_becomes 28 = .ok (.iconst 0, 1) := by decide +kernel
theorem dX11_becomes_29 : decode cX11_becomes 29 = .ok (.istore_n 1, 1) := by decide +kernel
theorem dX11_becomes_30 : decode cX11_becomes 30 = .ok (.iload_n 1, 1) := by decide +kernel
theorem dX11_becomes_31 : decode cX11_becomes 31 = .ok (.bipush 10, 2) := by decide +kernel
theorem dX11_becomes_33 : decode cX11_becomes 33 = .ok (.if_icmp .ge 21, 3) := by decide +kernel
theorem dX11_becomes_36 : decode cX11_becomes 36 = .ok (.aload_n 0, 1) := by decide +kernel
theorem dX11_becomes_37 : decode cX11_becomes 37 = .ok (.getfield 19, 3) := by decide +kernel
theorem dX11_becomes_40 : decode cX11_becomes 40 = .ok (.iload_n 1, 1) := by decide +kernel
theorem dX11_becomes_41 : decode cX11_becomes 41 = .ok (.aload_n 0, 1) := by decide +kernel
theorem dX11_becomes_42 : decode cX11_becomes 42 = .ok (.getfield 40, 3) := by decide +kernel
theorem dX11_becomes_45 : decode cX11_becomes 45 = .ok (.iload_n 1, 1) := by decide +kernel
theorem dX11_becomes_46 : decode cX11_becomes 46 = .ok (.iaload, 1) := by decide +kernel
theorem dX11_becomes_47 : decode cX11_becomes 47 = .ok (.iastore, 1) := by decide +kernel
theorem dX11_becomes_48 : decode cX11_becomes 48 = .ok (.iinc 1 1, 3) := by decide +kernel
theorem dX11_becomes_51 : decode cX11_becomes 51 = .ok (.goto (-21), 3) := by decide +kernel
theorem dX11_becomes_54 : decode cX11_becomes 54 = .ok (.iconst 0, 1) := by decide +kernel
theorem dX11_becomes_55 : decode cX11_becomes 55 = .ok (.istore_n 1, 1) := by decide +kernel
theorem dX11_becomes_56 : decode cX11_becomes 56 = .ok (.iload_n 1, 1) := by decide +kernel
theorem dX11_becomes_57 : decode cX11_becomes 57 = .ok (.iconst 5, 1) := by decide +kernel
theorem dX11_becomes_58 : decode cX11_becomes 58 = .ok (.if_icmp .ge 19, 3) := by decide +kernel
theorem dX11_becomes_61 : decode cX11_becomes 61 = .ok (.aload_n 0, 1) := by decide +kernel
theorem dX11_becomes_62 : decode cX11_becomes 62 = .ok (.getfield 7, 3) := by decide +kernel
theorem dX11_becomes_65 : decode cX11_becomes 65 = .ok (.bipush 43, 2) := by decide +kernel
theorem dX11_becomes_67 : decode cX11_becomes 67 = .ok (.iload_n 1, 1) := by decide +kernel
theorem dX11_becomes_68 : decode cX11_becomes 68 = .ok (.iadd, 1) := by decide +kernel
theorem dX11_becomes_69 : decode cX11_becomes 69 = .ok (.iconst 0, 1) := by decide +kernel
theorem dX11_becomes_70 : decode cX11_becomes 70 = .ok (.iastore, 1) := by decide +kernel
theorem dX11_becomes_71 : decode cX11_becomes 71 = .ok (.iinc 1 1, 3) := by decide +kernel
theorem dX11_becomes_74 : decode cX11_becomes 74 = .ok (.goto (-18), 3) := by decide +kernel
theorem dX11_becomes_77 : decode cX11_becomes 77 = .ok (.iconst 0, 1) := by decide +kernel
theorem dX11_becomes_78 : decode cX11_becomes 78 = .ok (.istore_n 1, 1) := by decide +kernel
theorem dX11_becomes_79 : decode cX11_becomes 79 = .ok (.iload_n 1, 1) := by decide +kernel
theorem dX11_becomes_80 : decode cX11_becomes 80 = .ok (.bipush 20, 2) := by decide +kernel
theorem dX11_becomes_82 : decode cX11_becomes 82 = .ok (.if_icmp .ge 45, 3) := by decide +kernel
theorem dX11_becomes_85 : decode cX11_becomes 85 = .ok (.aload_n 0, 1) := by decide +kernel
theorem dX11_becomes_86 : decode cX11_becomes 86 = .ok (.getfield 13, 3) := by decide +kernel
theorem dX11_becomes_89 : decode cX11_becomes 89 = .ok (.iload_n 1, 1) := by decide +kernel
theorem dX11_becomes_90 : decode cX11_becomes 90 = .ok (.aload_n 0, 1) := by decide +kernel
theorem dX11_becomes_91 : decode cX11_becomes 91 = .ok (.getfield 31, 3) := by decide +kernel
theorem dX11_becomes_94 : decode cX11_becomes 94 = .ok (.iload_n 1, 1) := by decide +kernel
theorem dX11_becomes_95 : decode cX11_becomes 95 = .ok (.iaload, 1) := by decide +kernel
theorem dX11_becomes_96 : decode cX11_becomes 96 = .ok (.iastore, 1) := by decide +kernel
theorem dX11_becomes_97 : decode cX11_becomes 97 = .ok (.aload_n 0, 1) := by decide +kernel
theorem dX11_becomes_98 : decode cX11_becomes 98 = .ok (.getfield 7, 3) := by decide +kernel
theorem dX11_becomes_101 : decode cX11_becomes 101 = .ok (.iconst 3, 1) := by decide +kernel
theorem dX11_becomes_102 : decode cX11_becomes 102 = .ok (.iload_n 1, 1) := by decide +kernel
theorem dX11_becomes_103 : decode cX11_becomes 103 = .ok (.iadd, 1) := by decide +kernel
theorem dX11_becomes_104 : decode cX11_becomes 104 = .ok (.aload_n 0, 1) := by decide +kernel
theorem dX11_becomes_105 : decode cX11_becomes 105 = .ok (.getfield 37, 3) := by decide +kernel
theorem dX11_becomes_108 : decode cX11_becomes 108 = .ok (.iload_n 1, 1) := by decide +kernel
theorem dX11_becomes_109 : decode cX11_becomes 109 = .ok (.iaload, 1) := by decide +kernel
theorem dX11_becomes_110 : decode cX11_becomes 110 = .ok (.iastore, 1) := by decide +kernel
theorem dX11_becomes_111 : decode cX11_becomes 111 = .ok (.aload_n 0, 1) := by decide +kernel
theorem dX11_becomes_112 : decode cX11_becomes 112 = .ok (.getfield 7, 3) := by decide +kernel
theorem dX11_becomes_115 : decode cX11_becomes 115 = .ok (.bipush 23, 2) := by decide +kernel
theorem dX11_becomes_117 : decode cX11_becomes 117 = .ok (.iload_n 1, 1) := by decide +kernel
theorem dX11_becomes_118 : decode cX11_becomes 118 = .ok (.iadd, 1) := by decide +kernel
theorem dX11_becomes_119 : decode cX11_becomes 119 = .ok (.iconst (-1), 1) := by decide +kernel
theorem dX11_becomes_120 : decode cX11_becomes 120 = .ok (.iastore, 1) := by decide +kernel
theorem dX11_becomes_121 : decode cX11_becomes 121 = .ok (.iinc 1 1, 3) := by decide +kernel
theorem dX11_becomes_124 : decode cX11_becomes 124 = .ok (.goto (-45), 3) := by decide +kernel
theorem dX11_becomes_127 : decode cX11_becomes 127 = .ok (.iconst 0, 1) := by decide +kernel
theorem dX11_becomes_128 : decode cX11_becomes 128 = .ok (.istore_n 1, 1) := by decide +kernel
theorem dX11_becomes_129 : decode cX11_becomes 129 = .ok (.iload_n 1, 1) := by decide +kernel
theorem dX11_becomes_130 : decode cX11_becomes 130 = .ok (.bipush 80, 2) := by decide +kernel
theorem dX11_becomes_132 : decode cX11_becomes 132 = .ok (.if_icmp .ge 21, 3) := by decide +kernel
theorem dX11_becomes_135 : decode cX11_becomes 135 = .ok (.aload_n 0, 1) := by decide +kernel
theorem dX11_becomes_136 : decode cX11_becomes 136 = .ok (.getfield 16, 3) := by decide +kernel
theorem dX11_becomes_139 : decode cX11_becomes 139 = .ok (.iload_n 1, 1) := by decide +kernel
theorem dX11_becomes_140 : decode cX11_becomes 140 = .ok (.aload_n 0, 1) := by decide +kernel
theorem dX11_becomes_141 : decode cX11_becomes 141 = .ok (.getfield 34, 3) := by decide +kernel
theorem dX11_becomes_144 : decode cX11_becomes 144 = .ok (.iload_n 1, 1) := by decide +kernel
theorem dX11_becomes_145 : decode cX11_becomes 145 = .ok (.iaload, 1) := by decide +kernel
theorem dX11_becomes_146 : decode cX11_becomes 146 = .ok (.iastore, 1) := by decide +kernel
theorem dX11_becomes_147 : decode cX11_becomes 147 = .ok (.iinc 1 1, 3) := by decide +kernel
theorem dX11_becomes_150 : decode cX11_becomes 150 = .ok (.goto (-21), 3) := by decide +kernel
theorem dX11_becomes_153 : decode cX11_becomes 153 = .ok (.iconst 0, 1) := by decide +kernel
theorem dX11_becomes_154 : decode cX11_becomes 154 = .ok (.istore_n 1, 1) := by decide +kernel
theorem dX11_becomes_155 : decode cX11_becomes 155 = .ok (.iload_n 1, 1) := by decide +kernel
theorem dX11_becomes_156 : decode cX11_becomes 156 = .ok (.bipush 120, 2) := by decide +kernel
theorem dX11_becomes_158 : decode cX11_becomes 158 = .ok (.if_icmp .ge 24, 3) := by decide +kernel
theorem dX11_becomes_161 : decode cX11_becomes 161 = .ok (.aload_n 0, 1) := by decide +kernel
theorem dX11_becomes_162 : decode cX11_becomes 162 = .ok (.getfield 7, 3) := by decide +kernel
theorem dX11_becomes_165 : decode cX11_becomes 165 = .ok (.bipush 48, 2) := by decide +kernel
theorem dX11_becomes_167 : decode cX11_becomes 167 = .ok (.iload_n 1, 1) := by decide +kernel
theorem dX11_becomes_168 : decode cX11_becomes 168 = .ok (.iadd, 1) := by decide +kernel
theorem dX11_becomes_169 : decode cX11_becomes 169 = .ok (.aload_n 0, 1) := by decide +kernel
theorem dX11_becomes_170 : decode cX11_becomes 170 = .ok (.getfield 43, 3) := by decide +kernel
theorem dX11_becomes_173 : decode cX11_becomes 173 = .ok (.iload_n 1, 1) := by decide +kernel
theorem dX11_becomes_174 : decode cX11_becomes 174 = .ok (.iaload, 1) := by decide +kernel
theorem dX11_becomes_175 : decode cX11_becomes 175 = .ok (.iastore, 1) := by decide +kernel
theorem dX11_becomes_176 : decode cX11_becomes 176 = .ok (.iinc 1 1, 3) := by decide +kernel
theorem dX11_becomes_179 : decode cX11_becomes 179 = .ok (.goto (-24), 3) := by decide +kernel
theorem dX11_becomes_182 : decode cX11_becomes 182 = .ok (.return_, 1) := by decide +kernel
theorem dX11_worth_0 : decode cX11_worth 0 = .ok (.iload_n 1, 1) := by decide +kernel
theorem dX11_worth_1 : decode cX11_worth 1 = .ok (.invokestatic 216, 3) := by decide +kernel
theorem dX11_worth_4 : decode cX11_worth 4 = .ok (.ifCond .eq 13, 3) := by decide +kernel
theorem dX11_worth_7 : decode cX11_worth 7 = .ok (.iload_n 2, 1) := by decide +kernel
theorem dX11_worth_8 : decode cX11_worth 8 = .ok (.iconst 0, 1) := by decide +kernel
theorem dX11_worth_9 : decode cX11_worth 9 = .ok (.bipush 99, 2) := by decide +kernel
theorem dX11_worth_11 : decode cX11_worth 11 = .ok (.invokestatic 83, 3) := by decide +kernel
theorem dX11_worth_14 : decode cX11_worth 14 = .ok (.ifCond .ne 5, 3) := by decide +kernel
theorem dX11_worth_17 : decode cX11_worth 17 = .ok (.iconst (-1), 1) := by decide +kernel
theorem dX11_worth_18 : decode cX11_worth 18 = .ok (.ireturn, 1) := by decide +kernel
theorem dX11_worth_19 : decode cX11_worth 19 = .ok (.aload_n 0, 1) := by decide +kernel
theorem dX11_worth_20 : decode cX11_worth 20 = .ok (.getfield 13, 3) := by decide +kernel
theorem dX11_worth_23 : decode cX11_worth 23 = .ok (.iload_n 1, 1) := by decide +kernel
theorem dX11_worth_24 : decode cX11_worth 24 = .ok (.iaload, 1) := by decide +kernel
theorem dX11_worth_25 : decode cX11_worth 25 = .ok (.istore_n 3, 1) := by decide +kernel
theorem dX11_worth_26 : decode cX11_worth 26 = .ok (.aload_n 0, 1) := by decide +kernel
theorem dX11_worth_27 : decode cX11_worth 27 = .ok (.getfield 13, 3) := by decide +kernel
theorem dX11_worth_30 : decode cX11_worth 30 = .ok (.iload_n 1, 1) := by decide +kernel
theorem dX11_worth_31 : decode cX11_worth 31 = .ok (.iload_n 2, 1) := by decide +kernel
theorem dX11_worth_32 : decode cX11_worth 32 = .ok (.iastore, 1) := by decide +kernel
theorem dX11_worth_33 : decode cX11_worth 33 = .ok (.iload_n 3, 1) := by decide +kernel
theorem dX11_worth_34 : decode cX11_worth 34 = .ok (.ireturn, 1) := by decide +kernel
theorem dX11_weigh_0 : decode cX11_weigh 0 = .ok (.iload_n 1, 1) := by decide +kernel
theorem dX11_weigh_1 : decode cX11_weigh 1 = .ok (.invokestatic 216, 3) := by decide +kernel
theorem dX11_weigh_4 : decode cX11_weigh 4 = .ok (.ifCond .eq 20, 3) := by decide +kernel
theorem dX11_weigh_7 : decode cX11_weigh 7 = .ok (.iload_n 2, 1) := by decide +kernel
theorem dX11_weigh_8 : decode cX11_weigh 8 = .ok (.invokestatic 219, 3) := by decide +kernel
theorem dX11_weigh_11 : decode cX11_weigh 11 = .ok (.ifCond .eq 13, 3) := by decide +kernel
theorem dX11_weigh_14 : decode cX11_weigh 14 = .ok (.iload_n 3, 1) := by decide +kernel
theorem dX11_weigh_15 : decode cX11_weigh 15 = .ok (.iconst 0, 1) := by decide +kernel
theorem dX11_weigh_16 : decode cX11_weigh 16 = .ok (.bipush 9, 2) := by decide +kernel
theorem dX11_weigh_18 : decode cX11_weigh 18 = .ok (.invokestatic 83, 3) := by decide +kernel
theorem dX11_weigh_21 : decode cX11_weigh 21 = .ok (.ifCond .ne 5, 3) := by decide +kernel
theorem dX11_weigh_24 : decode cX11_weigh 24 = .ok (.iconst (-1), 1) := by decide +kernel
theorem dX11_weigh_25 : decode cX11_weigh 25 = .ok (.ireturn, 1) := by decide +kernel
theorem dX11_weigh_26 : decode cX11_weigh 26 = .ok (.aload_n 0, 1) := by decide +kernel
theorem dX11_weigh_27 : decode cX11_weigh 27 = .ok (.getfield 16, 3) := by decide +kernel
theorem dX11_weigh_30 : decode cX11_weigh 30 = .ok (.iconst 4, 1) := by decide +kernel
theorem dX11_weigh_31 : decode cX11_weigh 31 = .ok (.iload_n 1, 1) := by decide +kernel
theorem dX11_weigh_32 : decode cX11_weigh 32 = .ok (.imul, 1) := by decide +kernel
theorem dX11_weigh_33 : decode cX11_weigh 33 = .ok (.iload_n 2, 1) := by decide +kernel
theorem dX11_weigh_34 : decode cX11_weigh 34 = .ok (.iadd, 1) := by decide +kernel
theorem dX11_weigh_35 : decode cX11_weigh 35 = .ok (.iaload, 1) := by decide +kernel
theorem dX11_weigh_36 : decode cX11_weigh 36 = .ok (.istore 4, 2) := by decide +kernel
theorem dX11_weigh_38 : decode cX11_weigh 38 = .ok (.aload_n 0, 1) := by decide +kernel
theorem dX11_weigh_39 : decode cX11_weigh 39 = .ok (.iload_n 1, 1) := by decide +kernel
theorem dX11_weigh_40 : decode cX11_weigh 40 = .ok (.invokevirtual 222, 3) := by decide +kernel
theorem dX11_weigh_43 : decode cX11_weigh 43 = .ok (.iload 4, 2) := by decide +kernel
theorem dX11_weigh_45 : decode cX11_weigh 45 = .ok (.isub, 1) := by decide +kernel
theorem dX11_weigh_46 : decode cX11_weigh 46 = .ok (.iload_n 3, 1) := by decide +kernel
theorem dX11_weigh_47 : decode cX11_weigh 47 = .ok (.iadd, 1) := by decide +kernel
theorem dX11_weigh_48 : decode cX11_weigh 48 = .ok (.ifCond .ne 6, 3) := by decide +kernel
theorem dX11_weigh_51 : decode cX11_weigh 51 = .ok (.bipush (-4), 2) := by decide +kernel
theorem dX11_weigh_53 : decode cX11_weigh 53 = .ok (.ireturn, 1) := by decide +kernel
theorem dX11_weigh_54 : decode cX11_weigh 54 = .ok (.aload_n 0, 1) := by decide +kernel
theorem dX11_weigh_55 : decode cX11_weigh 55 = .ok (.getfield 16, 3) := by decide +kernel
theorem dX11_weigh_58 : decode cX11_weigh 58 = .ok (.iconst 4, 1) := by decide +kernel
theorem dX11_weigh_59 : decode cX11_weigh 59 = .ok (.iload_n 1, 1) := by decide +kernel
theorem dX11_weigh_60 : decode cX11_weigh 60 = .ok (.imul, 1) := by decide +kernel
theorem dX11_weigh_61 : decode cX11_weigh 61 = .ok (.iload_n 2, 1) := by decide +kernel
theorem dX11_weigh_62 : decode cX11_weigh 62 = .ok (.iadd, 1) := by decide +kernel
theorem dX11_weigh_63 : decode cX11_weigh 63 = .ok (.iload_n 3, 1) := by decide +kernel
theorem dX11_weigh_64 : decode cX11_weigh 64 = .ok (.iastore, 1) := by decide +kernel
theorem dX11_weigh_65 : decode cX11_weigh 65 = .ok (.iload 4, 2) := by decide +kernel
theorem dX11_weigh_67 : decode cX11_weigh 67 = .ok (.ireturn, 1) := by decide +kernel
theorem dX11_plainAll_0 : decode cX11_plainAll 0 = .ok (.aload_n 0, 1) := by decide +kernel
theorem dX11_plainAll_1 : decode cX11_plainAll 1 = .ok (.getfield 16, 3) := by decide +kernel
theorem dX11_plainAll_4 : decode cX11_plainAll 4 = .ok (.iconst 4, 1) := by decide +kernel
theorem dX11_plainAll_5 : decode cX11_plainAll 5 = .ok (.iload_n 1, 1) := by decide +kernel
theorem dX11_plainAll_6 : decode cX11_plainAll 6 = .ok (.imul, 1) := by decide +kernel
theorem dX11_plainAll_7 : decode cX11_plainAll 7 = .ok (.iaload, 1) := by decide +kernel
theorem dX11_plainAll_8 : decode cX11_plainAll 8 = .ok (.aload_n 0, 1) := by decide +kernel
theorem dX11_plainAll_9 : decode cX11_plainAll 9 = .ok (.getfield 16, 3) := by decide +kernel
theorem dX11_plainAll_12 : decode cX11_plainAll 12 = .ok (.iconst 4, 1) := by decide +kernel
theorem dX11_plainAll_13 : decode cX11_plainAll 13 = .ok (.iload_n 1, 1) := by decide +kernel
theorem dX11_plainAll_14 : decode cX11_plainAll 14 = .ok (.imul, 1) := by decide +kernel
theorem dX11_plainAll_15 : decode cX11_plainAll 15 = .ok (.iconst 1, 1) := by decide +kernel
theorem dX11_plainAll_16 : decode cX11_plainAll 16 = .ok (.iadd, 1) := by decide +kernel
theorem dX11_plainAll_17 : decode cX11_plainAll 17 = .ok (.iaload, 1) := by decide +kernel
theorem dX11_plainAll_18 : decode cX11_plainAll 18 = .ok (.iadd, 1) := by decide +kernel
theorem dX11_plainAll_19 : decode cX11_plainAll 19 = .ok (.aload_n 0, 1) := by decide +kernel
theorem dX11_plainAll_20 : decode cX11_plainAll 20 = .ok (.getfield 16, 3) := by decide +kernel
theorem dX11_plainAll_23 : decode cX11_plainAll 23 = .ok (.iconst 4, 1) := by decide +kernel
theorem dX11_plainAll_24 : decode cX11_plainAll 24 = .ok (.iload_n 1, 1) := by decide +kernel
theorem dX11_plainAll_25 : decode cX11_plainAll 25 = .ok (.imul, 1) := by decide +kernel
theorem dX11_plainAll_26 : decode cX11_plainAll 26 = .ok (.iconst 2, 1) := by decide +kernel
theorem dX11_plainAll_27 : decode cX11_plainAll 27 = .ok (.iadd, 1) := by decide +kernel
theorem dX11_plainAll_28 : decode cX11_plainAll 28 = .ok (.iaload, 1) := by decide +kernel
theorem dX11_plainAll_29 : decode cX11_plainAll 29 = .ok (.iadd, 1) := by decide +kernel
theorem dX11_plainAll_30 : decode cX11_plainAll 30 = .ok (.aload_n 0, 1) := by decide +kernel
theorem dX11_plainAll_31 : decode cX11_plainAll 31 = .ok (.getfield 16, 3) := by decide +kernel
theorem dX11_plainAll_34 : decode cX11_plainAll 34 = .ok (.iconst 4, 1) := by decide +kernel
theorem dX11_plainAll_35 : decode cX11_plainAll 35 = .ok (.iload_n 1, 1) := by decide +kernel
theorem dX11_plainAll_36 : decode cX11_plainAll 36 = .ok (.imul, 1) := by decide +kernel
theorem dX11_plainAll_37 : decode cX11_plainAll 37 = .ok (.iconst 3, 1) := by decide +kernel
theorem dX11_plainAll_38 : decode cX11_plainAll 38 = .ok (.iadd, 1) := by decide +kernel
theorem dX11_plainAll_39 : decode cX11_plainAll 39 = .ok (.iaload, 1) := by decide +kernel
theorem dX11_plainAll_40 : decode cX11_plainAll 40 = .ok (.iadd, 1) := by decide +kernel
theorem dX11_plainAll_41 : decode cX11_plainAll 41 = .ok (.ireturn, 1) := by decide +kernel
theorem dX11_sign_0 : decode cX11_sign 0 = .ok (.iload_n 1, 1) := by decide +kernel
theorem dX11_sign_1 : decode cX11_sign 1 = .ok (.invokestatic 216, 3) := by decide +kernel
theorem dX11_sign_4 : decode cX11_sign 4 = .ok (.ifCond .eq 12, 3) := by decide +kernel
theorem dX11_sign_7 : decode cX11_sign 7 = .ok (.iload_n 2, 1) := by decide +kernel
theorem dX11_sign_8 : decode cX11_sign 8 = .ok (.iconst (-1), 1) := by decide +kernel
theorem dX11_sign_9 : decode cX11_sign 9 = .ok (.iconst 3, 1) := by decide +kernel
theorem dX11_sign_10 : decode cX11_sign 10 = .ok (.invokestatic 83, 3) := by decide +kernel
theorem dX11_sign_13 : decode cX11_sign 13 = .ok (.ifCond .ne 5, 3) := by decide +kernel
theorem dX11_sign_16 : decode cX11_sign 16 = .ok (.iconst (-1), 1) := by decide +kernel
theorem dX11_sign_17 : decode cX11_sign 17 = .ok (.ireturn, 1) := by decide +kernel
theorem dX11_sign_18 : decode cX11_sign 18 = .ok (.aload_n 0, 1) := by decide +kernel
theorem dX11_sign_19 : decode cX11_sign 19 = .ok (.getfield 7, 3) := by decide +kernel
theorem dX11_sign_22 : decode cX11_sign 22 = .ok (.iconst 3, 1) := by decide +kernel
theorem dX11_sign_23 : decode cX11_sign 23 = .ok (.iload_n 1, 1) := by decide +kernel
theorem dX11_sign_24 : decode cX11_sign 24 = .ok (.iadd, 1) := by decide +kernel
theorem dX11_sign_25 : decode cX11_sign 25 = .ok (.iaload, 1) := by decide +kernel
theorem dX11_sign_26 : decode cX11_sign 26 = .ok (.istore_n 3, 1) := by decide +kernel
theorem dX11_sign_27 : decode cX11_sign 27 = .ok (.aload_n 0, 1) := by decide +kernel
theorem dX11_sign_28 : decode cX11_sign 28 = .ok (.getfield 7, 3) := by decide +kernel
theorem dX11_sign_31 : decode cX11_sign 31 = .ok (.iconst 3, 1) := by decide +kernel
theorem dX11_sign_32 : decode cX11_sign 32 = .ok (.iload_n 1, 1) := by decide +kernel
theorem dX11_sign_33 : decode cX11_sign 33 = .ok (.iadd, 1) := by decide +kernel
theorem dX11_sign_34 : decode cX11_sign 34 = .ok (.iload_n 2, 1) := by decide +kernel
theorem dX11_sign_35 : decode cX11_sign 35 = .ok (.iastore, 1) := by decide +kernel
theorem dX11_sign_36 : decode cX11_sign 36 = .ok (.iload_n 3, 1) := by decide +kernel
theorem dX11_sign_37 : decode cX11_sign 37 = .ok (.ifCond .ge 8, 3) := by decide +kernel
theorem dX11_sign_40 : decode cX11_sign 40 = .ok (.bipush (-9), 2) := by decide +kernel
theorem dX11_sign_42 : decode cX11_sign 42 = .ok (.goto 4, 3) := by decide +kernel
theorem dX11_sign_45 : decode cX11_sign 45 = .ok (.iload_n 3, 1) := by decide +kernel
theorem dX11_sign_46 : decode cX11_sign 46 = .ok (.ireturn, 1) := by decide +kernel
theorem dX11_weightOf_0 : decode cX11_weightOf 0 = .ok (.aload_n 0, 1) := by decide +kernel
theorem dX11_weightOf_1 : decode cX11_weightOf 1 = .ok (.getfield 16, 3) := by decide +kernel
theorem dX11_weightOf_4 : decode cX11_weightOf 4 = .ok (.iconst 4, 1) := by decide +kernel
theorem dX11_weightOf_5 : decode cX11_weightOf 5 = .ok (.iload_n 1, 1) := by decide +kernel
theorem dX11_weightOf_6 : decode cX11_weightOf 6 = .ok (.imul, 1) := by decide +kernel
theorem dX11_weightOf_7 : decode cX11_weightOf 7 = .ok (.iload_n 2, 1) := by decide +kernel
theorem dX11_weightOf_8 : decode cX11_weightOf 8 = .ok (.iadd, 1) := by decide +kernel
theorem dX11_weightOf_9 : decode cX11_weightOf 9 = .ok (.iaload, 1) := by decide +kernel
theorem dX11_weightOf_10 : decode cX11_weightOf 10 = .ok (.aload_n 0, 1) := by decide +kernel
theorem dX11_weightOf_11 : decode cX11_weightOf 11 = .ok (.iconst 3, 1) := by decide +kernel
theorem dX11_weightOf_12 : decode cX11_weightOf 12 = .ok (.iload_n 1, 1) := by decide +kernel
theorem dX11_weightOf_13 : decode cX11_weightOf 13 = .ok (.iadd, 1) := by decide +kernel
theorem dX11_weightOf_14 : decode cX11_weightOf 14 = .ok (.invokevirtual 225, 3) := by decide +kernel
theorem dX11_weightOf_17 : decode cX11_weightOf 17 = .ok (.iload_n 2, 1) := by decide +kernel
theorem dX11_weightOf_18 : decode cX11_weightOf 18 = .ok (.if_icmp .ne 12, 3) := by decide +kernel
theorem dX11_weightOf_21 : decode cX11_weightOf 21 = .ok (.aload_n 0, 1) := by decide +kernel
theorem dX11_weightOf_22 : decode cX11_weightOf 22 = .ok (.getfield 22, 3) := by decide +kernel
theorem dX11_weightOf_25 : decode cX11_weightOf 25 = .ok (.iconst 3, 1) := by decide +kernel
theorem dX11_weightOf_26 : decode cX11_weightOf 26 = .ok (.iaload, 1) := by decide +kernel
theorem dX11_weightOf_27 : decode cX11_weightOf 27 = .ok (.goto 4, 3) := by decide +kernel
theorem dX11_weightOf_30 : decode cX11_weightOf 30 = .ok (.iconst 0, 1) := by decide +kernel
theorem dX11_weightOf_31 : decode cX11_weightOf 31 = .ok (.iadd, 1) := by decide +kernel
theorem dX11_weightOf_32 : decode cX11_weightOf 32 = .ok (.ireturn, 1) := by decide +kernel
theorem dX11_allOf_0 : decode cX11_allOf 0 = .ok (.aload_n 0, 1) := by decide +kernel
theorem dX11_allOf_1 : decode cX11_allOf 1 = .ok (.iload_n 1, 1) := by decide +kernel
theorem dX11_allOf_2 : decode cX11_allOf 2 = .ok (.invokevirtual 222, 3) := by decide +kernel
theorem dX11_allOf_5 : decode cX11_allOf 5 = .ok (.aload_n 0, 1) := by decide +kernel
theorem dX11_allOf_6 : decode cX11_allOf 6 = .ok (.iconst 3, 1) := by decide +kernel
theorem dX11_allOf_7 : decode cX11_allOf 7 = .ok (.iload_n 1, 1) := by decide +kernel
theorem dX11_allOf_8 : decode cX11_allOf 8 = .ok (.iadd, 1) := by decide +kernel
theorem dX11_allOf_9 : decode cX11_allOf 9 = .ok (.invokevirtual 225, 3) := by decide +kernel
theorem dX11_allOf_12 : decode cX11_allOf 12 = .ok (.ifCond .lt 12, 3) := by decide +kernel
theorem dX11_allOf_15 : decode cX11_allOf 15 = .ok (.aload_n 0, 1) := by decide +kernel
theorem dX11_allOf_16 : decode cX11_allOf 16 = .ok (.getfield 22, 3) := by decide +kernel
theorem dX11_allOf_19 : decode cX11_allOf 19 = .ok (.iconst 3, 1) := by decide +kernel
theorem dX11_allOf_20 : decode cX11_allOf 20 = .ok (.iaload, 1) := by decide +kernel
theorem dX11_allOf_21 : decode cX11_allOf 21 = .ok (.goto 4, 3) := by decide +kernel
theorem dX11_allOf_24 : decode cX11_allOf 24 = .ok (.iconst 0, 1) := by decide +kernel
theorem dX11_allOf_25 : decode cX11_allOf 25 = .ok (.iadd, 1) := by decide +kernel
theorem dX11_allOf_26 : decode cX11_allOf 26 = .ok (.ireturn, 1) := by decide +kernel
theorem dX11_earn_0 : decode cX11_earn 0 = .ok (.aload_n 0, 1) := by decide +kernel
theorem dX11_earn_1 : decode cX11_earn 1 = .ok (.getfield 13, 3) := by decide +kernel
theorem dX11_earn_4 : decode cX11_earn 4 = .ok (.iload_n 1, 1) := by decide +kernel
theorem dX11_earn_5 : decode cX11_earn 5 = .ok (.iaload, 1) := by decide +kernel
theorem dX11_earn_6 : decode cX11_earn 6 = .ok (.aload_n 0, 1) := by decide +kernel
theorem dX11_earn_7 : decode cX11_earn 7 = .ok (.getfield 22, 3) := by decide +kernel
theorem dX11_earn_10 : decode cX11_earn 10 = .ok (.iconst 0, 1) := by decide +kernel
theorem dX11_earn_11 : decode cX11_earn 11 = .ok (.iaload, 1) := by decide +kernel
theorem dX11_earn_12 : decode cX11_earn 12 = .ok (.imul, 1) := by decide +kernel
theorem dX11_earn_13 : decode cX11_earn 13 = .ok (.bipush 100, 2) := by decide +kernel
theorem dX11_earn_15 : decode cX11_earn 15 = .ok (.idiv, 1) := by decide +kernel
theorem dX11_earn_16 : decode cX11_earn 16 = .ok (.ireturn, 1) := by decide +kernel
theorem dX11_likeliest_0 : decode cX11_likeliest 0 = .ok (.iconst 0, 1) := by decide +kernel
theorem dX11_likeliest_1 : decode cX11_likeliest 1 = .ok (.istore_n 2, 1) := by decide +kernel
theorem dX11_likeliest_2 : decode cX11_likeliest 2 = .ok (.iconst 1, 1) := by decide +kernel
theorem dX11_likeliest_3 : decode cX11_likeliest 3 = .ok (.istore_n 3, 1) := by decide +kernel
theorem dX11_likeliest_4 : decode cX11_likeliest 4 = .ok (.iload_n 3, 1) := by decide +kernel
theorem dX11_likeliest_5 : decode cX11_likeliest 5 = .ok (.iconst 4, 1) := by decide +kernel
theorem dX11_likeliest_6 : decode cX11_likeliest 6 = .ok (.if_icmp .ge 30, 3) := by decide +kernel
theorem dX11_likeliest_9 : decode cX11_likeliest 9 = .ok (.aload_n 0, 1) := by decide +kernel
theorem dX11_likeliest_10 : decode cX11_likeliest 10 = .ok (.iload_n 1, 1) := by decide +kernel
theorem dX11_likeliest_11 : decode cX11_likeliest 11 = .ok (.iload_n 3, 1) := by decide +kernel
theorem dX11_likeliest_12 : decode cX11_likeliest 12 = .ok (.invokevirtual 228, 3) := by decide +kernel
theorem dX11_likeliest_15 : decode cX11_likeliest 15 = .ok (.aload_n 0, 1) := by decide +kernel
theorem dX11_likeliest_16 : decode cX11_likeliest 16 = .ok (.iload_n 1, 1) := by decide +kernel
theorem dX11_likeliest_17 : decode cX11_likeliest 17 = .ok (.iload_n 2, 1) := by decide +kernel
theorem dX11_likeliest_18 : decode cX11_likeliest 18 = .ok (.invokevirtual 228, 3) := by decide +kernel
theorem dX11_likeliest_21 : decode cX11_likeliest 21 = .ok (.if_icmp .le 7, 3) := by decide +kernel
theorem dX11_likeliest_24 : decode cX11_likeliest 24 = .ok (.iload_n 3, 1) := by decide +kernel
theorem dX11_likeliest_25 : decode cX11_likeliest 25 = .ok (.goto 4, 3) := by decide +kernel
theorem dX11_likeliest_28 : decode cX11_likeliest 28 = .ok (.iload_n 2, 1) := by decide +kernel
theorem dX11_likeliest_29 : decode cX11_likeliest 29 = .ok (.istore_n 2, 1) := by decide +kernel
theorem dX11_likeliest_30 : decode cX11_likeliest 30 = .ok (.iinc 3 1, 3) := by decide +kernel
theorem dX11_likeliest_33 : decode cX11_likeliest 33 = .ok (.goto (-29), 3) := by decide +kernel
theorem dX11_likeliest_36 : decode cX11_likeliest 36 = .ok (.iload_n 2, 1) := by decide +kernel
theorem dX11_likeliest_37 : decode cX11_likeliest 37 = .ok (.ireturn, 1) := by decide +kernel
theorem dX11_saidOf_0 : decode cX11_saidOf 0 = .ok (.iconst 0, 1) := by decide +kernel
theorem dX11_saidOf_1 : decode cX11_saidOf 1 = .ok (.istore_n 2, 1) := by decide +kernel
theorem dX11_saidOf_2 : decode cX11_saidOf 2 = .ok (.iconst 0, 1) := by decide +kernel
theorem dX11_saidOf_3 : decode cX11_saidOf 3 = .ok (.istore_n 3, 1) := by decide +kernel
theorem dX11_saidOf_4 : decode cX11_saidOf 4 = .ok (.iload_n 3, 1) := by decide +kernel
theorem dX11_saidOf_5 : decode cX11_saidOf 5 = .ok (.aload_n 0, 1) := by decide +kernel
theorem dX11_saidOf_6 : decode cX11_saidOf 6 = .ok (.iconst 2, 1) := by decide +kernel
theorem dX11_saidOf_7 : decode cX11_saidOf 7 = .ok (.invokevirtual 225, 3) := by decide +kernel
theorem dX11_saidOf_10 : decode cX11_saidOf 10 = .ok (.if_icmp .ge 34, 3) := by decide +kernel
theorem dX11_saidOf_13 : decode cX11_saidOf 13 = .ok (.iload_n 2, 1) := by decide +kernel
theorem dX11_saidOf_14 : decode cX11_saidOf 14 = .ok (.aload_n 0, 1) := by decide +kernel
theorem dX11_saidOf_15 : decode cX11_saidOf 15 = .ok (.iload_n 3, 1) := by decide +kernel
theorem dX11_saidOf_16 : decode cX11_saidOf 16 = .ok (.iconst 1, 1) := by decide +kernel
theorem dX11_saidOf_17 : decode cX11_saidOf 17 = .ok (.invokevirtual 232, 3) := by decide +kernel
theorem dX11_saidOf_20 : decode cX11_saidOf 20 = .ok (.iload_n 1, 1) := by decide +kernel
theorem dX11_saidOf_21 : decode cX11_saidOf 21 = .ok (.if_icmp .ne 14, 3) := by decide +kernel
theorem dX11_saidOf_24 : decode cX11_saidOf 24 = .ok (.iconst 1, 1) := by decide +kernel
theorem dX11_saidOf_25 : decode cX11_saidOf 25 = .ok (.aload_n 0, 1) := by decide +kernel
theorem dX11_saidOf_26 : decode cX11_saidOf 26 = .ok (.iload_n 3, 1) := by decide +kernel
theorem dX11_saidOf_27 : decode cX11_saidOf 27 = .ok (.iconst 2, 1) := by decide +kernel
theorem dX11_saidOf_28 : decode cX11_saidOf 28 = .ok (.invokevirtual 232, 3) := by decide +kernel
theorem dX11_saidOf_31 : decode cX11_saidOf 31 = .ok (.ishl, 1) := by decide +kernel
theorem dX11_saidOf_32 : decode cX11_saidOf 32 = .ok (.goto 4, 3) := by decide +kernel
theorem dX11_saidOf_35 : decode cX11_saidOf 35 = .ok (.iconst 0, 1) := by decide +kernel
theorem dX11_saidOf_36 : decode cX11_saidOf 36 = .ok (.ior, 1) := by decide +kernel
theorem dX11_saidOf_37 : decode cX11_saidOf 37 = .ok (.istore_n 2, 1) := by decide +kernel
theorem dX11_saidOf_38 : decode cX11_saidOf 38 = .ok (.iinc 3 1, 3) := by decide +kernel
theorem dX11_saidOf_41 : decode cX11_saidOf 41 = .ok (.goto (-37), 3) := by decide +kernel
theorem dX11_saidOf_44 : decode cX11_saidOf 44 = .ok (.iload_n 2, 1) := by decide +kernel
theorem dX11_saidOf_45 : decode cX11_saidOf 45 = .ok (.ireturn, 1) := by decide +kernel
theorem dX11_orNot_0 : decode cX11_orNot 0 = .ok (.iload_n 0, 1) := by decide +kernel
theorem dX11_orNot_1 : decode cX11_orNot 1 = .ok (.ifCond .ge 8, 3) := by decide +kernel
theorem dX11_orNot_4 : decode cX11_orNot 4 = .ok (.bipush (-9), 2) := by decide +kernel
theorem dX11_orNot_6 : decode cX11_orNot 6 = .ok (.goto 4, 3) := by decide +kernel
theorem dX11_orNot_9 : decode cX11_orNot 9 = .ok (.iload_n 0, 1) := by decide +kernel
theorem dX11_orNot_10 : decode cX11_orNot 10 = .ok (.ireturn, 1) := by decide +kernel
theorem dX11_dayOf_0 : decode cX11_dayOf 0 = .ok (.iload_n 1, 1) := by decide +kernel
theorem dX11_dayOf_1 : decode cX11_dayOf 1 = .ok (.invokestatic 216, 3) := by decide +kernel
theorem dX11_dayOf_4 : decode cX11_dayOf 4 = .ok (.ifCond .eq 13, 3) := by decide +kernel
theorem dX11_dayOf_7 : decode cX11_dayOf 7 = .ok (.iload_n 2, 1) := by decide +kernel
theorem dX11_dayOf_8 : decode cX11_dayOf 8 = .ok (.iconst 0, 1) := by decide +kernel
theorem dX11_dayOf_9 : decode cX11_dayOf 9 = .ok (.bipush 9, 2) := by decide +kernel
theorem dX11_dayOf_11 : decode cX11_dayOf 11 = .ok (.invokestatic 83, 3) := by decide +kernel
theorem dX11_dayOf_14 : decode cX11_dayOf 14 = .ok (.ifCond .ne 5, 3) := by decide +kernel
theorem dX11_dayOf_17 : decode cX11_dayOf 17 = .ok (.iconst (-1), 1) := by decide +kernel
theorem dX11_dayOf_18 : decode cX11_dayOf 18 = .ok (.ireturn, 1) := by decide +kernel
theorem dX11_dayOf_19 : decode cX11_dayOf 19 = .ok (.iload_n 2, 1) := by decide +kernel
theorem dX11_dayOf_20 : decode cX11_dayOf 20 = .ok (.tableswitch 90 0 5 #[40, 47, 59, 72, 78, 84], 40) := by decide +kernel
theorem dX11_dayOf_60 : decode cX11_dayOf 60 = .ok (.aload_n 0, 1) := by decide +kernel
theorem dX11_dayOf_61 : decode cX11_dayOf 61 = .ok (.getfield 13, 3) := by decide +kernel
theorem dX11_dayOf_64 : decode cX11_dayOf 64 = .ok (.iload_n 1, 1) := by decide +kernel
theorem dX11_dayOf_65 : decode cX11_dayOf 65 = .ok (.iaload, 1) := by decide +kernel
theorem dX11_dayOf_66 : decode cX11_dayOf 66 = .ok (.ireturn, 1) := by decide +kernel
theorem dX11_dayOf_67 : decode cX11_dayOf 67 = .ok (.aload_n 0, 1) := by decide +kernel
theorem dX11_dayOf_68 : decode cX11_dayOf 68 = .ok (.getfield 7, 3) := by decide +kernel
theorem dX11_dayOf_71 : decode cX11_dayOf 71 = .ok (.iconst 3, 1) := by decide +kernel
theorem dX11_dayOf_72 : decode cX11_dayOf 72 = .ok (.iload_n 1, 1) := by decide +kernel
theorem dX11_dayOf_73 : decode cX11_dayOf 73 = .ok (.iadd, 1) := by decide +kernel
theorem dX11_dayOf_74 : decode cX11_dayOf 74 = .ok (.iaload, 1) := by decide +kernel
theorem dX11_dayOf_75 : decode cX11_dayOf 75 = .ok (.invokestatic 235, 3) := by decide +kernel
theorem dX11_dayOf_78 : decode cX11_dayOf 78 = .ok (.ireturn, 1) := by decide +kernel
theorem dX11_dayOf_79 : decode cX11_dayOf 79 = .ok (.aload_n 0, 1) := by decide +kernel
theorem dX11_dayOf_80 : decode cX11_dayOf 80 = .ok (.getfield 7, 3) := by decide +kernel
theorem dX11_dayOf_83 : decode cX11_dayOf 83 = .ok (.bipush 23, 2) := by decide +kernel
theorem dX11_dayOf_85 : decode cX11_dayOf 85 = .ok (.iload_n 1, 1) := by decide +kernel
theorem dX11_dayOf_86 : decode cX11_dayOf 86 = .ok (.iadd, 1) := by decide +kernel
theorem dX11_dayOf_87 : decode cX11_dayOf 87 = .ok (.iaload, 1) := by decide +kernel
theorem dX11_dayOf_88 : decode cX11_dayOf 88 = .ok (.invokestatic 235, 3) := by decide +kernel
theorem dX11_dayOf_91 : decode cX11_dayOf 91 = .ok (.ireturn, 1) := by decide +kernel
theorem dX11_dayOf_92 : decode cX11_dayOf 92 = .ok (.aload_n 0, 1) := by decide +kernel
theorem dX11_dayOf_93 : decode cX11_dayOf 93 = .ok (.iload_n 1, 1) := by decide +kernel
theorem dX11_dayOf_94 : decode cX11_dayOf 94 = .ok (.invokevirtual 238, 3) := by decide +kernel
theorem dX11_dayOf_97 : decode cX11_dayOf 97 = .ok (.ireturn, 1) := by decide +kernel
theorem dX11_dayOf_98 : decode cX11_dayOf 98 = .ok (.aload_n 0, 1) := by decide +kernel
theorem dX11_dayOf_99 : decode cX11_dayOf 99 = .ok (.iload_n 1, 1) := by decide +kernel
theorem dX11_dayOf_100 : decode cX11_dayOf 100 = .ok (.invokevirtual 241, 3) := by decide +kernel
theorem dX11_dayOf_103 : decode cX11_dayOf 103 = .ok (.ireturn, 1) := by decide +kernel
theorem dX11_dayOf_104 : decode cX11_dayOf 104 = .ok (.aload_n 0, 1) := by decide +kernel
theorem dX11_dayOf_105 : decode cX11_dayOf 105 = .ok (.iload_n 1, 1) := by decide +kernel
theorem dX11_dayOf_106 : decode cX11_dayOf 106 = .ok (.invokevirtual 244, 3) := by decide +kernel
theorem dX11_dayOf_109 : decode cX11_dayOf 109 = .ok (.ireturn, 1) := by decide +kernel
theorem dX11_dayOf_110 : decode cX11_dayOf 110 = .ok (.aload_n 0, 1) := by decide +kernel
theorem dX11_dayOf_111 : decode cX11_dayOf 111 = .ok (.iload_n 1, 1) := by decide +kernel
theorem dX11_dayOf_112 : decode cX11_dayOf 112 = .ok (.iload_n 2, 1) := by decide +kernel
theorem dX11_dayOf_113 : decode cX11_dayOf 113 = .ok (.bipush 6, 2) := by decide +kernel
theorem dX11_dayOf_115 : decode cX11_dayOf 115 = .ok (.isub, 1) := by decide +kernel
theorem dX11_dayOf_116 : decode cX11_dayOf 116 = .ok (.invokevirtual 228, 3) := by decide +kernel
theorem dX11_dayOf_119 : decode cX11_dayOf 119 = .ok (.ireturn, 1) := by decide +kernel
theorem dX11_set_0 : decode cX11_set 0 = .ok (.iload_n 1, 1) := by decide +kernel
theorem dX11_set_1 : decode cX11_set 1 = .ok (.iconst 0, 1) := by decide +kernel
theorem dX11_set_2 : decode cX11_set 2 = .ok (.iconst 3, 1) := by decide +kernel
theorem dX11_set_3 : decode cX11_set 3 = .ok (.invokestatic 83, 3) := by decide +kernel
theorem dX11_set_6 : decode cX11_set 6 = .ok (.ifCond .eq 7, 3) := by decide +kernel
theorem dX11_set_9 : decode cX11_set 9 = .ok (.iload_n 1, 1) := by decide +kernel
theorem dX11_set_10 : decode cX11_set 10 = .ok (.goto 4, 3) := by decide +kernel
theorem dX11_set_13 : decode cX11_set 13 = .ok (.iconst 0, 1) := by decide +kernel
theorem dX11_set_14 : decode cX11_set 14 = .ok (.istore_n 3, 1) := by decide +kernel
theorem dX11_set_15 : decode cX11_set 15 = .ok (.iload_n 3, 1) := by decide +kernel
theorem dX11_set_16 : decode cX11_set 16 = .ok (.iload_n 1, 1) := by decide +kernel
theorem dX11_set_17 : decode cX11_set 17 = .ok (.if_icmp .ne 17, 3) := by decide +kernel
theorem dX11_set_20 : decode cX11_set 20 = .ok (.iload_n 2, 1) := by decide +kernel
theorem dX11_set_21 : decode cX11_set 21 = .ok (.iconst 0, 1) := by decide +kernel
theorem dX11_set_22 : decode cX11_set 22 = .ok (.aload_n 0, 1) := by decide +kernel
theorem dX11_set_23 : decode cX11_set 23 = .ok (.getfield 25, 3) := by decide +kernel
theorem dX11_set_26 : decode cX11_set 26 = .ok (.iload_n 3, 1) := by decide +kernel
theorem dX11_set_27 : decode cX11_set 27 = .ok (.iaload, 1) := by decide +kernel
theorem dX11_set_28 : decode cX11_set 28 = .ok (.invokestatic 83, 3) := by decide +kernel
theorem dX11_set_31 : decode cX11_set 31 = .ok (.ifCond .ne 5, 3) := by decide +kernel
theorem dX11_set_34 : decode cX11_set 34 = .ok (.iconst (-1), 1) := by decide +kernel
theorem dX11_set_35 : decode cX11_set 35 = .ok (.ireturn, 1) := by decide +kernel
theorem dX11_set_36 : decode cX11_set 36 = .ok (.aload_n 0, 1) := by decide +kernel
theorem dX11_set_37 : decode cX11_set 37 = .ok (.getfield 22, 3) := by decide +kernel
theorem dX11_set_40 : decode cX11_set 40 = .ok (.iload_n 1, 1) := by decide +kernel
theorem dX11_set_41 : decode cX11_set 41 = .ok (.iaload, 1) := by decide +kernel
theorem dX11_set_42 : decode cX11_set 42 = .ok (.istore 4, 2) := by decide +kernel
theorem dX11_set_44 : decode cX11_set 44 = .ok (.aload_n 0, 1) := by decide +kernel
theorem dX11_set_45 : decode cX11_set 45 = .ok (.getfield 22, 3) := by decide +kernel
theorem dX11_set_48 : decode cX11_set 48 = .ok (.iload_n 1, 1) := by decide +kernel
theorem dX11_set_49 : decode cX11_set 49 = .ok (.iload_n 2, 1) := by decide +kernel
theorem dX11_set_50 : decode cX11_set 50 = .ok (.iastore, 1) := by decide +kernel
theorem dX11_set_51 : decode cX11_set 51 = .ok (.iload 4, 2) := by decide +kernel
theorem dX11_set_53 : decode cX11_set 53 = .ok (.ireturn, 1) := by decide +kernel
theorem dX11_sayer_0 : decode cX11_sayer 0 = .ok (.iload_n 1, 1) := by decide +kernel
theorem dX11_sayer_1 : decode cX11_sayer 1 = .ok (.iconst 0, 1) := by decide +kernel
theorem dX11_sayer_2 : decode cX11_sayer 2 = .ok (.iconst 5, 1) := by decide +kernel
theorem dX11_sayer_3 : decode cX11_sayer 3 = .ok (.invokestatic 83, 3) := by decide +kernel
theorem dX11_sayer_6 : decode cX11_sayer 6 = .ok (.ifCond .eq 13, 3) := by decide +kernel
theorem dX11_sayer_9 : decode cX11_sayer 9 = .ok (.iload_n 2, 1) := by decide +kernel
theorem dX11_sayer_10 : decode cX11_sayer 10 = .ok (.iconst 0, 1) := by decide +kernel
theorem dX11_sayer_11 : decode cX11_sayer 11 = .ok (.bipush 9, 2) := by decide +kernel
theorem dX11_sayer_13 : decode cX11_sayer 13 = .ok (.invokestatic 83, 3) := by decide +kernel
theorem dX11_sayer_16 : decode cX11_sayer 16 = .ok (.ifCond .ne 5, 3) := by decide +kernel
theorem dX11_sayer_19 : decode cX11_sayer 19 = .ok (.iconst (-1), 1) := by decide +kernel
theorem dX11_sayer_20 : decode cX11_sayer 20 = .ok (.ireturn, 1) := by decide +kernel
theorem dX11_sayer_21 : decode cX11_sayer 21 = .ok (.aload_n 0, 1) := by decide +kernel
theorem dX11_sayer_22 : decode cX11_sayer 22 = .ok (.getfield 87, 3) := by decide +kernel
theorem dX11_sayer_25 : decode cX11_sayer 25 = .ok (.iconst 5, 1) := by decide +kernel
theorem dX11_sayer_26 : decode cX11_sayer 26 = .ok (.if_icmp .ne 6, 3) := by decide +kernel
theorem dX11_sayer_29 : decode cX11_sayer 29 = .ok (.bipush (-2), 2) := by decide +kernel
theorem dX11_sayer_31 : decode cX11_sayer 31 = .ok (.ireturn, 1) := by decide +kernel
theorem dX11_sayer_32 : decode cX11_sayer 32 = .ok (.aload_n 0, 1) := by decide +kernel
theorem dX11_sayer_33 : decode cX11_sayer 33 = .ok (.getfield 19, 3) := by decide +kernel
theorem dX11_sayer_36 : decode cX11_sayer 36 = .ok (.iconst 2, 1) := by decide +kernel
theorem dX11_sayer_37 : decode cX11_sayer 37 = .ok (.aload_n 0, 1) := by decide +kernel
theorem dX11_sayer_38 : decode cX11_sayer 38 = .ok (.getfield 87, 3) := by decide +kernel
theorem dX11_sayer_41 : decode cX11_sayer 41 = .ok (.imul, 1) := by decide +kernel
theorem dX11_sayer_42 : decode cX11_sayer 42 = .ok (.iload_n 1, 1) := by decide +kernel
theorem dX11_sayer_43 : decode cX11_sayer 43 = .ok (.iastore, 1) := by decide +kernel
theorem dX11_sayer_44 : decode cX11_sayer 44 = .ok (.aload_n 0, 1) := by decide +kernel
theorem dX11_sayer_45 : decode cX11_sayer 45 = .ok (.getfield 19, 3) := by decide +kernel
theorem dX11_sayer_48 : decode cX11_sayer 48 = .ok (.iconst 2, 1) := by decide +kernel
theorem dX11_sayer_49 : decode cX11_sayer 49 = .ok (.aload_n 0, 1) := by decide +kernel
theorem dX11_sayer_50 : decode cX11_sayer 50 = .ok (.getfield 87, 3) := by decide +kernel
theorem dX11_sayer_53 : decode cX11_sayer 53 = .ok (.imul, 1) := by decide +kernel
theorem dX11_sayer_54 : decode cX11_sayer 54 = .ok (.iconst 1, 1) := by decide +kernel
theorem dX11_sayer_55 : decode cX11_sayer 55 = .ok (.iadd, 1) := by decide +kernel
theorem dX11_sayer_56 : decode cX11_sayer 56 = .ok (.iload_n 2, 1) := by decide +kernel
theorem dX11_sayer_57 : decode cX11_sayer 57 = .ok (.iastore, 1) := by decide +kernel
theorem dX11_sayer_58 : decode cX11_sayer 58 = .ok (.aload_n 0, 1) := by decide +kernel
theorem dX11_sayer_59 : decode cX11_sayer 59 = .ok (.getfield 7, 3) := by decide +kernel
theorem dX11_sayer_62 : decode cX11_sayer 62 = .ok (.bipush 43, 2) := by decide +kernel
theorem dX11_sayer_64 : decode cX11_sayer 64 = .ok (.aload_n 0, 1) := by decide +kernel
theorem dX11_sayer_65 : decode cX11_sayer 65 = .ok (.getfield 87, 3) := by decide +kernel
theorem dX11_sayer_68 : decode cX11_sayer 68 = .ok (.iadd, 1) := by decide +kernel
theorem dX11_sayer_69 : decode cX11_sayer 69 = .ok (.iconst 0, 1) := by decide +kernel
theorem dX11_sayer_70 : decode cX11_sayer 70 = .ok (.iastore, 1) := by decide +kernel
theorem dX11_sayer_71 : decode cX11_sayer 71 = .ok (.aload_n 0, 1) := by decide +kernel
theorem dX11_sayer_72 : decode cX11_sayer 72 = .ok (.dup, 1) := by decide +kernel
theorem dX11_sayer_73 : decode cX11_sayer 73 = .ok (.getfield 87, 3) := by decide +kernel
theorem dX11_sayer_76 : decode cX11_sayer 76 = .ok (.iconst 1, 1) := by decide +kernel
theorem dX11_sayer_77 : decode cX11_sayer 77 = .ok (.iadd, 1) := by decide +kernel
theorem dX11_sayer_78 : decode cX11_sayer 78 = .ok (.putfield 87, 3) := by decide +kernel
theorem dX11_sayer_81 : decode cX11_sayer 81 = .ok (.aload_n 0, 1) := by decide +kernel
theorem dX11_sayer_82 : decode cX11_sayer 82 = .ok (.getfield 87, 3) := by decide +kernel
theorem dX11_sayer_85 : decode cX11_sayer 85 = .ok (.iconst 1, 1) := by decide +kernel
theorem dX11_sayer_86 : decode cX11_sayer 86 = .ok (.isub, 1) := by decide +kernel
theorem dX11_sayer_87 : decode cX11_sayer 87 = .ok (.ireturn, 1) := by decide +kernel
theorem dX11_sayerOf_0 : decode cX11_sayerOf 0 = .ok (.aload_n 0, 1) := by decide +kernel
theorem dX11_sayerOf_1 : decode cX11_sayerOf 1 = .ok (.iload_n 1, 1) := by decide +kernel
theorem dX11_sayerOf_2 : decode cX11_sayerOf 2 = .ok (.invokevirtual 247, 3) := by decide +kernel
theorem dX11_sayerOf_5 : decode cX11_sayerOf 5 = .ok (.ifCond .eq 12, 3) := by decide +kernel
theorem dX11_sayerOf_8 : decode cX11_sayerOf 8 = .ok (.iload_n 2, 1) := by decide +kernel
theorem dX11_sayerOf_9 : decode cX11_sayerOf 9 = .ok (.iconst 0, 1) := by decide +kernel
theorem dX11_sayerOf_10 : decode cX11_sayerOf 10 = .ok (.iconst 3, 1) := by decide +kernel
theorem dX11_sayerOf_11 : decode cX11_sayerOf 11 = .ok (.invokestatic 83, 3) := by decide +kernel
theorem dX11_sayerOf_14 : decode cX11_sayerOf 14 = .ok (.ifCond .ne 5, 3) := by decide +kernel
theorem dX11_sayerOf_17 : decode cX11_sayerOf 17 = .ok (.iconst (-1), 1) := by decide +kernel
theorem dX11_sayerOf_18 : decode cX11_sayerOf 18 = .ok (.ireturn, 1) := by decide +kernel
theorem dX11_sayerOf_19 : decode cX11_sayerOf 19 = .ok (.iconst 0, 1) := by decide +kernel
theorem dX11_sayerOf_20 : decode cX11_sayerOf 20 = .ok (.istore_n 3, 1) := by decide +kernel
theorem dX11_sayerOf_21 : decode cX11_sayerOf 21 = .ok (.iconst 0, 1) := by decide +kernel
theorem dX11_sayerOf_22 : decode cX11_sayerOf 22 = .ok (.istore 4, 2) := by decide +kernel
theorem dX11_sayerOf_24 : decode cX11_sayerOf 24 = .ok (.iload 4, 2) := by decide +kernel
theorem dX11_sayerOf_26 : decode cX11_sayerOf 26 = .ok (.aload_n 0, 1) := by decide +kernel
theorem dX11_sayerOf_27 : decode cX11_sayerOf 27 = .ok (.getfield 7, 3) := by decide +kernel
theorem dX11_sayerOf_30 : decode cX11_sayerOf 30 = .ok (.iconst 2, 1) := by decide +kernel
theorem dX11_sayerOf_31 : decode cX11_sayerOf 31 = .ok (.iaload, 1) := by decide +kernel
theorem dX11_sayerOf_32 : decode cX11_sayerOf 32 = .ok (.if_icmp .ge 28, 3) := by decide +kernel
theorem dX11_sayerOf_35 : decode cX11_sayerOf 35 = .ok (.iload_n 3, 1) := by decide +kernel
theorem dX11_sayerOf_36 : decode cX11_sayerOf 36 = .ok (.aload_n 0, 1) := by decide +kernel
theorem dX11_sayerOf_37 : decode cX11_sayerOf 37 = .ok (.iload 4, 2) := by decide +kernel
theorem dX11_sayerOf_39 : decode cX11_sayerOf 39 = .ok (.iconst 0, 1) := by decide +kernel
theorem dX11_sayerOf_40 : decode cX11_sayerOf 40 = .ok (.invokevirtual 232, 3) := by decide +kernel
theorem dX11_sayerOf_43 : decode cX11_sayerOf 43 = .ok (.iload_n 1, 1) := by decide +kernel
theorem dX11_sayerOf_44 : decode cX11_sayerOf 44 = .ok (.if_icmp .ne 7, 3) := by decide +kernel
theorem dX11_sayerOf_47 : decode cX11_sayerOf 47 = .ok (.iconst 1, 1) := by decide +kernel
theorem dX11_sayerOf_48 : decode cX11_sayerOf 48 = .ok (.goto 4, 3) := by decide +kernel
theorem dX11_sayerOf_51 : decode cX11_sayerOf 51 = .ok (.iconst 0, 1) := by decide +kernel
theorem dX11_sayerOf_52 : decode cX11_sayerOf 52 = .ok (.iadd, 1) := by decide +kernel
theorem dX11_sayerOf_53 : decode cX11_sayerOf 53 = .ok (.istore_n 3, 1) := by decide +kernel
theorem dX11_sayerOf_54 : decode cX11_sayerOf 54 = .ok (.iinc 4 1, 3) := by decide +kernel
theorem dX11_sayerOf_57 : decode cX11_sayerOf 57 = .ok (.goto (-33), 3) := by decide +kernel
theorem dX11_sayerOf_60 : decode cX11_sayerOf 60 = .ok (.iload_n 2, 1) := by decide +kernel
theorem dX11_sayerOf_61 : decode cX11_sayerOf 61 = .ok (.ifCond .ne 11, 3) := by decide +kernel
theorem dX11_sayerOf_64 : decode cX11_sayerOf 64 = .ok (.aload_n 0, 1) := by decide +kernel
theorem dX11_sayerOf_65 : decode cX11_sayerOf 65 = .ok (.iload_n 1, 1) := by decide +kernel
theorem dX11_sayerOf_66 : decode cX11_sayerOf 66 = .ok (.invokevirtual 250, 3) := by decide +kernel
theorem dX11_sayerOf_69 : decode cX11_sayerOf 69 = .ok (.goto 38, 3) := by decide +kernel
theorem dX11_sayerOf_72 : decode cX11_sayerOf 72 = .ok (.iload_n 2, 1) := by decide +kernel
theorem dX11_sayerOf_73 : decode cX11_sayerOf 73 = .ok (.iconst 1, 1) := by decide +kernel
theorem dX11_sayerOf_74 : decode cX11_sayerOf 74 = .ok (.if_icmp .ne 11, 3) := by decide +kernel
theorem dX11_sayerOf_77 : decode cX11_sayerOf 77 = .ok (.aload_n 0, 1) := by decide +kernel
theorem dX11_sayerOf_78 : decode cX11_sayerOf 78 = .ok (.iload_n 1, 1) := by decide +kernel
theorem dX11_sayerOf_79 : decode cX11_sayerOf 79 = .ok (.invokevirtual 253, 3) := by decide +kernel
theorem dX11_sayerOf_82 : decode cX11_sayerOf 82 = .ok (.goto 25, 3) := by decide +kernel
theorem dX11_sayerOf_85 : decode cX11_sayerOf 85 = .ok (.iload_n 2, 1) := by decide +kernel
theorem dX11_sayerOf_86 : decode cX11_sayerOf 86 = .ok (.iconst 2, 1) := by decide +kernel
theorem dX11_sayerOf_87 : decode cX11_sayerOf 87 = .ok (.if_icmp .ne 19, 3) := by decide +kernel
theorem dX11_sayerOf_90 : decode cX11_sayerOf 90 = .ok (.ldc_w 256, 3) := by decide +kernel
theorem dX11_sayerOf_93 : decode cX11_sayerOf 93 = .ok (.aload_n 0, 1) := by decide +kernel
theorem dX11_sayerOf_94 : decode cX11_sayerOf 94 = .ok (.getfield 7, 3) := by decide +kernel
theorem dX11_sayerOf_97 : decode cX11_sayerOf 97 = .ok (.bipush 43, 2) := by decide +kernel
theorem dX11_sayerOf_99 : decode cX11_sayerOf 99 = .ok (.iload_n 1, 1) := by decide +kernel
theorem dX11_sayerOf_100 : decode cX11_sayerOf 100 = .ok (.iadd, 1) := by decide +kernel
theorem dX11_sayerOf_101 : decode cX11_sayerOf 101 = .ok (.iaload, 1) := by decide +kernel
theorem dX11_sayerOf_102 : decode cX11_sayerOf 102 = .ok (.iadd, 1) := by decide +kernel
theorem dX11_sayerOf_103 : decode cX11_sayerOf 103 = .ok (.goto 4, 3) := by decide +kernel
theorem dX11_sayerOf_106 : decode cX11_sayerOf 106 = .ok (.iload_n 3, 1) := by decide +kernel
theorem dX11_sayerOf_107 : decode cX11_sayerOf 107 = .ok (.ireturn, 1) := by decide +kernel
theorem dX11_mind_0 : decode cX11_mind 0 = .ok (.aload_n 0, 1) := by decide +kernel
theorem dX11_mind_1 : decode cX11_mind 1 = .ok (.iload_n 1, 1) := by decide +kernel
theorem dX11_mind_2 : decode cX11_mind 2 = .ok (.invokevirtual 247, 3) := by decide +kernel
theorem dX11_mind_5 : decode cX11_mind 5 = .ok (.ifCond .eq 22, 3) := by decide +kernel
theorem dX11_mind_8 : decode cX11_mind 8 = .ok (.iload_n 2, 1) := by decide +kernel
theorem dX11_mind_9 : decode cX11_mind 9 = .ok (.iconst 0, 1) := by decide +kernel
theorem dX11_mind_10 : decode cX11_mind 10 = .ok (.iconst 5, 1) := by decide +kernel
theorem dX11_mind_11 : decode cX11_mind 11 = .ok (.invokestatic 83, 3) := by decide +kernel
theorem dX11_mind_14 : decode cX11_mind 14 = .ok (.ifCond .eq 13, 3) := by decide +kernel
theorem dX11_mind_17 : decode cX11_mind 17 = .ok (.iload_n 3, 1) := by decide +kernel
theorem dX11_mind_18 : decode cX11_mind 18 = .ok (.iconst 0, 1) := by decide +kernel
theorem dX11_mind_19 : decode cX11_mind 19 = .ok (.bipush 9, 2) := by decide +kernel
theorem dX11_mind_21 : decode cX11_mind 21 = .ok (.invokestatic 83, 3) := by decide +kernel
theorem dX11_mind_24 : decode cX11_mind 24 = .ok (.ifCond .ne 5, 3) := by decide +kernel
theorem dX11_mind_27 : decode cX11_mind 27 = .ok (.iconst (-1), 1) := by decide +kernel
theorem dX11_mind_28 : decode cX11_mind 28 = .ok (.ireturn, 1) := by decide +kernel
theorem dX11_mind_29 : decode cX11_mind 29 = .ok (.aload_n 0, 1) := by decide +kernel
theorem dX11_mind_30 : decode cX11_mind 30 = .ok (.iload_n 1, 1) := by decide +kernel
theorem dX11_mind_31 : decode cX11_mind 31 = .ok (.invokevirtual 250, 3) := by decide +kernel
theorem dX11_mind_34 : decode cX11_mind 34 = .ok (.istore 4, 2) := by decide +kernel
theorem dX11_mind_36 : decode cX11_mind 36 = .ok (.aload_n 0, 1) := by decide +kernel
theorem dX11_mind_37 : decode cX11_mind 37 = .ok (.getfield 19, 3) := by decide +kernel
theorem dX11_mind_40 : decode cX11_mind 40 = .ok (.iconst 2, 1) := by decide +kernel
theorem dX11_mind_41 : decode cX11_mind 41 = .ok (.iload_n 1, 1) := by decide +kernel
theorem dX11_mind_42 : decode cX11_mind 42 = .ok (.imul, 1) := by decide +kernel
theorem dX11_mind_43 : decode cX11_mind 43 = .ok (.iload_n 2, 1) := by decide +kernel
theorem dX11_mind_44 : decode cX11_mind 44 = .ok (.iastore, 1) := by decide +kernel
theorem dX11_mind_45 : decode cX11_mind 45 = .ok (.aload_n 0, 1) := by decide +kernel
theorem dX11_mind_46 : decode cX11_mind 46 = .ok (.getfield 19, 3) := by decide +kernel
theorem dX11_mind_49 : decode cX11_mind 49 = .ok (.iconst 2, 1) := by decide +kernel
theorem dX11_mind_50 : decode cX11_mind 50 = .ok (.iload_n 1, 1) := by decide +kernel
theorem dX11_mind_51 : decode cX11_mind 51 = .ok (.imul, 1) := by decide +kernel
theorem dX11_mind_52 : decode cX11_mind 52 = .ok (.iconst 1, 1) := by decide +kernel
theorem dX11_mind_53 : decode cX11_mind 53 = .ok (.iadd, 1) := by decide +kernel
theorem dX11_mind_54 : decode cX11_mind 54 = .ok (.iload_n 3, 1) := by decide +kernel
theorem dX11_mind_55 : decode cX11_mind 55 = .ok (.iastore, 1) := by decide +kernel
theorem dX11_mind_56 : decode cX11_mind 56 = .ok (.iload 4, 2) := by decide +kernel
theorem dX11_mind_58 : decode cX11_mind 58 = .ok (.ireturn, 1) := by decide +kernel
theorem dX11_purse_0 : decode cX11_purse 0 = .ok (.aload_n 0, 1) := by decide +kernel
theorem dX11_purse_1 : decode cX11_purse 1 = .ok (.iload_n 1, 1) := by decide +kernel
theorem dX11_purse_2 : decode cX11_purse 2 = .ok (.invokevirtual 247, 3) := by decide +kernel
theorem dX11_purse_5 : decode cX11_purse 5 = .ok (.ifCond .eq 16, 3) := by decide +kernel
theorem dX11_purse_8 : decode cX11_purse 8 = .ok (.iload_n 2, 1) := by decide +kernel
theorem dX11_purse_9 : decode cX11_purse 9 = .ok (.sipush (-9999), 3) := by decide +kernel
theorem dX11_purse_12 : decode cX11_purse 12 = .ok (.sipush 9999, 3) := by decide +kernel
theorem dX11_purse_15 : decode cX11_purse 15 = .ok (.invokestatic 83, 3) := by decide +kernel
theorem dX11_purse_18 : decode cX11_purse 18 = .ok (.ifCond .ne 5, 3) := by decide +kernel
theorem dX11_purse_21 : decode cX11_purse 21 = .ok (.iconst (-1), 1) := by decide +kernel
theorem dX11_purse_22 : decode cX11_purse 22 = .ok (.ireturn, 1) := by decide +kernel
theorem dX11_purse_23 : decode cX11_purse 23 = .ok (.aload_n 0, 1) := by decide +kernel
theorem dX11_purse_24 : decode cX11_purse 24 = .ok (.getfield 7, 3) := by decide +kernel
theorem dX11_purse_27 : decode cX11_purse 27 = .ok (.bipush 43, 2) := by decide +kernel
theorem dX11_purse_29 : decode cX11_purse 29 = .ok (.iload_n 1, 1) := by decide +kernel
theorem dX11_purse_30 : decode cX11_purse 30 = .ok (.iadd, 1) := by decide +kernel
theorem dX11_purse_31 : decode cX11_purse 31 = .ok (.iaload, 1) := by decide +kernel
theorem dX11_purse_32 : decode cX11_purse 32 = .ok (.istore_n 3, 1) := by decide +kernel
theorem dX11_purse_33 : decode cX11_purse 33 = .ok (.aload_n 0, 1) := by decide +kernel
theorem dX11_purse_34 : decode cX11_purse 34 = .ok (.getfield 7, 3) := by decide +kernel
theorem dX11_purse_37 : decode cX11_purse 37 = .ok (.bipush 43, 2) := by decide +kernel
theorem dX11_purse_39 : decode cX11_purse 39 = .ok (.iload_n 1, 1) := by decide +kernel
theorem dX11_purse_40 : decode cX11_purse 40 = .ok (.iadd, 1) := by decide +kernel
theorem dX11_purse_41 : decode cX11_purse 41 = .ok (.iload_n 2, 1) := by decide +kernel
theorem dX11_purse_42 : decode cX11_purse 42 = .ok (.iastore, 1) := by decide +kernel
theorem dX11_purse_43 : decode cX11_purse 43 = .ok (.ldc_w 256, 3) := by decide +kernel
theorem dX11_purse_46 : decode cX11_purse 46 = .ok (.iload_n 3, 1) := by decide +kernel
theorem dX11_purse_47 : decode cX11_purse 47 = .ok (.iadd, 1) := by decide +kernel
theorem dX11_purse_48 : decode cX11_purse 48 = .ok (.ireturn, 1) := by decide +kernel
theorem dX11_says_0 : decode cX11_says 0 = .ok (.aload_n 0, 1) := by decide +kernel
theorem dX11_says_1 : decode cX11_says 1 = .ok (.getfield 91, 3) := by decide +kernel
theorem dX11_says_4 : decode cX11_says 4 = .ok (.bipush 48, 2) := by decide +kernel
theorem dX11_says_6 : decode cX11_says 6 = .ok (.iadd, 1) := by decide +kernel
theorem dX11_says_7 : decode cX11_says 7 = .ok (.iconst 3, 1) := by decide +kernel
theorem dX11_says_8 : decode cX11_says 8 = .ok (.aload_n 0, 1) := by decide +kernel
theorem dX11_says_9 : decode cX11_says 9 = .ok (.iconst 2, 1) := by decide +kernel
theorem dX11_says_10 : decode cX11_says 10 = .ok (.invokevirtual 225, 3) := by decide +kernel
theorem dX11_says_13 : decode cX11_says 13 = .ok (.imul, 1) := by decide +kernel
theorem dX11_says_14 : decode cX11_says 14 = .ok (.iadd, 1) := by decide +kernel
theorem dX11_says_15 : decode cX11_says 15 = .ok (.istore 4, 2) := by decide +kernel
theorem dX11_says_17 : decode cX11_says 17 = .ok (.aload_n 0, 1) := by decide +kernel
theorem dX11_says_18 : decode cX11_says 18 = .ok (.getfield 7, 3) := by decide +kernel
theorem dX11_says_21 : decode cX11_says 21 = .ok (.iload 4, 2) := by decide +kernel
theorem dX11_says_23 : decode cX11_says 23 = .ok (.iload_n 1, 1) := by decide +kernel
theorem dX11_says_24 : decode cX11_says 24 = .ok (.iastore, 1) := by decide +kernel
theorem dX11_says_25 : decode cX11_says 25 = .ok (.aload_n 0, 1) := by decide +kernel
theorem dX11_says_26 : decode cX11_says 26 = .ok (.getfield 7, 3) := by decide +kernel
theorem dX11_says_29 : decode cX11_says 29 = .ok (.iload 4, 2) := by decide +kernel
theorem dX11_says_31 : decode cX11_says 31 = .ok (.iconst 1, 1) := by decide +kernel
theorem dX11_says_32 : decode cX11_says 32 = .ok (.iadd, 1) := by decide +kernel
theorem dX11_says_33 : decode cX11_says 33 = .ok (.iload_n 2, 1) := by decide +kernel
theorem dX11_says_34 : decode cX11_says 34 = .ok (.iastore, 1) := by decide +kernel
theorem dX11_says_35 : decode cX11_says 35 = .ok (.aload_n 0, 1) := by decide +kernel
theorem dX11_says_36 : decode cX11_says 36 = .ok (.getfield 7, 3) := by decide +kernel
theorem dX11_says_39 : decode cX11_says 39 = .ok (.iload 4, 2) := by decide +kernel
theorem dX11_says_41 : decode cX11_says 41 = .ok (.iconst 2, 1) := by decide +kernel
theorem dX11_says_42 : decode cX11_says 42 = .ok (.iadd, 1) := by decide +kernel
theorem dX11_says_43 : decode cX11_says 43 = .ok (.iload_n 3, 1) := by decide +kernel
theorem dX11_says_44 : decode cX11_says 44 = .ok (.iastore, 1) := by decide +kernel
theorem dX11_says_45 : decode cX11_says 45 = .ok (.aload_n 0, 1) := by decide +kernel
theorem dX11_says_46 : decode cX11_says 46 = .ok (.getfield 7, 3) := by decide +kernel
theorem dX11_says_49 : decode cX11_says 49 = .ok (.aload_n 0, 1) := by decide +kernel
theorem dX11_says_50 : decode cX11_says 50 = .ok (.getfield 91, 3) := by decide +kernel
theorem dX11_says_53 : decode cX11_says 53 = .ok (.iconst 2, 1) := by decide +kernel
theorem dX11_says_54 : decode cX11_says 54 = .ok (.iadd, 1) := by decide +kernel
theorem dX11_says_55 : decode cX11_says 55 = .ok (.dup2, 1) := by decide +kernel
theorem dX11_says_56 : decode cX11_says 56 = .ok (.iaload, 1) := by decide +kernel
theorem dX11_says_57 : decode cX11_says 57 = .ok (.iconst 1, 1) := by decide +kernel
theorem dX11_says_58 : decode cX11_says 58 = .ok (.iadd, 1) := by decide +kernel
theorem dX11_says_59 : decode cX11_says 59 = .ok (.iastore, 1) := by decide +kernel
theorem dX11_says_60 : decode cX11_says 60 = .ok (.aload_n 0, 1) := by decide +kernel
theorem dX11_says_61 : decode cX11_says 61 = .ok (.getfield 7, 3) := by decide +kernel
theorem dX11_says_64 : decode cX11_says 64 = .ok (.aload_n 0, 1) := by decide +kernel
theorem dX11_says_65 : decode cX11_says 65 = .ok (.getfield 91, 3) := by decide +kernel
theorem dX11_says_68 : decode cX11_says 68 = .ok (.bipush 43, 2) := by decide +kernel
theorem dX11_says_70 : decode cX11_says 70 = .ok (.iadd, 1) := by decide +kernel
theorem dX11_says_71 : decode cX11_says 71 = .ok (.iload_n 1, 1) := by decide +kernel
theorem dX11_says_72 : decode cX11_says 72 = .ok (.iadd, 1) := by decide +kernel
theorem dX11_says_73 : decode cX11_says 73 = .ok (.dup2, 1) := by decide +kernel
theorem dX11_says_74 : decode cX11_says 74 = .ok (.iaload, 1) := by decide +kernel
theorem dX11_says_75 : decode cX11_says 75 = .ok (.aload_n 0, 1) := by decide +kernel
theorem dX11_says_76 : decode cX11_says 76 = .ok (.getfield 22, 3) := by decide +kernel
theorem dX11_says_79 : decode cX11_says 79 = .ok (.iconst 2, 1) := by decide +kernel
theorem dX11_says_80 : decode cX11_says 80 = .ok (.iaload, 1) := by decide +kernel
theorem dX11_says_81 : decode cX11_says 81 = .ok (.isub, 1) := by decide +kernel
theorem dX11_says_82 : decode cX11_says 82 = .ok (.iastore, 1) := by decide +kernel
theorem dX11_says_83 : decode cX11_says 83 = .ok (.return_, 1) := by decide +kernel
theorem dX11_say_0 : decode cX11_say 0 = .ok (.aload_n 0, 1) := by decide +kernel
theorem dX11_say_1 : decode cX11_say 1 = .ok (.iload_n 1, 1) := by decide +kernel
theorem dX11_say_2 : decode cX11_say 2 = .ok (.invokevirtual 247, 3) := by decide +kernel
theorem dX11_say_5 : decode cX11_say 5 = .ok (.ifCond .eq 25, 3) := by decide +kernel
theorem dX11_say_8 : decode cX11_say 8 = .ok (.iload_n 2, 1) := by decide +kernel
theorem dX11_say_9 : decode cX11_say 9 = .ok (.aload_n 0, 1) := by decide +kernel
theorem dX11_say_10 : decode cX11_say 10 = .ok (.getfield 7, 3) := by decide +kernel
theorem dX11_say_13 : decode cX11_say 13 = .ok (.iconst 0, 1) := by decide +kernel
theorem dX11_say_14 : decode cX11_say 14 = .ok (.iaload, 1) := by decide +kernel
theorem dX11_say_15 : decode cX11_say 15 = .ok (.bipush 19, 2) := by decide +kernel
theorem dX11_say_17 : decode cX11_say 17 = .ok (.invokestatic 83, 3) := by decide +kernel
theorem dX11_say_20 : decode cX11_say 20 = .ok (.ifCond .eq 10, 3) := by decide +kernel
theorem dX11_say_23 : decode cX11_say 23 = .ok (.iload_n 3, 1) := by decide +kernel
theorem dX11_say_24 : decode cX11_say 24 = .ok (.invokestatic 219, 3) := by decide +kernel
theorem dX11_say_27 : decode cX11_say 27 = .ok (.ifCond .ne 5, 3) := by decide +kernel
theorem dX11_say_30 : decode cX11_say 30 = .ok (.iconst (-1), 1) := by decide +kernel
theorem dX11_say_31 : decode cX11_say 31 = .ok (.ireturn, 1) := by decide +kernel
theorem dX11_say_32 : decode cX11_say 32 = .ok (.aload_n 0, 1) := by decide +kernel
theorem dX11_say_33 : decode cX11_say 33 = .ok (.iload_n 2, 1) := by decide +kernel
theorem dX11_say_34 : decode cX11_say 34 = .ok (.invokevirtual 244, 3) := by decide +kernel
theorem dX11_say_37 : decode cX11_say 37 = .ok (.iload_n 3, 1) := by decide +kernel
theorem dX11_say_38 : decode cX11_say 38 = .ok (.ishr, 1) := by decide +kernel
theorem dX11_say_39 : decode cX11_say 39 = .ok (.iconst 1, 1) := by decide +kernel
theorem dX11_say_40 : decode cX11_say 40 = .ok (.iand, 1) := by decide +kernel
theorem dX11_say_41 : decode cX11_say 41 = .ok (.iconst 1, 1) := by decide +kernel
theorem dX11_say_42 : decode cX11_say 42 = .ok (.if_icmp .ne 6, 3) := by decide +kernel
theorem dX11_say_45 : decode cX11_say 45 = .ok (.bipush (-4), 2) := by decide +kernel
theorem dX11_say_47 : decode cX11_say 47 = .ok (.ireturn, 1) := by decide +kernel
theorem dX11_say_48 : decode cX11_say 48 = .ok (.aload_n 0, 1) := by decide +kernel
theorem dX11_say_49 : decode cX11_say 49 = .ok (.getfield 7, 3) := by decide +kernel
theorem dX11_say_52 : decode cX11_say 52 = .ok (.iconst 2, 1) := by decide +kernel
theorem dX11_say_53 : decode cX11_say 53 = .ok (.iaload, 1) := by decide +kernel
theorem dX11_say_54 : decode cX11_say 54 = .ok (.bipush 40, 2) := by decide +kernel
theorem dX11_say_56 : decode cX11_say 56 = .ok (.if_icmp .ne 6, 3) := by decide +kernel
theorem dX11_say_59 : decode cX11_say 59 = .ok (.bipush (-2), 2) := by decide +kernel
theorem dX11_say_61 : decode cX11_say 61 = .ok (.ireturn, 1) := by decide +kernel
theorem dX11_say_62 : decode cX11_say 62 = .ok (.aload_n 0, 1) := by decide +kernel
theorem dX11_say_63 : decode cX11_say 63 = .ok (.iload_n 1, 1) := by decide +kernel
theorem dX11_say_64 : decode cX11_say 64 = .ok (.iload_n 2, 1) := by decide +kernel
theorem dX11_say_65 : decode cX11_say 65 = .ok (.iload_n 3, 1) := by decide +kernel
theorem dX11_say_66 : decode cX11_say 66 = .ok (.invokevirtual 257, 3) := by decide +kernel
theorem dX11_say_69 : decode cX11_say 69 = .ok (.aload_n 0, 1) := by decide +kernel
theorem dX11_say_70 : decode cX11_say 70 = .ok (.getfield 7, 3) := by decide +kernel
theorem dX11_say_73 : decode cX11_say 73 = .ok (.iconst 2, 1) := by decide +kernel
theorem dX11_say_74 : decode cX11_say 74 = .ok (.iaload, 1) := by decide +kernel
theorem dX11_say_75 : decode cX11_say 75 = .ok (.iconst 1, 1) := by decide +kernel
theorem dX11_say_76 : decode cX11_say 76 = .ok (.isub, 1) := by decide +kernel
theorem dX11_say_77 : decode cX11_say 77 = .ok (.ireturn, 1) := by decide +kernel
theorem dX11_sayingOf_0 : decode cX11_sayingOf 0 = .ok (.iload_n 1, 1) := by decide +kernel
theorem dX11_sayingOf_1 : decode cX11_sayingOf 1 = .ok (.iconst 0, 1) := by decide +kernel
theorem dX11_sayingOf_2 : decode cX11_sayingOf 2 = .ok (.aload_n 0, 1) := by decide +kernel
theorem dX11_sayingOf_3 : decode cX11_sayingOf 3 = .ok (.getfield 7, 3) := by decide +kernel
theorem dX11_sayingOf_6 : decode cX11_sayingOf 6 = .ok (.iconst 2, 1) := by decide +kernel
theorem dX11_sayingOf_7 : decode cX11_sayingOf 7 = .ok (.iaload, 1) := by decide +kernel
theorem dX11_sayingOf_8 : decode cX11_sayingOf 8 = .ok (.iconst 1, 1) := by decide +kernel
theorem dX11_sayingOf_9 : decode cX11_sayingOf 9 = .ok (.isub, 1) := by decide +kernel
theorem dX11_sayingOf_10 : decode cX11_sayingOf 10 = .ok (.invokestatic 83, 3) := by decide +kernel
theorem dX11_sayingOf_13 : decode cX11_sayingOf 13 = .ok (.ifCond .eq 12, 3) := by decide +kernel
theorem dX11_sayingOf_16 : decode cX11_sayingOf 16 = .ok (.iload_n 2, 1) := by decide +kernel
theorem dX11_sayingOf_17 : decode cX11_sayingOf 17 = .ok (.iconst 0, 1) := by decide +kernel
theorem dX11_sayingOf_18 : decode cX11_sayingOf 18 = .ok (.iconst 3, 1) := by decide +kernel
theorem dX11_sayingOf_19 : decode cX11_sayingOf 19 = .ok (.invokestatic 83, 3) := by decide +kernel
theorem dX11_sayingOf_22 : decode cX11_sayingOf 22 = .ok (.ifCond .ne 5, 3) := by decide +kernel
theorem dX11_sayingOf_25 : decode cX11_sayingOf 25 = .ok (.iconst (-1), 1) := by decide +kernel
theorem dX11_sayingOf_26 : decode cX11_sayingOf 26 = .ok (.ireturn, 1) := by decide +kernel
theorem dX11_sayingOf_27 : decode cX11_sayingOf 27 = .ok (.iload_n 2, 1) := by decide +kernel
theorem dX11_sayingOf_28 : decode cX11_sayingOf 28 = .ok (.iconst 3, 1) := by decide +kernel
theorem dX11_sayingOf_29 : decode cX11_sayingOf 29 = .ok (.if_icmp .ge 12, 3) := by decide +kernel
theorem dX11_sayingOf_32 : decode cX11_sayingOf 32 = .ok (.aload_n 0, 1) := by decide +kernel
theorem dX11_sayingOf_33 : decode cX11_sayingOf 33 = .ok (.iload_n 1, 1) := by decide +kernel
theorem dX11_sayingOf_34 : decode cX11_sayingOf 34 = .ok (.iload_n 2, 1) := by decide +kernel
theorem dX11_sayingOf_35 : decode cX11_sayingOf 35 = .ok (.invokevirtual 232, 3) := by decide +kernel
theorem dX11_sayingOf_38 : decode cX11_sayingOf 38 = .ok (.goto 50, 3) := by decide +kernel
theorem dX11_sayingOf_41 : decode cX11_sayingOf 41 = .ok (.aload_n 0, 1) := by decide +kernel
theorem dX11_sayingOf_42 : decode cX11_sayingOf 42 = .ok (.iload_n 1, 1) := by decide +kernel
theorem dX11_sayingOf_43 : decode cX11_sayingOf 43 = .ok (.iconst 1, 1) := by decide +kernel
theorem dX11_sayingOf_44 : decode cX11_sayingOf 44 = .ok (.invokevirtual 232, 3) := by decide +kernel
theorem dX11_sayingOf_47 : decode cX11_sayingOf 47 = .ok (.aload_n 0, 1) := by decide +kernel
theorem dX11_sayingOf_48 : decode cX11_sayingOf 48 = .ok (.getfield 7, 3) := by decide +kernel
theorem dX11_sayingOf_51 : decode cX11_sayingOf 51 = .ok (.iconst 0, 1) := by decide +kernel
theorem dX11_sayingOf_52 : decode cX11_sayingOf 52 = .ok (.iaload, 1) := by decide +kernel
theorem dX11_sayingOf_53 : decode cX11_sayingOf 53 = .ok (.if_icmp .lt 7, 3) := by decide +kernel
theorem dX11_sayingOf_56 : decode cX11_sayingOf 56 = .ok (.iconst 0, 1) := by decide +kernel
theorem dX11_sayingOf_57 : decode cX11_sayingOf 57 = .ok (.goto 31, 3) := by decide +kernel
theorem dX11_sayingOf_60 : decode cX11_sayingOf 60 = .ok (.aload_n 0, 1) := by decide +kernel
theorem dX11_sayingOf_61 : decode cX11_sayingOf 61 = .ok (.getfield 7, 3) := by decide +kernel
theorem dX11_sayingOf_64 : decode cX11_sayingOf 64 = .ok (.bipush 23, 2) := by decide +kernel
theorem dX11_sayingOf_66 : decode cX11_sayingOf 66 = .ok (.aload_n 0, 1) := by decide +kernel
theorem dX11_sayingOf_67 : decode cX11_sayingOf 67 = .ok (.iload_n 1, 1) := by decide +kernel
theorem dX11_sayingOf_68 : decode cX11_sayingOf 68 = .ok (.iconst 1, 1) := by decide +kernel
theorem dX11_sayingOf_69 : decode cX11_sayingOf 69 = .ok (.invokevirtual 232, 3) := by decide +kernel
theorem dX11_sayingOf_72 : decode cX11_sayingOf 72 = .ok (.iadd, 1) := by decide +kernel
theorem dX11_sayingOf_73 : decode cX11_sayingOf 73 = .ok (.iaload, 1) := by decide +kernel
theorem dX11_sayingOf_74 : decode cX11_sayingOf 74 = .ok (.aload_n 0, 1) := by decide +kernel
theorem dX11_sayingOf_75 : decode cX11_sayingOf 75 = .ok (.iload_n 1, 1) := by decide +kernel
theorem dX11_sayingOf_76 : decode cX11_sayingOf 76 = .ok (.iconst 2, 1) := by decide +kernel
theorem dX11_sayingOf_77 : decode cX11_sayingOf 77 = .ok (.invokevirtual 232, 3) := by decide +kernel
theorem dX11_sayingOf_80 : decode cX11_sayingOf 80 = .ok (.if_icmp .ne 7, 3) := by decide +kernel
theorem dX11_sayingOf_83 : decode cX11_sayingOf 83 = .ok (.iconst 1, 1) := by decide +kernel
theorem dX11_sayingOf_84 : decode cX11_sayingOf 84 = .ok (.goto 4, 3) := by decide +kernel
theorem dX11_sayingOf_87 : decode cX11_sayingOf 87 = .ok (.iconst 2, 1) := by decide +kernel
theorem dX11_sayingOf_88 : decode cX11_sayingOf 88 = .ok (.ireturn, 1) := by decide +kernel
theorem dX11_one_0 : decode cX11_one 0 = .ok (.aload_n 0, 1) := by decide +kernel
theorem dX11_one_1 : decode cX11_one 1 = .ok (.iload_n 1, 1) := by decide +kernel
theorem dX11_one_2 : decode cX11_one 2 = .ok (.putfield 261, 3) := by decide +kernel
theorem dX11_one_5 : decode cX11_one 5 = .ok (.aload_n 0, 1) := by decide +kernel
theorem dX11_one_6 : decode cX11_one 6 = .ok (.iload_n 2, 1) := by decide +kernel
theorem dX11_one_7 : decode cX11_one 7 = .ok (.putfield 264, 3) := by decide +kernel
theorem dX11_one_10 : decode cX11_one 10 = .ok (.aload_n 0, 1) := by decide +kernel
theorem dX11_one_11 : decode cX11_one 11 = .ok (.aload_n 0, 1) := by decide +kernel
theorem dX11_one_12 : decode cX11_one 12 = .ok (.iload_n 1, 1) := by decide +kernel
theorem dX11_one_13 : decode cX11_one 13 = .ok (.invokevirtual 244, 3) := by decide +kernel
theorem dX11_one_16 : decode cX11_one 16 = .ok (.iload_n 2, 1) := by decide +kernel
theorem dX11_one_17 : decode cX11_one 17 = .ok (.ishr, 1) := by decide +kernel
theorem dX11_one_18 : decode cX11_one 18 = .ok (.iconst 1, 1) := by decide +kernel
theorem dX11_one_19 : decode cX11_one 19 = .ok (.iand, 1) := by decide +kernel
theorem dX11_one_20 : decode cX11_one 20 = .ok (.iconst 1, 1) := by decide +kernel
theorem dX11_one_21 : decode cX11_one 21 = .ok (.if_icmp .eq 13, 3) := by decide +kernel
theorem dX11_one_24 : decode cX11_one 24 = .ok (.aload_n 0, 1) := by decide +kernel
theorem dX11_one_25 : decode cX11_one 25 = .ok (.iconst 2, 1) := by decide +kernel
theorem dX11_one_26 : decode cX11_one 26 = .ok (.invokevirtual 225, 3) := by decide +kernel
theorem dX11_one_29 : decode cX11_one 29 = .ok (.bipush 40, 2) := by decide +kernel
theorem dX11_one_31 : decode cX11_one 31 = .ok (.if_icmp .ne 7, 3) := by decide +kernel
theorem dX11_one_34 : decode cX11_one 34 = .ok (.iconst 0, 1) := by decide +kernel
theorem dX11_one_35 : decode cX11_one 35 = .ok (.goto 4, 3) := by decide +kernel
theorem dX11_one_38 : decode cX11_one 38 = .ok (.iconst 1, 1) := by decide +kernel
theorem dX11_one_39 : decode cX11_one 39 = .ok (.putfield 267, 3) := by decide +kernel
theorem dX11_one_42 : decode cX11_one 42 = .ok (.return_, 1) := by decide +kernel
theorem dX11_lastOpen_0 : decode cX11_lastOpen 0 = .ok (.iload_n 1, 1) := by decide +kernel
theorem dX11_lastOpen_1 : decode cX11_lastOpen 1 = .ok (.bipush 20, 2) := by decide +kernel
theorem dX11_lastOpen_3 : decode cX11_lastOpen 3 = .ok (.if_icmp .ge 7, 3) := by decide +kernel
theorem dX11_lastOpen_6 : decode cX11_lastOpen 6 = .ok (.iload_n 1, 1) := by decide +kernel
theorem dX11_lastOpen_7 : decode cX11_lastOpen 7 = .ok (.goto 5, 3) := by decide +kernel
theorem dX11_lastOpen_10 : decode cX11_lastOpen 10 = .ok (.bipush 19, 2) := by decide +kernel
theorem dX11_lastOpen_12 : decode cX11_lastOpen 12 = .ok (.istore_n 2, 1) := by decide +kernel
theorem dX11_lastOpen_13 : decode cX11_lastOpen 13 = .ok (.iload_n 2, 1) := by decide +kernel
theorem dX11_lastOpen_14 : decode cX11_lastOpen 14 = .ok (.aload_n 0, 1) := by decide +kernel
theorem dX11_lastOpen_15 : decode cX11_lastOpen 15 = .ok (.iconst 0, 1) := by decide +kernel
theorem dX11_lastOpen_16 : decode cX11_lastOpen 16 = .ok (.invokevirtual 225, 3) := by decide +kernel
theorem dX11_lastOpen_19 : decode cX11_lastOpen 19 = .ok (.if_icmp .lt 17, 3) := by decide +kernel
theorem dX11_lastOpen_22 : decode cX11_lastOpen 22 = .ok (.aload_n 0, 1) := by decide +kernel
theorem dX11_lastOpen_23 : decode cX11_lastOpen 23 = .ok (.iload_n 2, 1) := by decide +kernel
theorem dX11_lastOpen_24 : decode cX11_lastOpen 24 = .ok (.invokevirtual 244, 3) := by decide +kernel
theorem dX11_lastOpen_27 : decode cX11_lastOpen 27 = .ok (.ifCond .eq 9, 3) := by decide +kernel
theorem dX11_lastOpen_30 : decode cX11_lastOpen 30 = .ok (.iinc 2 (-1), 3) := by decide +kernel
theorem dX11_lastOpen_33 : decode cX11_lastOpen 33 = .ok (.goto (-20), 3) := by decide +kernel
theorem dX11_lastOpen_36 : decode cX11_lastOpen 36 = .ok (.iload_n 2, 1) := by decide +kernel
theorem dX11_lastOpen_37 : decode cX11_lastOpen 37 = .ok (.aload_n 0, 1) := by decide +kernel
theorem dX11_lastOpen_38 : decode cX11_lastOpen 38 = .ok (.iconst 0, 1) := by decide +kernel
theorem dX11_lastOpen_39 : decode cX11_lastOpen 39 = .ok (.invokevirtual 225, 3) := by decide +kernel
theorem dX11_lastOpen_42 : decode cX11_lastOpen 42 = .ok (.if_icmp .ge 7, 3) := by decide +kernel
theorem dX11_lastOpen_45 : decode cX11_lastOpen 45 = .ok (.iconst (-1), 1) := by decide +kernel
theorem dX11_lastOpen_46 : decode cX11_lastOpen 46 = .ok (.goto 4, 3) := by decide +kernel
theorem dX11_lastOpen_49 : decode cX11_lastOpen 49 = .ok (.iload_n 2, 1) := by decide +kernel
theorem dX11_lastOpen_50 : decode cX11_lastOpen 50 = .ok (.ireturn, 1) := by decide +kernel
theorem dX11_findSaying_0 : decode cX11_findSaying 0 = .ok (.aload_n 0, 1) := by decide +kernel
theorem dX11_findSaying_1 : decode cX11_findSaying 1 = .ok (.iconst 0, 1) := by decide +kernel
theorem dX11_findSaying_2 : decode cX11_findSaying 2 = .ok (.putfield 267, 3) := by decide +kernel
theorem dX11_findSaying_5 : decode cX11_findSaying 5 = .ok (.aload_n 0, 1) := by decide +kernel
theorem dX11_findSaying_6 : decode cX11_findSaying 6 = .ok (.iconst 0, 1) := by decide +kernel
theorem dX11_findSaying_7 : decode cX11_findSaying 7 = .ok (.invokevirtual 225, 3) := by decide +kernel
theorem dX11_findSaying_10 : decode cX11_findSaying 10 = .ok (.istore_n 2, 1) := by decide +kernel
theorem dX11_findSaying_11 : decode cX11_findSaying 11 = .ok (.iload_n 2, 1) := by decide +kernel
theorem dX11_findSaying_12 : decode cX11_findSaying 12 = .ok (.bipush 20, 2) := by decide +kernel
theorem dX11_findSaying_14 : decode cX11_findSaying 14 = .ok (.if_icmp .ne 4, 3) := by decide +kernel
theorem dX11_findSaying_17 : decode cX11_findSaying 17 = .ok (.return_, 1) := by decide +kernel
theorem dX11_findSaying_18 : decode cX11_findSaying 18 = .ok (.aload_n 0, 1) := by decide +kernel
theorem dX11_findSaying_19 : decode cX11_findSaying 19 = .ok (.iload_n 1, 1) := by decide +kernel
theorem dX11_findSaying_20 : decode cX11_findSaying 20 = .ok (.invokevirtual 250, 3) := by decide +kernel
theorem dX11_findSaying_23 : decode cX11_findSaying 23 = .ok (.istore_n 3, 1) := by decide +kernel
theorem dX11_findSaying_24 : decode cX11_findSaying 24 = .ok (.aload_n 0, 1) := by decide +kernel
theorem dX11_findSaying_25 : decode cX11_findSaying 25 = .ok (.iload_n 2, 1) := by decide +kernel
theorem dX11_findSaying_26 : decode cX11_findSaying 26 = .ok (.invokevirtual 241, 3) := by decide +kernel
theorem dX11_findSaying_29 : decode cX11_findSaying 29 = .ok (.istore 4, 2) := by decide +kernel
theorem dX11_findSaying_31 : decode cX11_findSaying 31 = .ok (.iload_n 3, 1) := by decide +kernel
theorem dX11_findSaying_32 : decode cX11_findSaying 32 = .ok (.iconst 1, 1) := by decide +kernel
theorem dX11_findSaying_33 : decode cX11_findSaying 33 = .ok (.if_icmp .eq 8, 3) := by decide +kernel
theorem dX11_findSaying_36 : decode cX11_findSaying 36 = .ok (.iload_n 3, 1) := by decide +kernel
theorem dX11_findSaying_37 : decode cX11_findSaying 37 = .ok (.iconst 4, 1) := by decide +kernel
theorem dX11_findSaying_38 : decode cX11_findSaying 38 = .ok (.if_icmp .ne 83, 3) := by decide +kernel
theorem dX11_findSaying_41 : decode cX11_findSaying 41 = .ok (.aload_n 0, 1) := by decide +kernel
theorem dX11_findSaying_42 : decode cX11_findSaying 42 = .ok (.iload_n 2, 1) := by decide +kernel
theorem dX11_findSaying_43 : decode cX11_findSaying 43 = .ok (.aload_n 0, 1) := by decide +kernel
theorem dX11_findSaying_44 : decode cX11_findSaying 44 = .ok (.iload_n 1, 1) := by decide +kernel
theorem dX11_findSaying_45 : decode cX11_findSaying 45 = .ok (.invokevirtual 253, 3) := by decide +kernel
theorem dX11_findSaying_48 : decode cX11_findSaying 48 = .ok (.iadd, 1) := by decide +kernel
theorem dX11_findSaying_49 : decode cX11_findSaying 49 = .ok (.invokevirtual 270, 3) := by decide +kernel
theorem dX11_findSaying_52 : decode cX11_findSaying 52 = .ok (.istore 5, 2) := by decide +kernel
theorem dX11_findSaying_54 : decode cX11_findSaying 54 = .ok (.iload 5, 2) := by decide +kernel
theorem dX11_findSaying_56 : decode cX11_findSaying 56 = .ok (.ifCond .lt 62, 3) := by decide +kernel
theorem dX11_findSaying_59 : decode cX11_findSaying 59 = .ok (.aload_n 0, 1) := by decide +kernel
theorem dX11_findSaying_60 : decode cX11_findSaying 60 = .ok (.iload 5, 2) := by decide +kernel
theorem dX11_findSaying_62 : decode cX11_findSaying 62 = .ok (.iload_n 3, 1) := by decide +kernel
theorem dX11_findSaying_63 : decode cX11_findSaying 63 = .ok (.iconst 1, 1) := by decide +kernel
theorem dX11_findSaying_64 : decode cX11_findSaying 64 = .ok (.if_icmp .ne 12, 3) := by decide +kernel
theorem dX11_findSaying_67 : decode cX11_findSaying 67 = .ok (.aload_n 0, 1) := by decide +kernel
theorem dX11_findSaying_68 : decode cX11_findSaying 68 = .ok (.iload 5, 2) := by decide +kernel
theorem dX11_findSaying_70 : decode cX11_findSaying 70 = .ok (.invokevirtual 241, 3) := by decide +kernel
theorem dX11_findSaying_73 : decode cX11_findSaying 73 = .ok (.goto 4, 3) := by decide +kernel
theorem dX11_findSaying_76 : decode cX11_findSaying 76 = .ok (.iconst 0, 1) := by decide +kernel
theorem dX11_findSaying_77 : decode cX11_findSaying 77 = .ok (.invokevirtual 273, 3) := by decide +kernel
theorem dX11_findSaying_80 : decode cX11_findSaying 80 = .ok (.bipush 40, 2) := by decide +kernel
theorem dX11_findSaying_82 : decode cX11_findSaying 82 = .ok (.aload_n 0, 1) := by decide +kernel
theorem dX11_findSaying_83 : decode cX11_findSaying 83 = .ok (.iconst 2, 1) := by decide +kernel
theorem dX11_findSaying_84 : decode cX11_findSaying 84 = .ok (.invokevirtual 225, 3) := by decide +kernel
theorem dX11_findSaying_87 : decode cX11_findSaying 87 = .ok (.isub, 1) := by decide +kernel
theorem dX11_findSaying_88 : decode cX11_findSaying 88 = .ok (.istore 6, 2) := by decide +kernel
theorem dX11_findSaying_90 : decode cX11_findSaying 90 = .ok (.aload_n 0, 1) := by decide +kernel
theorem dX11_findSaying_91 : decode cX11_findSaying 91 = .ok (.iload_n 3, 1) := by decide +kernel
theorem dX11_findSaying_92 : decode cX11_findSaying 92 = .ok (.iconst 4, 1) := by decide +kernel
theorem dX11_findSaying_93 : decode cX11_findSaying 93 = .ok (.if_icmp .ne 18, 3) := by decide +kernel
theorem dX11_findSaying_96 : decode cX11_findSaying 96 = .ok (.iload 6, 2) := by decide +kernel
theorem dX11_findSaying_98 : decode cX11_findSaying 98 = .ok (.iconst 4, 1) := by decide +kernel
theorem dX11_findSaying_99 : decode cX11_findSaying 99 = .ok (.if_icmp .ge 8, 3) := by decide +kernel
theorem dX11_findSaying_102 : decode cX11_findSaying 102 = .ok (.iload 6, 2) := by decide +kernel
theorem dX11_findSaying_104 : decode cX11_findSaying 104 = .ok (.goto 11, 3) := by decide +kernel
theorem dX11_findSaying_107 : decode cX11_findSaying 107 = .ok (.iconst 4, 1) := by decide +kernel
theorem dX11_findSaying_108 : decode cX11_findSaying 108 = .ok (.goto 7, 3) := by decide +kernel
theorem dX11_findSaying_111 : decode cX11_findSaying 111 = .ok (.aload_n 0, 1) := by decide +kernel
theorem dX11_findSaying_112 : decode cX11_findSaying 112 = .ok (.getfield 267, 3) := by decide +kernel
theorem dX11_findSaying_115 : decode cX11_findSaying 115 = .ok (.putfield 267, 3) := by decide +kernel
theorem dX11_findSaying_118 : decode cX11_findSaying 118 = .ok (.goto 64, 3) := by decide +kernel
theorem dX11_findSaying_121 : decode cX11_findSaying 121 = .ok (.iload_n 3, 1) := by decide +kernel
theorem dX11_findSaying_122 : decode cX11_findSaying 122 = .ok (.iconst 2, 1) := by decide +kernel
theorem dX11_findSaying_123 : decode cX11_findSaying 123 = .ok (.if_icmp .eq 32, 3) := by decide +kernel
theorem dX11_findSaying_126 : decode cX11_findSaying 126 = .ok (.iload_n 3, 1) := by decide +kernel
theorem dX11_findSaying_127 : decode cX11_findSaying 127 = .ok (.iconst 3, 1) := by decide +kernel
theorem dX11_findSaying_128 : decode cX11_findSaying 128 = .ok (.if_icmp .ne 37, 3) := by decide +kernel
theorem dX11_findSaying_131 : decode cX11_findSaying 131 = .ok (.bipush 10, 2) := by decide +kernel
theorem dX11_findSaying_133 : decode cX11_findSaying 133 = .ok (.aload_n 0, 1) := by decide +kernel
theorem dX11_findSaying_134 : decode cX11_findSaying 134 = .ok (.iload_n 2, 1) := by decide +kernel
theorem dX11_findSaying_135 : decode cX11_findSaying 135 = .ok (.iload 4, 2) := by decide +kernel
theorem dX11_findSaying_137 : decode cX11_findSaying 137 = .ok (.invokevirtual 228, 3) := by decide +kernel
theorem dX11_findSaying_140 : decode cX11_findSaying 140 = .ok (.imul, 1) := by decide +kernel
theorem dX11_findSaying_141 : decode cX11_findSaying 141 = .ok (.aload_n 0, 1) := by decide +kernel
theorem dX11_findSaying_142 : decode cX11_findSaying 142 = .ok (.iload_n 1, 1) := by decide +kernel
theorem dX11_findSaying_143 : decode cX11_findSaying 143 = .ok (.invokevirtual 253, 3) := by decide +kernel
theorem dX11_findSaying_146 : decode cX11_findSaying 146 = .ok (.aload_n 0, 1) := by decide +kernel
theorem dX11_findSaying_147 : decode cX11_findSaying 147 = .ok (.iload_n 2, 1) := by decide +kernel
theorem dX11_findSaying_148 : decode cX11_findSaying 148 = .ok (.invokevirtual 277, 3) := by decide +kernel
theorem dX11_findSaying_151 : decode cX11_findSaying 151 = .ok (.imul, 1) := by decide +kernel
theorem dX11_findSaying_152 : decode cX11_findSaying 152 = .ok (.if_icmp .lt 13, 3) := by decide +kernel
theorem dX11_findSaying_155 : decode cX11_findSaying 155 = .ok (.aload_n 0, 1) := by decide +kernel
theorem dX11_findSaying_156 : decode cX11_findSaying 156 = .ok (.iload_n 2, 1) := by decide +kernel
theorem dX11_findSaying_157 : decode cX11_findSaying 157 = .ok (.iload 4, 2) := by decide +kernel
theorem dX11_findSaying_159 : decode cX11_findSaying 159 = .ok (.invokevirtual 273, 3) := by decide +kernel
theorem dX11_findSaying_162 : decode cX11_findSaying 162 = .ok (.goto 20, 3) := by decide +kernel
theorem dX11_findSaying_165 : decode cX11_findSaying 165 = .ok (.iload_n 3, 1) := by decide +kernel
theorem dX11_findSaying_166 : decode cX11_findSaying 166 = .ok (.iconst 5, 1) := by decide +kernel
theorem dX11_findSaying_167 : decode cX11_findSaying 167 = .ok (.if_icmp .ne 15, 3) := by decide +kernel
theorem dX11_findSaying_170 : decode cX11_findSaying 170 = .ok (.aload_n 0, 1) := by decide +kernel
theorem dX11_findSaying_171 : decode cX11_findSaying 171 = .ok (.iload_n 2, 1) := by decide +kernel
theorem dX11_findSaying_172 : decode cX11_findSaying 172 = .ok (.aload_n 0, 1) := by decide +kernel
theorem dX11_findSaying_173 : decode cX11_findSaying 173 = .ok (.iload_n 1, 1) := by decide +kernel
theorem dX11_findSaying_174 : decode cX11_findSaying 174 = .ok (.invokevirtual 253, 3) := by decide +kernel
theorem dX11_findSaying_177 : decode cX11_findSaying 177 = .ok (.iconst 4, 1) := by decide +kernel
theorem dX11_findSaying_178 : decode cX11_findSaying 178 = .ok (.irem, 1) := by decide +kernel
theorem dX11_findSaying_179 : decode cX11_findSaying 179 = .ok (.invokevirtual 273, 3) := by decide +kernel
theorem dX11_findSaying_182 : decode cX11_findSaying 182 = .ok (.return_, 1) := by decide +kernel
theorem dX11_would_0 : decode cX11_would 0 = .ok (.aload_n 0, 1) := by decide +kernel
theorem dX11_would_1 : decode cX11_would 1 = .ok (.iload_n 1, 1) := by decide +kernel
theorem dX11_would_2 : decode cX11_would 2 = .ok (.invokevirtual 247, 3) := by decide +kernel
theorem dX11_would_5 : decode cX11_would 5 = .ok (.ifCond .eq 12, 3) := by decide +kernel
theorem dX11_would_8 : decode cX11_would 8 = .ok (.iload_n 2, 1) := by decide +kernel
theorem dX11_would_9 : decode cX11_would 9 = .ok (.iconst 0, 1) := by decide +kernel
theorem dX11_would_10 : decode cX11_would 10 = .ok (.iconst 2, 1) := by decide +kernel
theorem dX11_would_11 : decode cX11_would 11 = .ok (.invokestatic 83, 3) := by decide +kernel
theorem dX11_would_14 : decode cX11_would 14 = .ok (.ifCond .ne 5, 3) := by decide +kernel
theorem dX11_would_17 : decode cX11_would 17 = .ok (.iconst (-1), 1) := by decide +kernel
theorem dX11_would_18 : decode cX11_would 18 = .ok (.ireturn, 1) := by decide +kernel
theorem dX11_would_19 : decode cX11_would 19 = .ok (.aload_n 0, 1) := by decide +kernel
theorem dX11_would_20 : decode cX11_would 20 = .ok (.iload_n 1, 1) := by decide +kernel
theorem dX11_would_21 : decode cX11_would 21 = .ok (.invokevirtual 280, 3) := by decide +kernel
theorem dX11_would_24 : decode cX11_would 24 = .ok (.iload_n 2, 1) := by decide +kernel
theorem dX11_would_25 : decode cX11_would 25 = .ok (.iconst 2, 1) := by decide +kernel
theorem dX11_would_26 : decode cX11_would 26 = .ok (.if_icmp .ne 10, 3) := by decide +kernel
theorem dX11_would_29 : decode cX11_would 29 = .ok (.aload_n 0, 1) := by decide +kernel
theorem dX11_would_30 : decode cX11_would 30 = .ok (.getfield 267, 3) := by decide +kernel
theorem dX11_would_33 : decode cX11_would 33 = .ok (.goto 30, 3) := by decide +kernel
theorem dX11_would_36 : decode cX11_would 36 = .ok (.aload_n 0, 1) := by decide +kernel
theorem dX11_would_37 : decode cX11_would 37 = .ok (.getfield 267, 3) := by decide +kernel
theorem dX11_would_40 : decode cX11_would 40 = .ok (.ifCond .ne 8, 3) := by decide +kernel
theorem dX11_would_43 : decode cX11_would 43 = .ok (.bipush (-3), 2) := by decide +kernel
theorem dX11_would_45 : decode cX11_would 45 = .ok (.goto 18, 3) := by decide +kernel
theorem dX11_would_48 : decode cX11_would 48 = .ok (.iload_n 2, 1) := by decide +kernel
theorem dX11_would_49 : decode cX11_would 49 = .ok (.ifCond .ne 10, 3) := by decide +kernel
theorem dX11_would_52 : decode cX11_would 52 = .ok (.aload_n 0, 1) := by decide +kernel
theorem dX11_would_53 : decode cX11_would 53 = .ok (.getfield 261, 3) := by decide +kernel
theorem dX11_would_56 : decode cX11_would 56 = .ok (.goto 7, 3) := by decide +kernel
theorem dX11_would_59 : decode cX11_would 59 = .ok (.aload_n 0, 1) := by decide +kernel
theorem dX11_would_60 : decode cX11_would 60 = .ok (.getfield 264, 3) := by decide +kernel
theorem dX11_would_63 : decode cX11_would 63 = .ok (.ireturn, 1) := by decide +kernel
theorem dX11_drawn_0 : decode cX11_drawn 0 = .ok (.aload_n 0, 1) := by decide +kernel
theorem dX11_drawn_1 : decode cX11_drawn 1 = .ok (.getfield 7, 3) := by decide +kernel
theorem dX11_drawn_4 : decode cX11_drawn 4 = .ok (.aload_n 0, 1) := by decide +kernel
theorem dX11_drawn_5 : decode cX11_drawn 5 = .ok (.getfield 91, 3) := by decide +kernel
theorem dX11_drawn_8 : decode cX11_drawn 8 = .ok (.iconst 1, 1) := by decide +kernel
theorem dX11_drawn_9 : decode cX11_drawn 9 = .ok (.iadd, 1) := by decide +kernel
theorem dX11_drawn_10 : decode cX11_drawn 10 = .ok (.aload_n 0, 1) := by decide +kernel
theorem dX11_drawn_11 : decode cX11_drawn 11 = .ok (.iconst 1, 1) := by decide +kernel
theorem dX11_drawn_12 : decode cX11_drawn 12 = .ok (.invokevirtual 225, 3) := by decide +kernel
theorem dX11_drawn_15 : decode cX11_drawn 15 = .ok (.ldc_w 283, 3) := by decide +kernel
theorem dX11_drawn_18 : decode cX11_drawn 18 = .ok (.imul, 1) := by decide +kernel
theorem dX11_drawn_19 : decode cX11_drawn 19 = .ok (.sipush 12345, 3) := by decide +kernel
theorem dX11_drawn_22 : decode cX11_drawn 22 = .ok (.iadd, 1) := by decide +kernel
theorem dX11_drawn_23 : decode cX11_drawn 23 = .ok (.iastore, 1) := by decide +kernel
theorem dX11_drawn_24 : decode cX11_drawn 24 = .ok (.aload_n 0, 1) := by decide +kernel
theorem dX11_drawn_25 : decode cX11_drawn 25 = .ok (.iconst 1, 1) := by decide +kernel
