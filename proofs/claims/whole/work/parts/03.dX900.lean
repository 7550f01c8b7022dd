theorem dX9_thrown_0 : decode cX9_thrown 0 = .ok (.aload_n 0, 1) := by decide +kernel
theorem dX9_thrown_1 : decode cX9_thrown 1 = .ok (.getfield 1, 3) := by decide +kernel
theorem dX9_thrown_4 : decode cX9_thrown 4 = .ok (.ireturn, 1) := by decide +kernel
theorem dX9_in_0 : decode cX9_in 0 = .ok (.iload_n 1, 1) := by decide +kernel
theorem dX9_in_1 : decode cX9_in 1 = .ok (.iload_n 2, 1) := by decide +kernel
theorem dX9_in_2 : decode cX9_in 2 = .ok (.if_icmp .lt 12, 3) := by decide +kernel
theorem dX9_in_5 : decode cX9_in 5 = .ok (.iload_n 1, 1) := by decide +kernel
theorem dX9_in_6 : decode cX9_in 6 = .ok (.iload_n 3, 1) := by decide +kernel
theorem dX9_in_7 : decode cX9_in 7 = .ok (.if_icmp .gt 7, 3) := by decide +kernel
theorem dX9_in_10 : decode cX9_in 10 = .ok (.iconst 1, 1) := by decide +kernel
theorem dX9_in_11 : decode cX9_in 11 = .ok (.goto 4, 3) := by decide +kernel
theorem dX9_in_14 : decode cX9_in 14 = .ok (.iconst 0, 1) := by decide +kernel
theorem dX9_in_15 : decode cX9_in 15 = .ok (.ireturn, 1) := by decide +kernel
theorem dX9_init_0 : decode cX9_init 0 = .ok (.aload_n 0, 1) := by decide +kernel
theorem dX9_init_1 : decode cX9_init 1 = .ok (.invokespecial 7, 3) := by decide +kernel
theorem dX9_init_4 : decode cX9_init 4 = .ok (.aload_n 0, 1) := by decide +kernel
theorem dX9_init_5 : decode cX9_init 5 = .ok (.iconst 0, 1) := by decide +kernel
theorem dX9_init_6 : decode cX9_init 6 = .ok (.putfield 1, 3) := by decide +kernel
theorem dX9_init_9 : decode cX9_init 9 = .ok (.aload_n 0, 1) := by decide +kernel
theorem dX9_init_10 : decode cX9_init 10 = .ok (.iconst 0, 1) := by decide +kernel
theorem dX9_init_11 : decode cX9_init 11 = .ok (.putfield 13, 3) := by decide +kernel
theorem dX9_init_14 : decode cX9_init 14 = .ok (.aload_n 0, 1) := by decide +kernel
theorem dX9_init_15 : decode cX9_init 15 = .ok (.bipush 12, 2) := by decide +kernel
theorem dX9_init_17 : decode cX9_init 17 = .ok (.newarray .int, 2) := by decide +kernel
theorem dX9_init_19 : decode cX9_init 19 = .ok (.putfield 16, 3) := by decide +kernel
theorem dX9_init_22 : decode cX9_init 22 = .ok (.aload_n 0, 1) := by decide +kernel
theorem dX9_init_23 : decode cX9_init 23 = .ok (.sipush 144, 3) := by decide +kernel
theorem dX9_init_26 : decode cX9_init 26 = .ok (.newarray .int, 2) := by decide +kernel
theorem dX9_init_28 : decode cX9_init 28 = .ok (.putfield 20, 3) := by decide +kernel
theorem dX9_init_31 : decode cX9_init 31 = .ok (.aload_n 0, 1) := by decide +kernel
theorem dX9_init_32 : decode cX9_init 32 = .ok (.sipush 144, 3) := by decide +kernel
theorem dX9_init_35 : decode cX9_init 35 = .ok (.newarray .int, 2) := by decide +kernel
theorem dX9_init_37 : decode cX9_init 37 = .ok (.putfield 23, 3) := by decide +kernel
theorem dX9_init_40 : decode cX9_init 40 = .ok (.aload_n 0, 1) := by decide +kernel
theorem dX9_init_41 : decode cX9_init 41 = .ok (.sipush 144, 3) := by decide +kernel
theorem dX9_init_44 : decode cX9_init 44 = .ok (.newarray .int, 2) := by decide +kernel
theorem dX9_init_46 : decode cX9_init 46 = .ok (.putfield 26, 3) := by decide +kernel
theorem dX9_init_49 : decode cX9_init 49 = .ok (.aload_n 0, 1) := by decide +kernel
theorem dX9_init_50 : decode cX9_init 50 = .ok (.sipush 1000, 3) := by decide +kernel
theorem dX9_init_53 : decode cX9_init 53 = .ok (.newarray .int, 2) := by decide +kernel
theorem dX9_init_55 : decode cX9_init 55 = .ok (.putfield 29, 3) := by decide +kernel
theorem dX9_init_58 : decode cX9_init 58 = .ok (.aload_n 0, 1) := by decide +kernel
theorem dX9_init_59 : decode cX9_init 59 = .ok (.bipush 12, 2) := by decide +kernel
theorem dX9_init_61 : decode cX9_init 61 = .ok (.newarray .int, 2) := by decide +kernel
theorem dX9_init_63 : decode cX9_init 63 = .ok (.putfield 32, 3) := by decide +kernel
theorem dX9_init_66 : decode cX9_init 66 = .ok (.aload_n 0, 1) := by decide +kernel
theorem dX9_init_67 : decode cX9_init 67 = .ok (.bipush 13, 2) := by decide +kernel
theorem dX9_init_69 : decode cX9_init 69 = .ok (.newarray .int, 2) := by decide +kernel
theorem dX9_init_71 : decode cX9_init 71 = .ok (.putfield 35, 3) := by decide +kernel
theorem dX9_init_74 : decode cX9_init 74 = .ok (.aload_n 0, 1) := by decide +kernel
theorem dX9_init_75 : decode cX9_init 75 = .ok (.bipush 13, 2) := by decide +kernel
theorem dX9_init_77 : decode cX9_init 77 = .ok (.newarray .int, 2) := by decide +kernel
theorem dX9_init_79 : decode cX9_init 79 = .ok (.putfield 38, 3) := by decide +kernel
theorem dX9_init_82 : decode cX9_init 82 = .ok (.aload_n 0, 1) := by decide +kernel
theorem dX9_init_83 : decode cX9_init 83 = .ok (.bipush 13, 2) := by decide +kernel
theorem dX9_init_85 : decode cX9_init 85 = .ok (.newarray .int, 2) := by decide +kernel
theorem dX9_init_87 : decode cX9_init 87 = .ok (.putfield 41, 3) := by decide +kernel
theorem dX9_init_90 : decode cX9_init 90 = .ok (.aload_n 0, 1) := by decide +kernel
theorem dX9_init_91 : decode cX9_init 91 = .ok (.bipush 13, 2) := by decide +kernel
theorem dX9_init_93 : decode cX9_init 93 = .ok (.newarray .int, 2) := by decide +kernel
theorem dX9_init_95 : decode cX9_init 95 = .ok (.putfield 44, 3) := by decide +kernel
theorem dX9_init_98 : decode cX9_init 98 = .ok (.aload_n 0, 1) := by decide +kernel
theorem dX9_init_99 : decode cX9_init 99 = .ok (.iconst 0, 1) := by decide +kernel
theorem dX9_init_100 : decode cX9_init 100 = .ok (.putfield 47, 3) := by decide +kernel
theorem dX9_init_103 : decode cX9_init 103 = .ok (.aload_n 0, 1) := by decide +kernel
theorem dX9_init_104 : decode cX9_init 104 = .ok (.iconst 0, 1) := by decide +kernel
theorem dX9_init_105 : decode cX9_init 105 = .ok (.putfield 50, 3) := by decide +kernel
theorem dX9_init_108 : decode cX9_init 108 = .ok (.aload_n 0, 1) := by decide +kernel
theorem dX9_init_109 : decode cX9_init 109 = .ok (.iconst 0, 1) := by decide +kernel
theorem dX9_init_110 : decode cX9_init 110 = .ok (.putfield 53, 3) := by decide +kernel
theorem dX9_init_113 : decode cX9_init 113 = .ok (.aload_n 0, 1) := by decide +kernel
theorem dX9_init_114 : decode cX9_init 114 = .ok (.bipush 6, 2) := by decide +kernel
theorem dX9_init_116 : decode cX9_init 116 = .ok (.newarray .int, 2) := by decide +kernel
theorem dX9_init_118 : decode cX9_init 118 = .ok (.dup, 1) := by decide +kernel
theorem dX9_init_119 : decode cX9_init 119 = .ok (.iconst 0, 1) := by decide +kernel
theorem dX9_init_120 : decode cX9_init 120 = .ok (.bipush 8, 2) := by decide +kernel
theorem dX9_init_122 : decode cX9_init 122 = .ok (.iastore, 1) := by decide +kernel
theorem dX9_init_123 : decode cX9_init 123 = .ok (.dup, 1) := by decide +kernel
theorem dX9_init_124 : decode cX9_init 124 = .ok (.iconst 1, 1) := by decide +kernel
theorem dX9_init_125 : decode cX9_init 125 = .ok (.bipush 8, 2) := by decide +kernel
theorem dX9_init_127 : decode cX9_init 127 = .ok (.iastore, 1) := by decide +kernel
theorem dX9_init_128 : decode cX9_init 128 = .ok (.dup, 1) := by decide +kernel
theorem dX9_init_129 : decode cX9_init 129 = .ok (.iconst 2, 1) := by decide +kernel
theorem dX9_init_130 : decode cX9_init 130 = .ok (.bipush 8, 2) := by decide +kernel
theorem dX9_init_132 : decode cX9_init 132 = .ok (.iastore, 1) := by decide +kernel
theorem dX9_init_133 : decode cX9_init 133 = .ok (.dup, 1) := by decide +kernel
theorem dX9_init_134 : decode cX9_init 134 = .ok (.iconst 3, 1) := by decide +kernel
theorem dX9_init_135 : decode cX9_init 135 = .ok (.bipush 8, 2) := by decide +kernel
theorem dX9_init_137 : decode cX9_init 137 = .ok (.iastore, 1) := by decide +kernel
theorem dX9_init_138 : decode cX9_init 138 = .ok (.dup, 1) := by decide +kernel
theorem dX9_init_139 : decode cX9_init 139 = .ok (.iconst 4, 1) := by decide +kernel
theorem dX9_init_140 : decode cX9_init 140 = .ok (.bipush 8, 2) := by decide +kernel
theorem dX9_init_142 : decode cX9_init 142 = .ok (.iastore, 1) := by decide +kernel
theorem dX9_init_143 : decode cX9_init 143 = .ok (.dup, 1) := by decide +kernel
theorem dX9_init_144 : decode cX9_init 144 = .ok (.iconst 5, 1) := by decide +kernel
theorem dX9_init_145 : decode cX9_init 145 = .ok (.bipush 8, 2) := by decide +kernel
theorem dX9_init_147 : decode cX9_init 147 = .ok (.iastore, 1) := by decide +kernel
theorem dX9_init_148 : decode cX9_init 148 = .ok (.putfield 56, 3) := by decide +kernel
theorem dX9_init_151 : decode cX9_init 151 = .ok (.aload_n 0, 1) := by decide +kernel
theorem dX9_init_152 : decode cX9_init 152 = .ok (.bipush 6, 2) := by decide +kernel
theorem dX9_init_154 : decode cX9_init 154 = .ok (.newarray .int, 2) := by decide +kernel
theorem dX9_init_156 : decode cX9_init 156 = .ok (.dup, 1) := by decide +kernel
theorem dX9_init_157 : decode cX9_init 157 = .ok (.iconst 0, 1) := by decide +kernel
theorem dX9_init_158 : decode cX9_init 158 = .ok (.iconst 5, 1) := by decide +kernel
theorem dX9_init_159 : decode cX9_init 159 = .ok (.iastore, 1) := by decide +kernel
theorem dX9_init_160 : decode cX9_init 160 = .ok (.dup, 1) := by decide +kernel
theorem dX9_init_161 : decode cX9_init 161 = .ok (.iconst 1, 1) := by decide +kernel
theorem dX9_init_162 : decode cX9_init 162 = .ok (.iconst 5, 1) := by decide +kernel
theorem dX9_init_163 : decode cX9_init 163 = .ok (.iastore, 1) := by decide +kernel
theorem dX9_init_164 : decode cX9_init 164 = .ok (.dup, 1) := by decide +kernel
theorem dX9_init_165 : decode cX9_init 165 = .ok (.iconst 2, 1) := by decide +kernel
theorem dX9_init_166 : decode cX9_init 166 = .ok (.iconst 5, 1) := by decide +kernel
theorem dX9_init_167 : decode cX9_init 167 = .ok (.iastore, 1) := by decide +kernel
theorem dX9_init_168 : decode cX9_init 168 = .ok (.dup, 1) := by decide +kernel
theorem dX9_init_169 : decode cX9_init 169 = .ok (.iconst 3, 1) := by decide +kernel
theorem dX9_init_170 : decode cX9_init 170 = .ok (.iconst 5, 1) := by decide +kernel
theorem dX9_init_171 : decode cX9_init 171 = .ok (.iastore, 1) := by decide +kernel
theorem dX9_init_172 : decode cX9_init 172 = .ok (.dup, 1) := by decide +kernel
theorem dX9_init_173 : decode cX9_init 173 = .ok (.iconst 4, 1) := by decide +kernel
theorem dX9_init_174 : decode cX9_init 174 = .ok (.iconst 5, 1) := by decide +kernel
theorem dX9_init_175 : decode cX9_init 175 = .ok (.iastore, 1) := by decide +kernel
theorem dX9_init_176 : decode cX9_init 176 = .ok (.dup, 1) := by decide +kernel
theorem dX9_init_177 : decode cX9_init 177 = .ok (.iconst 5, 1) := by decide +kernel
theorem dX9_init_178 : decode cX9_init 178 = .ok (.iconst 5, 1) := by decide +kernel
theorem dX9_init_179 : decode cX9_init 179 = .ok (.iastore, 1) := by decide +kernel
theorem dX9_init_180 : decode cX9_init 180 = .ok (.putfield 59, 3) := by decide +kernel
theorem dX9_init_183 : decode cX9_init 183 = .ok (.aload_n 0, 1) := by decide +kernel
theorem dX9_init_184 : decode cX9_init 184 = .ok (.bipush 8, 2) := by decide +kernel
theorem dX9_init_186 : decode cX9_init 186 = .ok (.newarray .int, 2) := by decide +kernel
theorem dX9_init_188 : decode cX9_init 188 = .ok (.putfield 62, 3) := by decide +kernel
theorem dX9_init_191 : decode cX9_init 191 = .ok (.aload_n 0, 1) := by decide +kernel
theorem dX9_init_192 : decode cX9_init 192 = .ok (.bipush 80, 2) := by decide +kernel
theorem dX9_init_194 : decode cX9_init 194 = .ok (.newarray .int, 2) := by decide +kernel
theorem dX9_init_196 : decode cX9_init 196 = .ok (.putfield 65, 3) := by decide +kernel
theorem dX9_init_199 : decode cX9_init 199 = .ok (.aload_n 0, 1) := by decide +kernel
theorem dX9_init_200 : decode cX9_init 200 = .ok (.bipush 80, 2) := by decide +kernel
theorem dX9_init_202 : decode cX9_init 202 = .ok (.newarray .int, 2) := by decide +kernel
theorem dX9_init_204 : decode cX9_init 204 = .ok (.putfield 68, 3) := by decide +kernel
theorem dX9_init_207 : decode cX9_init 207 = .ok (.aload_n 0, 1) := by decide +kernel
theorem dX9_init_208 : decode cX9_init 208 = .ok (.iconst 0, 1) := by decide +kernel
theorem dX9_init_209 : decode cX9_init 209 = .ok (.putfield 71, 3) := by decide +kernel
theorem dX9_init_212 : decode cX9_init 212 = .ok (.aload_n 0, 1) := by decide +kernel
theorem dX9_init_213 : decode cX9_init 213 = .ok (.sipush 1600, 3) := by decide +kernel
theorem dX9_init_216 : decode cX9_init 216 = .ok (.newarray .int, 2) := by decide +kernel
theorem dX9_init_218 : decode cX9_init 218 = .ok (.putfield 74, 3) := by decide +kernel
theorem dX9_init_221 : decode cX9_init 221 = .ok (.aload_n 0, 1) := by decide +kernel
theorem dX9_init_222 : decode cX9_init 222 = .ok (.sipush 1600, 3) := by decide +kernel
theorem dX9_init_225 : decode cX9_init 225 = .ok (.newarray .int, 2) := by decide +kernel
theorem dX9_init_227 : decode cX9_init 227 = .ok (.putfield 77, 3) := by decide +kernel
theorem dX9_init_230 : decode cX9_init 230 = .ok (.aload_n 0, 1) := by decide +kernel
theorem dX9_init_231 : decode cX9_init 231 = .ok (.sipush 1600, 3) := by decide +kernel
theorem dX9_init_234 : decode cX9_init 234 = .ok (.newarray .int, 2) := by decide +kernel
theorem dX9_init_236 : decode cX9_init 236 = .ok (.putfield 80, 3) := by decide +kernel
theorem dX9_init_239 : decode cX9_init 239 = .ok (.aload_n 0, 1) := by decide +kernel
theorem dX9_init_240 : decode cX9_init 240 = .ok (.sipush 1600, 3) := by decide +kernel
theorem dX9_init_243 : decode cX9_init 243 = .ok (.newarray .int, 2) := by decide +kernel
theorem dX9_init_245 : decode cX9_init 245 = .ok (.putfield 83, 3) := by decide +kernel
theorem dX9_init_248 : decode cX9_init 248 = .ok (.aload_n 0, 1) := by decide +kernel
theorem dX9_init_249 : decode cX9_init 249 = .ok (.bipush 40, 2) := by decide +kernel
theorem dX9_init_251 : decode cX9_init 251 = .ok (.newarray .int, 2) := by decide +kernel
theorem dX9_init_253 : decode cX9_init 253 = .ok (.putfield 86, 3) := by decide +kernel
theorem dX9_init_256 : decode cX9_init 256 = .ok (.aload_n 0, 1) := by decide +kernel
theorem dX9_init_257 : decode cX9_init 257 = .ok (.iconst 0, 1) := by decide +kernel
theorem dX9_init_258 : decode cX9_init 258 = .ok (.putfield 89, 3) := by decide +kernel
theorem dX9_init_261 : decode cX9_init 261 = .ok (.aload_n 0, 1) := by decide +kernel
theorem dX9_init_262 : decode cX9_init 262 = .ok (.iconst 0, 1) := by decide +kernel
theorem dX9_init_263 : decode cX9_init 263 = .ok (.putfield 92, 3) := by decide +kernel
theorem dX9_init_266 : decode cX9_init 266 = .ok (.aload_n 0, 1) := by decide +kernel
theorem dX9_init_267 : decode cX9_init 267 = .ok (.iconst 0, 1) := by decide +kernel
theorem dX9_init_268 : decode cX9_init 268 = .ok (.putfield 95, 3) := by decide +kernel
theorem dX9_init_271 : decode cX9_init 271 = .ok (.aload_n 0, 1) := by decide +kernel
theorem dX9_init_272 : decode cX9_init 272 = .ok (.bipush 8, 2) := by decide +kernel
theorem dX9_init_274 : decode cX9_init 274 = .ok (.newarray .int, 2) := by decide +kernel
theorem dX9_init_276 : decode cX9_init 276 = .ok (.putfield 98, 3) := by decide +kernel
theorem dX9_init_279 : decode cX9_init 279 = .ok (.aload_n 0, 1) := by decide +kernel
theorem dX9_init_280 : decode cX9_init 280 = .ok (.bipush 8, 2) := by decide +kernel
theorem dX9_init_282 : decode cX9_init 282 = .ok (.newarray .int, 2) := by decide +kernel
theorem dX9_init_284 : decode cX9_init 284 = .ok (.putfield 101, 3) := by decide +kernel
theorem dX9_init_287 : decode cX9_init 287 = .ok (.aload_n 0, 1) := by decide +kernel
theorem dX9_init_288 : decode cX9_init 288 = .ok (.bipush 7, 2) := by decide +kernel
theorem dX9_init_290 : decode cX9_init 290 = .ok (.newarray .int, 2) := by decide +kernel
theorem dX9_init_292 : decode cX9_init 292 = .ok (.putfield 104, 3) := by decide +kernel
theorem dX9_init_295 : decode cX9_init 295 = .ok (.aload_n 0, 1) := by decide +kernel
theorem dX9_init_296 : decode cX9_init 296 = .ok (.bipush 15, 2) := by decide +kernel
theorem dX9_init_298 : decode cX9_init 298 = .ok (.newarray .int, 2) := by decide +kernel
theorem dX9_init_300 : decode cX9_init 300 = .ok (.putfield 107, 3) := by decide +kernel
theorem dX9_init_303 : decode cX9_init 303 = .ok (.aload_n 0, 1) := by decide +kernel
theorem dX9_init_304 : decode cX9_init 304 = .ok (.bipush 15, 2) := by decide +kernel
theorem dX9_init_306 : decode cX9_init 306 = .ok (.newarray .int, 2) := by decide +kernel
theorem dX9_init_308 : decode cX9_init 308 = .ok (.putfield 110, 3) := by decide +kernel
theorem dX9_init_311 : decode cX9_init 311 = .ok (.aload_n 0, 1) := by decide +kernel
theorem dX9_init_312 : decode cX9_init 312 = .ok (.bipush 8, 2) := by decide +kernel
theorem dX9_init_314 : decode cX9_init 314 = .ok (.newarray .int, 2) := by decide +kernel
theorem dX9_init_316 : decode cX9_init 316 = .ok (.putfield 113, 3) := by decide +kernel
theorem dX9_init_319 : decode cX9_init 319 = .ok (.aload_n 0, 1) := by decide +kernel
theorem dX9_init_320 : decode cX9_init 320 = .ok (.bipush 8, 2) := by decide +kernel
theorem dX9_init_322 : decode cX9_init 322 = .ok (.newarray .int, 2) := by decide +kernel
theorem dX9_init_324 : decode cX9_init 324 = .ok (.putfield 116, 3) := by decide +kernel
theorem dX9_init_327 : decode cX9_init 327 = .ok (.aload_n 0, 1) := by decide +kernel
theorem dX9_init_328 : decode cX9_init 328 = .ok (.bipush 8, 2) := by decide +kernel
theorem dX9_init_330 : decode cX9_init 330 = .ok (.newarray .int, 2) := by decide +kernel
theorem dX9_init_332 : decode cX9_init 332 = .ok (.putfield 119, 3) := by decide +kernel
theorem dX9_init_335 : decode cX9_init 335 = .ok (.aload_n 0, 1) := by decide +kernel
theorem dX9_init_336 : decode cX9_init 336 = .ok (.bipush 8, 2) := by decide +kernel
theorem dX9_init_338 : decode cX9_init 338 = .ok (.newarray .int, 2) := by decide +kernel
theorem dX9_init_340 : decode cX9_init 340 = .ok (.putfield 122, 3) := by decide +kernel
theorem dX9_init_343 : decode cX9_init 343 = .ok (.aload_n 0, 1) := by decide +kernel
theorem dX9_init_344 : decode cX9_init 344 = .ok (.bipush 8, 2) := by decide +kernel
theorem dX9_init_346 : decode cX9_init 346 = .ok (.newarray .int, 2) := by decide +kernel
theorem dX9_init_348 : decode cX9_init 348 = .ok (.putfield 125, 3) := by decide +kernel
theorem dX9_init_351 : decode cX9_init 351 = .ok (.aload_n 0, 1) := by decide +kernel
theorem dX9_init_352 : decode cX9_init 352 = .ok (.sipush 480, 3) := by decide +kernel
theorem dX9_init_355 : decode cX9_init 355 = .ok (.newarray .int, 2) := by decide +kernel
theorem dX9_init_357 : decode cX9_init 357 = .ok (.putfield 128, 3) := by decide +kernel
theorem dX9_init_360 : decode cX9_init 360 = .ok (.aload_n 0, 1) := by decide +kernel
theorem dX9_init_361 : decode cX9_init 361 = .ok (.bipush 60, 2) := by decide +kernel
theorem dX9_init_363 : decode cX9_init 363 = .ok (.newarray .int, 2) := by decide +kernel
theorem dX9_init_365 : decode cX9_init 365 = .ok (.putfield 131, 3) := by decide +kernel
theorem dX9_init_368 : decode cX9_init 368 = .ok (.aload_n 0, 1) := by decide +kernel
theorem dX9_init_369 : decode cX9_init 369 = .ok (.iconst 4, 1) := by decide +kernel
theorem dX9_init_370 : decode cX9_init 370 = .ok (.iload_n 1, 1) := by decide +kernel
theorem dX9_init_371 : decode cX9_init 371 = .ok (.bipush 37, 2) := by decide +kernel
theorem dX9_init_373 : decode cX9_init 373 = .ok (.irem, 1) := by decide +kernel
theorem dX9_init_374 : decode cX9_init 374 = .ok (.bipush 37, 2) := by decide +kernel
theorem dX9_init_376 : decode cX9_init 376 = .ok (.iadd, 1) := by decide +kernel
theorem dX9_init_377 : decode cX9_init 377 = .ok (.bipush 37, 2) := by decide +kernel
theorem dX9_init_379 : decode cX9_init 379 = .ok (.irem, 1) := by decide +kernel
theorem dX9_init_380 : decode cX9_init 380 = .ok (.iadd, 1) := by decide +kernel
theorem dX9_init_381 : decode cX9_init 381 = .ok (.putfield 134, 3) := by decide +kernel
theorem dX9_init_384 : decode cX9_init 384 = .ok (.return_, 1) := by decide +kernel
theorem dX9_isChant_0 : decode cX9_isChant 0 = .ok (.aload_n 0, 1) := by decide +kernel
theorem dX9_isChant_1 : decode cX9_isChant 1 = .ok (.iload_n 1, 1) := by decide +kernel
theorem dX9_isChant_2 : decode cX9_isChant 2 = .ok (.iconst 0, 1) := by decide +kernel
theorem dX9_isChant_3 : decode cX9_isChant 3 = .ok (.aload_n 0, 1) := by decide +kernel
theorem dX9_isChant_4 : decode cX9_isChant 4 = .ok (.getfield 13, 3) := by decide +kernel
theorem dX9_isChant_7 : decode cX9_isChant 7 = .ok (.iconst 1, 1) := by decide +kernel
theorem dX9_isChant_8 : decode cX9_isChant 8 = .ok (.isub, 1) := by decide +kernel
theorem dX9_isChant_9 : decode cX9_isChant 9 = .ok (.invokevirtual 137, 3) := by decide +kernel
theorem dX9_isChant_12 : decode cX9_isChant 12 = .ok (.ireturn, 1) := by decide +kernel
theorem dX9_isColour_0 : decode cX9_isColour 0 = .ok (.aload_n 0, 1) := by decide +kernel
theorem dX9_isColour_1 : decode cX9_isColour 1 = .ok (.iload_n 1, 1) := by decide +kernel
theorem dX9_isColour_2 : decode cX9_isColour 2 = .ok (.iconst 0, 1) := by decide +kernel
theorem dX9_isColour_3 : decode cX9_isColour 3 = .ok (.bipush 7, 2) := by decide +kernel
theorem dX9_isColour_5 : decode cX9_isColour 5 = .ok (.invokevirtual 137, 3) := by decide +kernel
theorem dX9_isColour_8 : decode cX9_isColour 8 = .ok (.ireturn, 1) := by decide +kernel
theorem dX9_hasNumber_0 : decode cX9_hasNumber 0 = .ok (.iload_n 1, 1) := by decide +kernel
theorem dX9_hasNumber_1 : decode cX9_hasNumber 1 = .ok (.ifCond .eq 13, 3) := by decide +kernel
theorem dX9_hasNumber_4 : decode cX9_hasNumber 4 = .ok (.aload_n 0, 1) := by decide +kernel
theorem dX9_hasNumber_5 : decode cX9_hasNumber 5 = .ok (.iload_n 1, 1) := by decide +kernel
theorem dX9_hasNumber_6 : decode cX9_hasNumber 6 = .ok (.iconst 3, 1) := by decide +kernel
theorem dX9_hasNumber_7 : decode cX9_hasNumber 7 = .ok (.iconst 5, 1) := by decide +kernel
theorem dX9_hasNumber_8 : decode cX9_hasNumber 8 = .ok (.invokevirtual 137, 3) := by decide +kernel
theorem dX9_hasNumber_11 : decode cX9_hasNumber 11 = .ok (.ifCond .eq 7, 3) := by decide +kernel
theorem dX9_hasNumber_14 : decode cX9_hasNumber 14 = .ok (.iconst 1, 1) := by decide +kernel
theorem dX9_hasNumber_15 : decode cX9_hasNumber 15 = .ok (.goto 4, 3) := by decide +kernel
theorem dX9_hasNumber_18 : decode cX9_hasNumber 18 = .ok (.iconst 0, 1) := by decide +kernel
theorem dX9_hasNumber_19 : decode cX9_hasNumber 19 = .ok (.ireturn, 1) := by decide +kernel
theorem dX9_hasColour_0 : decode cX9_hasColour 0 = .ok (.iload_n 1, 1) := by decide +kernel
theorem dX9_hasColour_1 : decode cX9_hasColour 1 = .ok (.ifCond .eq 8, 3) := by decide +kernel
theorem dX9_hasColour_4 : decode cX9_hasColour 4 = .ok (.iload_n 1, 1) := by decide +kernel
theorem dX9_hasColour_5 : decode cX9_hasColour 5 = .ok (.iconst 1, 1) := by decide +kernel
theorem dX9_hasColour_6 : decode cX9_hasColour 6 = .ok (.if_icmp .ne 7, 3) := by decide +kernel
theorem dX9_hasColour_9 : decode cX9_hasColour 9 = .ok (.iconst 1, 1) := by decide +kernel
theorem dX9_hasColour_10 : decode cX9_hasColour 10 = .ok (.goto 4, 3) := by decide +kernel
theorem dX9_hasColour_13 : decode cX9_hasColour 13 = .ok (.iconst 0, 1) := by decide +kernel
theorem dX9_hasColour_14 : decode cX9_hasColour 14 = .ok (.ireturn, 1) := by decide +kernel
theorem dX9_chant_0 : decode cX9_chant 0 = .ok (.aload_n 0, 1) := by decide +kernel
theorem dX9_chant_1 : decode cX9_chant 1 = .ok (.getfield 13, 3) := by decide +kernel
theorem dX9_chant_4 : decode cX9_chant 4 = .ok (.bipush 12, 2) := by decide +kernel
theorem dX9_chant_6 : decode cX9_chant 6 = .ok (.if_icmp .ne 6, 3) := by decide +kernel
theorem dX9_chant_9 : decode cX9_chant 9 = .ok (.bipush (-2), 2) := by decide +kernel
theorem dX9_chant_11 : decode cX9_chant 11 = .ok (.ireturn, 1) := by decide +kernel
theorem dX9_chant_12 : decode cX9_chant 12 = .ok (.aload_n 0, 1) := by decide +kernel
theorem dX9_chant_13 : decode cX9_chant 13 = .ok (.getfield 16, 3) := by decide +kernel
theorem dX9_chant_16 : decode cX9_chant 16 = .ok (.aload_n 0, 1) := by decide +kernel
theorem dX9_chant_17 : decode cX9_chant 17 = .ok (.getfield 13, 3) := by decide +kernel
theorem dX9_chant_20 : decode cX9_chant 20 = .ok (.iconst 0, 1) := by decide +kernel
theorem dX9_chant_21 : decode cX9_chant 21 = .ok (.iastore, 1) := by decide +kernel
theorem dX9_chant_22 : decode cX9_chant 22 = .ok (.aload_n 0, 1) := by decide +kernel
theorem dX9_chant_23 : decode cX9_chant 23 = .ok (.dup, 1) := by decide +kernel
theorem dX9_chant_24 : decode cX9_chant 24 = .ok (.getfield 13, 3) := by decide +kernel
theorem dX9_chant_27 : decode cX9_chant 27 = .ok (.iconst 1, 1) := by decide +kernel
theorem dX9_chant_28 : decode cX9_chant 28 = .ok (.iadd, 1) := by decide +kernel
theorem dX9_chant_29 : decode cX9_chant 29 = .ok (.putfield 13, 3) := by decide +kernel
theorem dX9_chant_32 : decode cX9_chant 32 = .ok (.aload_n 0, 1) := by decide +kernel
theorem dX9_chant_33 : decode cX9_chant 33 = .ok (.getfield 13, 3) := by decide +kernel
theorem dX9_chant_36 : decode cX9_chant 36 = .ok (.iconst 1, 1) := by decide +kernel
theorem dX9_chant_37 : decode cX9_chant 37 = .ok (.isub, 1) := by decide +kernel
theorem dX9_chant_38 : decode cX9_chant 38 = .ok (.ireturn, 1) := by decide +kernel
theorem dX9_step_0 : decode cX9_step 0 = .ok (.aload_n 0, 1) := by decide +kernel
theorem dX9_step_1 : decode cX9_step 1 = .ok (.iload_n 1, 1) := by decide +kernel
theorem dX9_step_2 : decode cX9_step 2 = .ok (.iconst 0, 1) := by decide +kernel
theorem dX9_step_3 : decode cX9_step 3 = .ok (.iconst 5, 1) := by decide +kernel
theorem dX9_step_4 : decode cX9_step 4 = .ok (.invokevirtual 137, 3) := by decide +kernel
theorem dX9_step_7 : decode cX9_step 7 = .ok (.ifCond .eq 23, 3) := by decide +kernel
theorem dX9_step_10 : decode cX9_step 10 = .ok (.aload_n 0, 1) := by decide +kernel
theorem dX9_step_11 : decode cX9_step 11 = .ok (.iload_n 1, 1) := by decide +kernel
theorem dX9_step_12 : decode cX9_step 12 = .ok (.invokevirtual 141, 3) := by decide +kernel
theorem dX9_step_15 : decode cX9_step 15 = .ok (.ifCond .eq 11, 3) := by decide +kernel
theorem dX9_step_18 : decode cX9_step 18 = .ok (.aload_n 0, 1) := by decide +kernel
theorem dX9_step_19 : decode cX9_step 19 = .ok (.iload_n 3, 1) := by decide +kernel
theorem dX9_step_20 : decode cX9_step 20 = .ok (.invokevirtual 145, 3) := by decide +kernel
theorem dX9_step_23 : decode cX9_step 23 = .ok (.ifCond .eq 7, 3) := by decide +kernel
theorem dX9_step_26 : decode cX9_step 26 = .ok (.iconst 1, 1) := by decide +kernel
theorem dX9_step_27 : decode cX9_step 27 = .ok (.goto 4, 3) := by decide +kernel
theorem dX9_step_30 : decode cX9_step 30 = .ok (.iconst 0, 1) := by decide +kernel
theorem dX9_step_31 : decode cX9_step 31 = .ok (.istore 4, 2) := by decide +kernel
theorem dX9_step_33 : decode cX9_step 33 = .ok (.iload 4, 2) := by decide +kernel
theorem dX9_step_35 : decode cX9_step 35 = .ok (.ifCond .eq 56, 3) := by decide +kernel
theorem dX9_step_38 : decode cX9_step 38 = .ok (.aload_n 0, 1) := by decide +kernel
theorem dX9_step_39 : decode cX9_step 39 = .ok (.iload_n 1, 1) := by decide +kernel
theorem dX9_step_40 : decode cX9_step 40 = .ok (.invokevirtual 148, 3) := by decide +kernel
theorem dX9_step_43 : decode cX9_step 43 = .ok (.ifCond .eq 48, 3) := by decide +kernel
theorem dX9_step_46 : decode cX9_step 46 = .ok (.iload_n 1, 1) := by decide +kernel
theorem dX9_step_47 : decode cX9_step 47 = .ok (.ifCond .ne 14, 3) := by decide +kernel
theorem dX9_step_50 : decode cX9_step 50 = .ok (.aload_n 0, 1) := by decide +kernel
theorem dX9_step_51 : decode cX9_step 51 = .ok (.iload_n 2, 1) := by decide +kernel
theorem dX9_step_52 : decode cX9_step 52 = .ok (.iconst 1, 1) := by decide +kernel
theorem dX9_step_53 : decode cX9_step 53 = .ok (.bipush 40, 2) := by decide +kernel
theorem dX9_step_55 : decode cX9_step 55 = .ok (.invokevirtual 137, 3) := by decide +kernel
theorem dX9_step_58 : decode cX9_step 58 = .ok (.goto 31, 3) := by decide +kernel
theorem dX9_step_61 : decode cX9_step 61 = .ok (.iload_n 1, 1) := by decide +kernel
theorem dX9_step_62 : decode cX9_step 62 = .ok (.iconst 4, 1) := by decide +kernel
theorem dX9_step_63 : decode cX9_step 63 = .ok (.if_icmp .ne 18, 3) := by decide +kernel
theorem dX9_step_66 : decode cX9_step 66 = .ok (.aload_n 0, 1) := by decide +kernel
theorem dX9_step_67 : decode cX9_step 67 = .ok (.iload_n 2, 1) := by decide +kernel
theorem dX9_step_68 : decode cX9_step 68 = .ok (.iconst 0, 1) := by decide +kernel
theorem dX9_step_69 : decode cX9_step 69 = .ok (.aload_n 0, 1) := by decide +kernel
theorem dX9_step_70 : decode cX9_step 70 = .ok (.getfield 13, 3) := by decide +kernel
theorem dX9_step_73 : decode cX9_step 73 = .ok (.iconst 2, 1) := by decide +kernel
theorem dX9_step_74 : decode cX9_step 74 = .ok (.isub, 1) := by decide +kernel
theorem dX9_step_75 : decode cX9_step 75 = .ok (.invokevirtual 137, 3) := by decide +kernel
theorem dX9_step_78 : decode cX9_step 78 = .ok (.goto 11, 3) := by decide +kernel
theorem dX9_step_81 : decode cX9_step 81 = .ok (.aload_n 0, 1) := by decide +kernel
theorem dX9_step_82 : decode cX9_step 82 = .ok (.iload_n 2, 1) := by decide +kernel
theorem dX9_step_83 : decode cX9_step 83 = .ok (.iconst 1, 1) := by decide +kernel
theorem dX9_step_84 : decode cX9_step 84 = .ok (.bipush 9, 2) := by decide +kernel
theorem dX9_step_86 : decode cX9_step 86 = .ok (.invokevirtual 137, 3) := by decide +kernel
theorem dX9_step_89 : decode cX9_step 89 = .ok (.istore 4, 2) := by decide +kernel
theorem dX9_step_91 : decode cX9_step 91 = .ok (.iload 4, 2) := by decide +kernel
theorem dX9_step_93 : decode cX9_step 93 = .ok (.ifCond .ne 5, 3) := by decide +kernel
theorem dX9_step_96 : decode cX9_step 96 = .ok (.iconst (-1), 1) := by decide +kernel
theorem dX9_step_97 : decode cX9_step 97 = .ok (.ireturn, 1) := by decide +kernel
theorem dX9_step_98 : decode cX9_step 98 = .ok (.aload_n 0, 1) := by decide +kernel
theorem dX9_step_99 : decode cX9_step 99 = .ok (.getfield 13, 3) := by decide +kernel
theorem dX9_step_102 : decode cX9_step 102 = .ok (.ifCond .le 22, 3) := by decide +kernel
theorem dX9_step_105 : decode cX9_step 105 = .ok (.aload_n 0, 1) := by decide +kernel
theorem dX9_step_106 : decode cX9_step 106 = .ok (.getfield 16, 3) := by decide +kernel
theorem dX9_step_109 : decode cX9_step 109 = .ok (.aload_n 0, 1) := by decide +kernel
theorem dX9_step_110 : decode cX9_step 110 = .ok (.getfield 13, 3) := by decide +kernel
theorem dX9_step_113 : decode cX9_step 113 = .ok (.iconst 1, 1) := by decide +kernel
theorem dX9_step_114 : decode cX9_step 114 = .ok (.isub, 1) := by decide +kernel
theorem dX9_step_115 : decode cX9_step 115 = .ok (.iaload, 1) := by decide +kernel
theorem dX9_step_116 : decode cX9_step 116 = .ok (.bipush 12, 2) := by decide +kernel
theorem dX9_step_118 : decode cX9_step 118 = .ok (.if_icmp .ne 6, 3) := by decide +kernel
theorem dX9_step_121 : decode cX9_step 121 = .ok (.bipush (-2), 2) := by decide +kernel
theorem dX9_step_123 : decode cX9_step 123 = .ok (.ireturn, 1) := by decide +kernel
theorem dX9_step_124 : decode cX9_step 124 = .ok (.aload_n 0, 1) := by decide +kernel
theorem dX9_step_125 : decode cX9_step 125 = .ok (.getfield 13, 3) := by decide +kernel
theorem dX9_step_128 : decode cX9_step 128 = .ok (.ifCond .ne 6, 3) := by decide +kernel
theorem dX9_step_131 : decode cX9_step 131 = .ok (.bipush (-3), 2) := by decide +kernel
theorem dX9_step_133 : decode cX9_step 133 = .ok (.ireturn, 1) := by decide +kernel
theorem dX9_step_134 : decode cX9_step 134 = .ok (.bipush 12, 2) := by decide +kernel
theorem dX9_step_136 : decode cX9_step 136 = .ok (.aload_n 0, 1) := by decide +kernel
theorem dX9_step_137 : decode cX9_step 137 = .ok (.getfield 13, 3) := by decide +kernel
theorem dX9_step_140 : decode cX9_step 140 = .ok (.iconst 1, 1) := by decide +kernel
theorem dX9_step_141 : decode cX9_step 141 = .ok (.isub, 1) := by decide +kernel
theorem dX9_step_142 : decode cX9_step 142 = .ok (.imul, 1) := by decide +kernel
theorem dX9_step_143 : decode cX9_step 143 = .ok (.aload_n 0, 1) := by decide +kernel
theorem dX9_step_144 : decode cX9_step 144 = .ok (.getfield 16, 3) := by decide +kernel
theorem dX9_step_147 : decode cX9_step 147 = .ok (.aload_n 0, 1) := by decide +kernel
theorem dX9_step_148 : decode cX9_step 148 = .ok (.getfield 13, 3) := by decide +kernel
theorem dX9_step_151 : decode cX9_step 151 = .ok (.iconst 1, 1) := by decide +kernel
theorem dX9_step_152 : decode cX9_step 152 = .ok (.isub, 1) := by decide +kernel
theorem dX9_step_153 : decode cX9_step 153 = .ok (.iaload, 1) := by decide +kernel
theorem dX9_step_154 : decode cX9_step 154 = .ok (.iadd, 1) := by decide +kernel
theorem dX9_step_155 : decode cX9_step 155 = .ok (.istore 5, 2) := by decide +kernel
theorem dX9_step_157 : decode cX9_step 157 = .ok (.aload_n 0, 1) := by decide +kernel
theorem dX9_step_158 : decode cX9_step 158 = .ok (.getfield 20, 3) := by decide +kernel
theorem dX9_step_161 : decode cX9_step 161 = .ok (.iload 5, 2) := by decide +kernel
theorem dX9_step_163 : decode cX9_step 163 = .ok (.iload_n 1, 1) := by decide +kernel
theorem dX9_step_164 : decode cX9_step 164 = .ok (.iastore, 1) := by decide +kernel
theorem dX9_step_165 : decode cX9_step 165 = .ok (.aload_n 0, 1) := by decide +kernel
theorem dX9_step_166 : decode cX9_step 166 = .ok (.getfield 23, 3) := by decide +kernel
theorem dX9_step_169 : decode cX9_step 169 = .ok (.iload 5, 2) := by decide +kernel
theorem dX9_step_171 : decode cX9_step 171 = .ok (.iload_n 2, 1) := by decide +kernel
theorem dX9_step_172 : decode cX9_step 172 = .ok (.iastore, 1) := by decide +kernel
theorem dX9_step_173 : decode cX9_step 173 = .ok (.aload_n 0, 1) := by decide +kernel
theorem dX9_step_174 : decode cX9_step 174 = .ok (.getfield 26, 3) := by decide +kernel
theorem dX9_step_177 : decode cX9_step 177 = .ok (.iload 5, 2) := by decide +kernel
theorem dX9_step_179 : decode cX9_step 179 = .ok (.iload_n 3, 1) := by decide +kernel
theorem dX9_step_180 : decode cX9_step 180 = .ok (.iastore, 1) := by decide +kernel
theorem dX9_step_181 : decode cX9_step 181 = .ok (.aload_n 0, 1) := by decide +kernel
theorem dX9_step_182 : decode cX9_step 182 = .ok (.getfield 16, 3) := by decide +kernel
theorem dX9_step_185 : decode cX9_step 185 = .ok (.aload_n 0, 1) := by decide +kernel
theorem dX9_step_186 : decode cX9_step 186 = .ok (.getfield 13, 3) := by decide +kernel
theorem dX9_step_189 : decode cX9_step 189 = .ok (.iconst 1, 1) := by decide +kernel
theorem dX9_step_190 : decode cX9_step 190 = .ok (.isub, 1) := by decide +kernel
theorem dX9_step_191 : decode cX9_step 191 = .ok (.dup2, 1) := by decide +kernel
theorem dX9_step_192 : decode cX9_step 192 = .ok (.iaload, 1) := by decide +kernel
theorem dX9_step_193 : decode cX9_step 193 = .ok (.iconst 1, 1) := by decide +kernel
theorem dX9_step_194 : decode cX9_step 194 = .ok (.iadd, 1) := by decide +kernel
theorem dX9_step_195 : decode cX9_step 195 = .ok (.iastore, 1) := by decide +kernel
theorem dX9_step_196 : decode cX9_step 196 = .ok (.aload_n 0, 1) := by decide +kernel
theorem dX9_step_197 : decode cX9_step 197 = .ok (.getfield 16, 3) := by decide +kernel
theorem dX9_step_200 : decode cX9_step 200 = .ok (.aload_n 0, 1) := by decide +kernel
theorem dX9_step_201 : decode cX9_step 201 = .ok (.getfield 13, 3) := by decide +kernel
theorem dX9_step_204 : decode cX9_step 204 = .ok (.iconst 1, 1) := by decide +kernel
theorem dX9_step_205 : decode cX9_step 205 = .ok (.isub, 1) := by decide +kernel
theorem dX9_step_206 : decode cX9_step 206 = .ok (.iaload, 1) := by decide +kernel
theorem dX9_step_207 : decode cX9_step 207 = .ok (.iconst 1, 1) := by decide +kernel
theorem dX9_step_208 : decode cX9_step 208 = .ok (.isub, 1) := by decide +kernel
theorem dX9_step_209 : decode cX9_step 209 = .ok (.ireturn, 1) := by decide +kernel
theorem dX9_add_0 : decode cX9_add 0 = .ok (.aload_n 0, 1) := by decide +kernel
theorem dX9_add_1 : decode cX9_add 1 = .ok (.getfield 47, 3) := by decide +kernel
theorem dX9_add_4 : decode cX9_add 4 = .ok (.sipush 1000, 3) := by decide +kernel
theorem dX9_add_7 : decode cX9_add 7 = .ok (.if_icmp .ne 5, 3) := by decide +kernel
theorem dX9_add_10 : decode cX9_add 10 = .ok (.iconst 0, 1) := by decide +kernel
theorem dX9_add_11 : decode cX9_add 11 = .ok (.ireturn, 1) := by decide +kernel
theorem dX9_add_12 : decode cX9_add 12 = .ok (.aload_n 0, 1) := by decide +kernel
theorem dX9_add_13 : decode cX9_add 13 = .ok (.getfield 29, 3) := by decide +kernel
theorem dX9_add_16 : decode cX9_add 16 = .ok (.aload_n 0, 1) := by decide +kernel
theorem dX9_add_17 : decode cX9_add 17 = .ok (.getfield 47, 3) := by decide +kernel
theorem dX9_add_20 : decode cX9_add 20 = .ok (.iload_n 1, 1) := by decide +kernel
theorem dX9_add_21 : decode cX9_add 21 = .ok (.iastore, 1) := by decide +kernel
theorem dX9_add_22 : decode cX9_add 22 = .ok (.aload_n 0, 1) := by decide +kernel
theorem dX9_add_23 : decode cX9_add 23 = .ok (.dup, 1) := by decide +kernel
theorem dX9_add_24 : decode cX9_add 24 = .ok (.getfield 47, 3) := by decide +kernel
theorem dX9_add_27 : decode cX9_add 27 = .ok (.iconst 1, 1) := by decide +kernel
theorem dX9_add_28 : decode cX9_add 28 = .ok (.iadd, 1) := by decide +kernel
theorem dX9_add_29 : decode cX9_add 29 = .ok (.putfield 47, 3) := by decide +kernel
theorem dX9_add_32 : decode cX9_add 32 = .ok (.iconst 1, 1) := by decide +kernel
theorem dX9_add_33 : decode cX9_add 33 = .ok (.ireturn, 1) := by decide +kernel
theorem dX9_addAll_0 : decode cX9_addAll 0 = .ok (.iconst 1, 1) := by decide +kernel
theorem dX9_addAll_1 : decode cX9_addAll 1 = .ok (.istore 4, 2) := by decide +kernel
theorem dX9_addAll_3 : decode cX9_addAll 3 = .ok (.iconst 0, 1) := by decide +kernel
theorem dX9_addAll_4 : decode cX9_addAll 4 = .ok (.istore 5, 2) := by decide +kernel
theorem dX9_addAll_6 : decode cX9_addAll 6 = .ok (.iload 5, 2) := by decide +kernel
theorem dX9_addAll_8 : decode cX9_addAll 8 = .ok (.iload_n 2, 1) := by decide +kernel
theorem dX9_addAll_9 : decode cX9_addAll 9 = .ok (.iload_n 1, 1) := by decide +kernel
theorem dX9_addAll_10 : decode cX9_addAll 10 = .ok (.isub, 1) := by decide +kernel
theorem dX9_addAll_11 : decode cX9_addAll 11 = .ok (.if_icmp .ge 42, 3) := by decide +kernel
theorem dX9_addAll_14 : decode cX9_addAll 14 = .ok (.iload 4, 2) := by decide +kernel
theorem dX9_addAll_16 : decode cX9_addAll 16 = .ok (.ifCond .eq 37, 3) := by decide +kernel
theorem dX9_addAll_19 : decode cX9_addAll 19 = .ok (.aload_n 0, 1) := by decide +kernel
theorem dX9_addAll_20 : decode cX9_addAll 20 = .ok (.aload_n 0, 1) := by decide +kernel
theorem dX9_addAll_21 : decode cX9_addAll 21 = .ok (.getfield 29, 3) := by decide +kernel
theorem dX9_addAll_24 : decode cX9_addAll 24 = .ok (.iload_n 3, 1) := by decide +kernel
theorem dX9_addAll_25 : decode cX9_addAll 25 = .ok (.ifCond .eq 12, 3) := by decide +kernel
theorem dX9_addAll_28 : decode cX9_addAll 28 = .ok (.iload_n 2, 1) := by decide +kernel
theorem dX9_addAll_29 : decode cX9_addAll 29 = .ok (.iconst 1, 1) := by decide +kernel
theorem dX9_addAll_30 : decode cX9_addAll 30 = .ok (.isub, 1) := by decide +kernel
theorem dX9_addAll_31 : decode cX9_addAll 31 = .ok (.iload 5, 2) := by decide +kernel
theorem dX9_addAll_33 : decode cX9_addAll 33 = .ok (.isub, 1) := by decide +kernel
theorem dX9_addAll_34 : decode cX9_addAll 34 = .ok (.goto 7, 3) := by decide +kernel
theorem dX9_addAll_37 : decode cX9_addAll 37 = .ok (.iload_n 1, 1) := by decide +kernel
theorem dX9_addAll_38 : decode cX9_addAll 38 = .ok (.iload 5, 2) := by decide +kernel
theorem dX9_addAll_40 : decode cX9_addAll 40 = .ok (.iadd, 1) := by decide +kernel
theorem dX9_addAll_41 : decode cX9_addAll 41 = .ok (.iaload, 1) := by decide +kernel
theorem dX9_addAll_42 : decode cX9_addAll 42 = .ok (.invokevirtual 151, 3) := by decide +kernel
theorem dX9_addAll_45 : decode cX9_addAll 45 = .ok (.istore 4, 2) := by decide +kernel
theorem dX9_addAll_47 : decode cX9_addAll 47 = .ok (.iinc 5 1, 3) := by decide +kernel
theorem dX9_addAll_50 : decode cX9_addAll 50 = .ok (.goto (-44), 3) := by decide +kernel
theorem dX9_addAll_53 : decode cX9_addAll 53 = .ok (.iload 4, 2) := by decide +kernel
theorem dX9_addAll_55 : decode cX9_addAll 55 = .ok (.ireturn, 1) := by decide +kernel
theorem dX9_stepOf_0 : decode cX9_stepOf 0 = .ok (.iconst 1, 1) := by decide +kernel
theorem dX9_stepOf_1 : decode cX9_stepOf 1 = .ok (.istore 4, 2) := by decide +kernel
theorem dX9_stepOf_3 : decode cX9_stepOf 3 = .ok (.aload_n 0, 1) := by decide +kernel
theorem dX9_stepOf_4 : decode cX9_stepOf 4 = .ok (.getfield 47, 3) := by decide +kernel
theorem dX9_stepOf_7 : decode cX9_stepOf 7 = .ok (.istore 5, 2) := by decide +kernel
theorem dX9_stepOf_9 : decode cX9_stepOf 9 = .ok (.aload_n 0, 1) := by decide +kernel
theorem dX9_stepOf_10 : decode cX9_stepOf 10 = .ok (.getfield 20, 3) := by decide +kernel
theorem dX9_stepOf_13 : decode cX9_stepOf 13 = .ok (.iload_n 1, 1) := by decide +kernel
theorem dX9_stepOf_14 : decode cX9_stepOf 14 = .ok (.iaload, 1) := by decide +kernel
theorem dX9_stepOf_15 : decode cX9_stepOf 15 = .ok (.tableswitch 150 0 3 #[29, 69, 99, 112], 29) := by decide +kernel
theorem dX9_stepOf_44 : decode cX9_stepOf 44 = .ok (.iconst 0, 1) := by decide +kernel
theorem dX9_stepOf_45 : decode cX9_stepOf 45 = .ok (.istore 6, 2) := by decide +kernel
theorem dX9_stepOf_47 : decode cX9_stepOf 47 = .ok (.iload 6, 2) := by decide +kernel
theorem dX9_stepOf_49 : decode cX9_stepOf 49 = .ok (.aload_n 0, 1) := by decide +kernel
theorem dX9_stepOf_50 : decode cX9_stepOf 50 = .ok (.getfield 23, 3) := by decide +kernel
theorem dX9_stepOf_53 : decode cX9_stepOf 53 = .ok (.iload_n 1, 1) := by decide +kernel
theorem dX9_stepOf_54 : decode cX9_stepOf 54 = .ok (.iaload, 1) := by decide +kernel
theorem dX9_stepOf_55 : decode cX9_stepOf 55 = .ok (.if_icmp .ge 26, 3) := by decide +kernel
theorem dX9_stepOf_58 : decode cX9_stepOf 58 = .ok (.iload 4, 2) := by decide +kernel
theorem dX9_stepOf_60 : decode cX9_stepOf 60 = .ok (.ifCond .eq 21, 3) := by decide +kernel
theorem dX9_stepOf_63 : decode cX9_stepOf 63 = .ok (.aload_n 0, 1) := by decide +kernel
theorem dX9_stepOf_64 : decode cX9_stepOf 64 = .ok (.aload_n 0, 1) := by decide +kernel
theorem dX9_stepOf_65 : decode cX9_stepOf 65 = .ok (.getfield 26, 3) := by decide +kernel
theorem dX9_stepOf_68 : decode cX9_stepOf 68 = .ok (.iload_n 1, 1) := by decide +kernel
theorem dX9_stepOf_69 : decode cX9_stepOf 69 = .ok (.iaload, 1) := by decide +kernel
theorem dX9_stepOf_70 : decode cX9_stepOf 70 = .ok (.invokevirtual 151, 3) := by decide +kernel
theorem dX9_stepOf_73 : decode cX9_stepOf 73 = .ok (.istore 4, 2) := by decide +kernel
theorem dX9_stepOf_75 : decode cX9_stepOf 75 = .ok (.iinc 6 1, 3) := by decide +kernel
theorem dX9_stepOf_78 : decode cX9_stepOf 78 = .ok (.goto (-31), 3) := by decide +kernel
theorem dX9_stepOf_81 : decode cX9_stepOf 81 = .ok (.goto 124, 3) := by decide +kernel
theorem dX9_stepOf_84 : decode cX9_stepOf 84 = .ok (.iload 4, 2) := by decide +kernel
theorem dX9_stepOf_86 : decode cX9_stepOf 86 = .ok (.ifCond .eq 119, 3) := by decide +kernel
theorem dX9_stepOf_89 : decode cX9_stepOf 89 = .ok (.aload_n 0, 1) := by decide +kernel
theorem dX9_stepOf_90 : decode cX9_stepOf 90 = .ok (.getfield 47, 3) := by decide +kernel
theorem dX9_stepOf_93 : decode cX9_stepOf 93 = .ok (.iload_n 2, 1) := by decide +kernel
theorem dX9_stepOf_94 : decode cX9_stepOf 94 = .ok (.isub, 1) := by decide +kernel
theorem dX9_stepOf_95 : decode cX9_stepOf 95 = .ok (.iload_n 3, 1) := by decide +kernel
theorem dX9_stepOf_96 : decode cX9_stepOf 96 = .ok (.if_icmp .ge 109, 3) := by decide +kernel
theorem dX9_stepOf_99 : decode cX9_stepOf 99 = .ok (.aload_n 0, 1) := by decide +kernel
theorem dX9_stepOf_100 : decode cX9_stepOf 100 = .ok (.aload_n 0, 1) := by decide +kernel
theorem dX9_stepOf_101 : decode cX9_stepOf 101 = .ok (.getfield 26, 3) := by decide +kernel
theorem dX9_stepOf_104 : decode cX9_stepOf 104 = .ok (.iload_n 1, 1) := by decide +kernel
theorem dX9_stepOf_105 : decode cX9_stepOf 105 = .ok (.iaload, 1) := by decide +kernel
theorem dX9_stepOf_106 : decode cX9_stepOf 106 = .ok (.invokevirtual 151, 3) := by decide +kernel
theorem dX9_stepOf_109 : decode cX9_stepOf 109 = .ok (.istore 4, 2) := by decide +kernel
theorem dX9_stepOf_111 : decode cX9_stepOf 111 = .ok (.goto (-27), 3) := by decide +kernel
theorem dX9_stepOf_114 : decode cX9_stepOf 114 = .ok (.aload_n 0, 1) := by decide +kernel
theorem dX9_stepOf_115 : decode cX9_stepOf 115 = .ok (.iload_n 2, 1) := by decide +kernel
theorem dX9_stepOf_116 : decode cX9_stepOf 116 = .ok (.iload 5, 2) := by decide +kernel
theorem dX9_stepOf_118 : decode cX9_stepOf 118 = .ok (.iconst 1, 1) := by decide +kernel
theorem dX9_stepOf_119 : decode cX9_stepOf 119 = .ok (.invokevirtual 154, 3) := by decide +kernel
theorem dX9_stepOf_122 : decode cX9_stepOf 122 = .ok (.istore 4, 2) := by decide +kernel
theorem dX9_stepOf_124 : decode cX9_stepOf 124 = .ok (.goto 81, 3) := by decide +kernel
theorem dX9_stepOf_127 : decode cX9_stepOf 127 = .ok (.iconst 0, 1) := by decide +kernel
theorem dX9_stepOf_128 : decode cX9_stepOf 128 = .ok (.istore 6, 2) := by decide +kernel
theorem dX9_stepOf_130 : decode cX9_stepOf 130 = .ok (.iload 6, 2) := by decide +kernel
theorem dX9_stepOf_132 : decode cX9_stepOf 132 = .ok (.aload_n 0, 1) := by decide +kernel
theorem dX9_stepOf_133 : decode cX9_stepOf 133 = .ok (.getfield 23, 3) := by decide +kernel
theorem dX9_stepOf_136 : decode cX9_stepOf 136 = .ok (.iload_n 1, 1) := by decide +kernel
theorem dX9_stepOf_137 : decode cX9_stepOf 137 = .ok (.iaload, 1) := by decide +kernel
theorem dX9_stepOf_138 : decode cX9_stepOf 138 = .ok (.if_icmp .ge 24, 3) := by decide +kernel
theorem dX9_stepOf_141 : decode cX9_stepOf 141 = .ok (.iload 4, 2) := by decide +kernel
theorem dX9_stepOf_143 : decode cX9_stepOf 143 = .ok (.ifCond .eq 19, 3) := by decide +kernel
theorem dX9_stepOf_146 : decode cX9_stepOf 146 = .ok (.aload_n 0, 1) := by decide +kernel
theorem dX9_stepOf_147 : decode cX9_stepOf 147 = .ok (.iload_n 2, 1) := by decide +kernel
theorem dX9_stepOf_148 : decode cX9_stepOf 148 = .ok (.iload 5, 2) := by decide +kernel
theorem dX9_stepOf_150 : decode cX9_stepOf 150 = .ok (.iconst 0, 1) := by decide +kernel
theorem dX9_stepOf_151 : decode cX9_stepOf 151 = .ok (.invokevirtual 154, 3) := by decide +kernel
theorem dX9_stepOf_154 : decode cX9_stepOf 154 = .ok (.istore 4, 2) := by decide +kernel
theorem dX9_stepOf_156 : decode cX9_stepOf 156 = .ok (.iinc 6 1, 3) := by decide +kernel
theorem dX9_stepOf_159 : decode cX9_stepOf 159 = .ok (.goto (-29), 3) := by decide +kernel
theorem dX9_stepOf_162 : decode cX9_stepOf 162 = .ok (.goto 43, 3) := by decide +kernel
theorem dX9_stepOf_165 : decode cX9_stepOf 165 = .ok (.iload 4, 2) := by decide +kernel
theorem dX9_stepOf_167 : decode cX9_stepOf 167 = .ok (.ifCond .eq 38, 3) := by decide +kernel
theorem dX9_stepOf_170 : decode cX9_stepOf 170 = .ok (.aload_n 0, 1) := by decide +kernel
theorem dX9_stepOf_171 : decode cX9_stepOf 171 = .ok (.getfield 47, 3) := by decide +kernel
theorem dX9_stepOf_174 : decode cX9_stepOf 174 = .ok (.iload_n 2, 1) := by decide +kernel
theorem dX9_stepOf_175 : decode cX9_stepOf 175 = .ok (.isub, 1) := by decide +kernel
theorem dX9_stepOf_176 : decode cX9_stepOf 176 = .ok (.iload_n 3, 1) := by decide +kernel
theorem dX9_stepOf_177 : decode cX9_stepOf 177 = .ok (.if_icmp .ge 28, 3) := by decide +kernel
theorem dX9_stepOf_180 : decode cX9_stepOf 180 = .ok (.aload_n 0, 1) := by decide +kernel
theorem dX9_stepOf_181 : decode cX9_stepOf 181 = .ok (.aload_n 0, 1) := by decide +kernel
theorem dX9_stepOf_182 : decode cX9_stepOf 182 = .ok (.aload_n 0, 1) := by decide +kernel
theorem dX9_stepOf_183 : decode cX9_stepOf 183 = .ok (.getfield 23, 3) := by decide +kernel
theorem dX9_stepOf_186 : decode cX9_stepOf 186 = .ok (.iload_n 1, 1) := by decide +kernel
theorem dX9_stepOf_187 : decode cX9_stepOf 187 = .ok (.iaload, 1) := by decide +kernel
theorem dX9_stepOf_188 : decode cX9_stepOf 188 = .ok (.aload_n 0, 1) := by decide +kernel
theorem dX9_stepOf_189 : decode cX9_stepOf 189 = .ok (.getfield 47, 3) := by decide +kernel
theorem dX9_stepOf_192 : decode cX9_stepOf 192 = .ok (.iload_n 2, 1) := by decide +kernel
theorem dX9_stepOf_193 : decode cX9_stepOf 193 = .ok (.isub, 1) := by decide +kernel
theorem dX9_stepOf_194 : decode cX9_stepOf 194 = .ok (.invokevirtual 158, 3) := by decide +kernel
theorem dX9_stepOf_197 : decode cX9_stepOf 197 = .ok (.invokevirtual 151, 3) := by decide +kernel
theorem dX9_stepOf_200 : decode cX9_stepOf 200 = .ok (.istore 4, 2) := by decide +kernel
theorem dX9_stepOf_202 : decode cX9_stepOf 202 = .ok (.goto (-37), 3) := by decide +kernel
theorem dX9_stepOf_205 : decode cX9_stepOf 205 = .ok (.iload 4, 2) := by decide +kernel
theorem dX9_stepOf_207 : decode cX9_stepOf 207 = .ok (.ireturn, 1) := by decide +kernel
theorem dX9_below_0 : decode cX9_below 0 = .ok (.iload_n 1, 1) := by decide +kernel
theorem dX9_below_1 : decode cX9_below 1 = .ok (.aload_n 0, 1) := by decide +kernel
theorem dX9_below_2 : decode cX9_below 2 = .ok (.getfield 71, 3) := by decide +kernel
theorem dX9_below_5 : decode cX9_below 5 = .ok (.if_icmp .gt 11, 3) := by decide +kernel
theorem dX9_below_8 : decode cX9_below 8 = .ok (.iload_n 2, 1) := by decide +kernel
theorem dX9_below_9 : decode cX9_below 9 = .ok (.aload_n 0, 1) := by decide +kernel
theorem dX9_below_10 : decode cX9_below 10 = .ok (.getfield 134, 3) := by decide +kernel
theorem dX9_below_13 : decode cX9_below 13 = .ok (.if_icmp .lt 7, 3) := by decide +kernel
theorem dX9_below_16 : decode cX9_below 16 = .ok (.iconst 0, 1) := by decide +kernel
theorem dX9_below_17 : decode cX9_below 17 = .ok (.goto 19, 3) := by decide +kernel
theorem dX9_below_20 : decode cX9_below 20 = .ok (.aload_n 0, 1) := by decide +kernel
theorem dX9_below_21 : decode cX9_below 21 = .ok (.getfield 77, 3) := by decide +kernel
theorem dX9_below_24 : decode cX9_below 24 = .ok (.bipush 40, 2) := by decide +kernel
theorem dX9_below_26 : decode cX9_below 26 = .ok (.aload_n 0, 1) := by decide +kernel
theorem dX9_below_27 : decode cX9_below 27 = .ok (.getfield 71, 3) := by decide +kernel
theorem dX9_below_30 : decode cX9_below 30 = .ok (.iload_n 1, 1) := by decide +kernel
theorem dX9_below_31 : decode cX9_below 31 = .ok (.isub, 1) := by decide +kernel
theorem dX9_below_32 : decode cX9_below 32 = .ok (.imul, 1) := by decide +kernel
theorem dX9_below_33 : decode cX9_below 33 = .ok (.iload_n 2, 1) := by decide +kernel
theorem dX9_below_34 : decode cX9_below 34 = .ok (.iadd, 1) := by decide +kernel
theorem dX9_below_35 : decode cX9_below 35 = .ok (.iaload, 1) := by decide +kernel
theorem dX9_below_36 : decode cX9_below 36 = .ok (.ireturn, 1) := by decide +kernel
theorem dX9_call_0 : decode cX9_call 0 = .ok (.aload_n 0, 1) := by decide +kernel
theorem dX9_call_1 : decode cX9_call 1 = .ok (.iconst 0, 1) := by decide +kernel
theorem dX9_call_2 : decode cX9_call 2 = .ok (.putfield 47, 3) := by decide +kernel
theorem dX9_call_5 : decode cX9_call 5 = .ok (.iconst 0, 1) := by decide +kernel
theorem dX9_call_6 : decode cX9_call 6 = .ok (.istore_n 2, 1) := by decide +kernel
theorem dX9_call_7 : decode cX9_call 7 = .ok (.iconst 1, 1) := by decide +kernel
theorem dX9_call_8 : decode cX9_call 8 = .ok (.istore_n 3, 1) := by decide +kernel
theorem dX9_call_9 : decode cX9_call 9 = .ok (.aload_n 0, 1) := by decide +kernel
theorem dX9_call_10 : decode cX9_call 10 = .ok (.getfield 35, 3) := by decide +kernel
theorem dX9_call_13 : decode cX9_call 13 = .ok (.iconst 0, 1) := by decide +kernel
theorem dX9_call_14 : decode cX9_call 14 = .ok (.iload_n 1, 1) := by decide +kernel
theorem dX9_call_15 : decode cX9_call 15 = .ok (.iastore, 1) := by decide +kernel
theorem dX9_call_16 : decode cX9_call 16 = .ok (.aload_n 0, 1) := by decide +kernel
theorem dX9_call_17 : decode cX9_call 17 = .ok (.getfield 38, 3) := by decide +kernel
theorem dX9_call_20 : decode cX9_call 20 = .ok (.iconst 0, 1) := by decide +kernel
theorem dX9_call_21 : decode cX9_call 21 = .ok (.iconst 0, 1) := by decide +kernel
theorem dX9_call_22 : decode cX9_call 22 = .ok (.iastore, 1) := by decide +kernel
