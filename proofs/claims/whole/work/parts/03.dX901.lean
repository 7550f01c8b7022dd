theorem dX9_call_23 : decode cX9_call 23 = .ok (.aload_n 0, 1) := by decide +kernel
theorem dX9_call_24 : decode cX9_call 24 = .ok (.getfield 41, 3) := by decide +kernel
theorem dX9_call_27 : decode cX9_call 27 = .ok (.iconst 0, 1) := by decide +kernel
theorem dX9_call_28 : decode cX9_call 28 = .ok (.iconst 0, 1) := by decide +kernel
theorem dX9_call_29 : decode cX9_call 29 = .ok (.iastore, 1) := by decide +kernel
theorem dX9_call_30 : decode cX9_call 30 = .ok (.aload_n 0, 1) := by decide +kernel
theorem dX9_call_31 : decode cX9_call 31 = .ok (.getfield 44, 3) := by decide +kernel
theorem dX9_call_34 : decode cX9_call 34 = .ok (.iconst 0, 1) := by decide +kernel
theorem dX9_call_35 : decode cX9_call 35 = .ok (.aload_n 0, 1) := by decide +kernel
theorem dX9_call_36 : decode cX9_call 36 = .ok (.getfield 134, 3) := by decide +kernel
theorem dX9_call_39 : decode cX9_call 39 = .ok (.iastore, 1) := by decide +kernel
theorem dX9_call_40 : decode cX9_call 40 = .ok (.iload_n 3, 1) := by decide +kernel
theorem dX9_call_41 : decode cX9_call 41 = .ok (.ifCond .le 226, 3) := by decide +kernel
theorem dX9_call_44 : decode cX9_call 44 = .ok (.iload_n 3, 1) := by decide +kernel
theorem dX9_call_45 : decode cX9_call 45 = .ok (.iconst 1, 1) := by decide +kernel
theorem dX9_call_46 : decode cX9_call 46 = .ok (.isub, 1) := by decide +kernel
theorem dX9_call_47 : decode cX9_call 47 = .ok (.istore 4, 2) := by decide +kernel
theorem dX9_call_49 : decode cX9_call 49 = .ok (.aload_n 0, 1) := by decide +kernel
theorem dX9_call_50 : decode cX9_call 50 = .ok (.getfield 38, 3) := by decide +kernel
theorem dX9_call_53 : decode cX9_call 53 = .ok (.iload 4, 2) := by decide +kernel
theorem dX9_call_55 : decode cX9_call 55 = .ok (.iaload, 1) := by decide +kernel
theorem dX9_call_56 : decode cX9_call 56 = .ok (.aload_n 0, 1) := by decide +kernel
theorem dX9_call_57 : decode cX9_call 57 = .ok (.getfield 16, 3) := by decide +kernel
theorem dX9_call_60 : decode cX9_call 60 = .ok (.aload_n 0, 1) := by decide +kernel
theorem dX9_call_61 : decode cX9_call 61 = .ok (.getfield 35, 3) := by decide +kernel
theorem dX9_call_64 : decode cX9_call 64 = .ok (.iload 4, 2) := by decide +kernel
theorem dX9_call_66 : decode cX9_call 66 = .ok (.iaload, 1) := by decide +kernel
theorem dX9_call_67 : decode cX9_call 67 = .ok (.iaload, 1) := by decide +kernel
theorem dX9_call_68 : decode cX9_call 68 = .ok (.if_icmp .ne 31, 3) := by decide +kernel
theorem dX9_call_71 : decode cX9_call 71 = .ok (.iinc 3 (-1), 3) := by decide +kernel
theorem dX9_call_74 : decode cX9_call 74 = .ok (.iload_n 3, 1) := by decide +kernel
theorem dX9_call_75 : decode cX9_call 75 = .ok (.iconst 1, 1) := by decide +kernel
theorem dX9_call_76 : decode cX9_call 76 = .ok (.if_icmp .ne (-36), 3) := by decide +kernel
theorem dX9_call_79 : decode cX9_call 79 = .ok (.aload_n 0, 1) := by decide +kernel
theorem dX9_call_80 : decode cX9_call 80 = .ok (.getfield 32, 3) := by decide +kernel
theorem dX9_call_83 : decode cX9_call 83 = .ok (.aload_n 0, 1) := by decide +kernel
theorem dX9_call_84 : decode cX9_call 84 = .ok (.getfield 38, 3) := by decide +kernel
theorem dX9_call_87 : decode cX9_call 87 = .ok (.iconst 0, 1) := by decide +kernel
theorem dX9_call_88 : decode cX9_call 88 = .ok (.iaload, 1) := by decide +kernel
theorem dX9_call_89 : decode cX9_call 89 = .ok (.iconst 1, 1) := by decide +kernel
theorem dX9_call_90 : decode cX9_call 90 = .ok (.isub, 1) := by decide +kernel
theorem dX9_call_91 : decode cX9_call 91 = .ok (.aload_n 0, 1) := by decide +kernel
theorem dX9_call_92 : decode cX9_call 92 = .ok (.getfield 47, 3) := by decide +kernel
theorem dX9_call_95 : decode cX9_call 95 = .ok (.iastore, 1) := by decide +kernel
theorem dX9_call_96 : decode cX9_call 96 = .ok (.goto (-56), 3) := by decide +kernel
theorem dX9_call_99 : decode cX9_call 99 = .ok (.bipush 12, 2) := by decide +kernel
theorem dX9_call_101 : decode cX9_call 101 = .ok (.aload_n 0, 1) := by decide +kernel
theorem dX9_call_102 : decode cX9_call 102 = .ok (.getfield 35, 3) := by decide +kernel
theorem dX9_call_105 : decode cX9_call 105 = .ok (.iload 4, 2) := by decide +kernel
theorem dX9_call_107 : decode cX9_call 107 = .ok (.iaload, 1) := by decide +kernel
theorem dX9_call_108 : decode cX9_call 108 = .ok (.imul, 1) := by decide +kernel
theorem dX9_call_109 : decode cX9_call 109 = .ok (.aload_n 0, 1) := by decide +kernel
theorem dX9_call_110 : decode cX9_call 110 = .ok (.getfield 38, 3) := by decide +kernel
theorem dX9_call_113 : decode cX9_call 113 = .ok (.iload 4, 2) := by decide +kernel
theorem dX9_call_115 : decode cX9_call 115 = .ok (.iaload, 1) := by decide +kernel
theorem dX9_call_116 : decode cX9_call 116 = .ok (.iadd, 1) := by decide +kernel
theorem dX9_call_117 : decode cX9_call 117 = .ok (.istore 5, 2) := by decide +kernel
theorem dX9_call_119 : decode cX9_call 119 = .ok (.aload_n 0, 1) := by decide +kernel
theorem dX9_call_120 : decode cX9_call 120 = .ok (.getfield 38, 3) := by decide +kernel
theorem dX9_call_123 : decode cX9_call 123 = .ok (.iload 4, 2) := by decide +kernel
theorem dX9_call_125 : decode cX9_call 125 = .ok (.dup2, 1) := by decide +kernel
theorem dX9_call_126 : decode cX9_call 126 = .ok (.iaload, 1) := by decide +kernel
theorem dX9_call_127 : decode cX9_call 127 = .ok (.iconst 1, 1) := by decide +kernel
theorem dX9_call_128 : decode cX9_call 128 = .ok (.iadd, 1) := by decide +kernel
theorem dX9_call_129 : decode cX9_call 129 = .ok (.iastore, 1) := by decide +kernel
theorem dX9_call_130 : decode cX9_call 130 = .ok (.iinc 2 1, 3) := by decide +kernel
theorem dX9_call_133 : decode cX9_call 133 = .ok (.iload_n 2, 1) := by decide +kernel
theorem dX9_call_134 : decode cX9_call 134 = .ok (.sipush 1000, 3) := by decide +kernel
theorem dX9_call_137 : decode cX9_call 137 = .ok (.if_icmp .le 6, 3) := by decide +kernel
theorem dX9_call_140 : decode cX9_call 140 = .ok (.bipush (-6), 2) := by decide +kernel
theorem dX9_call_142 : decode cX9_call 142 = .ok (.ireturn, 1) := by decide +kernel
theorem dX9_call_143 : decode cX9_call 143 = .ok (.aload_n 0, 1) := by decide +kernel
theorem dX9_call_144 : decode cX9_call 144 = .ok (.getfield 20, 3) := by decide +kernel
theorem dX9_call_147 : decode cX9_call 147 = .ok (.iload 5, 2) := by decide +kernel
theorem dX9_call_149 : decode cX9_call 149 = .ok (.iaload, 1) := by decide +kernel
theorem dX9_call_150 : decode cX9_call 150 = .ok (.iconst 4, 1) := by decide +kernel
theorem dX9_call_151 : decode cX9_call 151 = .ok (.if_icmp .ne 65, 3) := by decide +kernel
theorem dX9_call_154 : decode cX9_call 154 = .ok (.aload_n 0, 1) := by decide +kernel
theorem dX9_call_155 : decode cX9_call 155 = .ok (.getfield 35, 3) := by decide +kernel
theorem dX9_call_158 : decode cX9_call 158 = .ok (.iload_n 3, 1) := by decide +kernel
theorem dX9_call_159 : decode cX9_call 159 = .ok (.aload_n 0, 1) := by decide +kernel
theorem dX9_call_160 : decode cX9_call 160 = .ok (.getfield 23, 3) := by decide +kernel
theorem dX9_call_163 : decode cX9_call 163 = .ok (.iload 5, 2) := by decide +kernel
theorem dX9_call_165 : decode cX9_call 165 = .ok (.iaload, 1) := by decide +kernel
theorem dX9_call_166 : decode cX9_call 166 = .ok (.iastore, 1) := by decide +kernel
theorem dX9_call_167 : decode cX9_call 167 = .ok (.aload_n 0, 1) := by decide +kernel
theorem dX9_call_168 : decode cX9_call 168 = .ok (.getfield 38, 3) := by decide +kernel
theorem dX9_call_171 : decode cX9_call 171 = .ok (.iload_n 3, 1) := by decide +kernel
theorem dX9_call_172 : decode cX9_call 172 = .ok (.iconst 0, 1) := by decide +kernel
theorem dX9_call_173 : decode cX9_call 173 = .ok (.iastore, 1) := by decide +kernel
theorem dX9_call_174 : decode cX9_call 174 = .ok (.aload_n 0, 1) := by decide +kernel
theorem dX9_call_175 : decode cX9_call 175 = .ok (.getfield 41, 3) := by decide +kernel
theorem dX9_call_178 : decode cX9_call 178 = .ok (.iload_n 3, 1) := by decide +kernel
theorem dX9_call_179 : decode cX9_call 179 = .ok (.aload_n 0, 1) := by decide +kernel
theorem dX9_call_180 : decode cX9_call 180 = .ok (.getfield 47, 3) := by decide +kernel
theorem dX9_call_183 : decode cX9_call 183 = .ok (.iastore, 1) := by decide +kernel
theorem dX9_call_184 : decode cX9_call 184 = .ok (.aload_n 0, 1) := by decide +kernel
theorem dX9_call_185 : decode cX9_call 185 = .ok (.getfield 44, 3) := by decide +kernel
theorem dX9_call_188 : decode cX9_call 188 = .ok (.iload_n 3, 1) := by decide +kernel
theorem dX9_call_189 : decode cX9_call 189 = .ok (.aload_n 0, 1) := by decide +kernel
theorem dX9_call_190 : decode cX9_call 190 = .ok (.getfield 44, 3) := by decide +kernel
theorem dX9_call_193 : decode cX9_call 193 = .ok (.iload 4, 2) := by decide +kernel
theorem dX9_call_195 : decode cX9_call 195 = .ok (.iaload, 1) := by decide +kernel
theorem dX9_call_196 : decode cX9_call 196 = .ok (.aload_n 0, 1) := by decide +kernel
theorem dX9_call_197 : decode cX9_call 197 = .ok (.getfield 47, 3) := by decide +kernel
theorem dX9_call_200 : decode cX9_call 200 = .ok (.aload_n 0, 1) := by decide +kernel
theorem dX9_call_201 : decode cX9_call 201 = .ok (.getfield 41, 3) := by decide +kernel
theorem dX9_call_204 : decode cX9_call 204 = .ok (.iload 4, 2) := by decide +kernel
theorem dX9_call_206 : decode cX9_call 206 = .ok (.iaload, 1) := by decide +kernel
theorem dX9_call_207 : decode cX9_call 207 = .ok (.isub, 1) := by decide +kernel
theorem dX9_call_208 : decode cX9_call 208 = .ok (.isub, 1) := by decide +kernel
theorem dX9_call_209 : decode cX9_call 209 = .ok (.iastore, 1) := by decide +kernel
theorem dX9_call_210 : decode cX9_call 210 = .ok (.iinc 3 1, 3) := by decide +kernel
theorem dX9_call_213 : decode cX9_call 213 = .ok (.goto (-173), 3) := by decide +kernel
theorem dX9_call_216 : decode cX9_call 216 = .ok (.aload_n 0, 1) := by decide +kernel
theorem dX9_call_217 : decode cX9_call 217 = .ok (.iload 5, 2) := by decide +kernel
theorem dX9_call_219 : decode cX9_call 219 = .ok (.aload_n 0, 1) := by decide +kernel
theorem dX9_call_220 : decode cX9_call 220 = .ok (.getfield 41, 3) := by decide +kernel
theorem dX9_call_223 : decode cX9_call 223 = .ok (.iload 4, 2) := by decide +kernel
theorem dX9_call_225 : decode cX9_call 225 = .ok (.iaload, 1) := by decide +kernel
theorem dX9_call_226 : decode cX9_call 226 = .ok (.aload_n 0, 1) := by decide +kernel
theorem dX9_call_227 : decode cX9_call 227 = .ok (.getfield 44, 3) := by decide +kernel
theorem dX9_call_230 : decode cX9_call 230 = .ok (.iload 4, 2) := by decide +kernel
theorem dX9_call_232 : decode cX9_call 232 = .ok (.iaload, 1) := by decide +kernel
theorem dX9_call_233 : decode cX9_call 233 = .ok (.invokevirtual 162, 3) := by decide +kernel
theorem dX9_call_236 : decode cX9_call 236 = .ok (.ifCond .ne 6, 3) := by decide +kernel
theorem dX9_call_239 : decode cX9_call 239 = .ok (.bipush (-6), 2) := by decide +kernel
theorem dX9_call_241 : decode cX9_call 241 = .ok (.ireturn, 1) := by decide +kernel
theorem dX9_call_242 : decode cX9_call 242 = .ok (.iload 4, 2) := by decide +kernel
theorem dX9_call_244 : decode cX9_call 244 = .ok (.ifCond .ne 20, 3) := by decide +kernel
theorem dX9_call_247 : decode cX9_call 247 = .ok (.aload_n 0, 1) := by decide +kernel
theorem dX9_call_248 : decode cX9_call 248 = .ok (.getfield 32, 3) := by decide +kernel
theorem dX9_call_251 : decode cX9_call 251 = .ok (.aload_n 0, 1) := by decide +kernel
theorem dX9_call_252 : decode cX9_call 252 = .ok (.getfield 38, 3) := by decide +kernel
theorem dX9_call_255 : decode cX9_call 255 = .ok (.iconst 0, 1) := by decide +kernel
theorem dX9_call_256 : decode cX9_call 256 = .ok (.iaload, 1) := by decide +kernel
theorem dX9_call_257 : decode cX9_call 257 = .ok (.iconst 1, 1) := by decide +kernel
theorem dX9_call_258 : decode cX9_call 258 = .ok (.isub, 1) := by decide +kernel
theorem dX9_call_259 : decode cX9_call 259 = .ok (.aload_n 0, 1) := by decide +kernel
theorem dX9_call_260 : decode cX9_call 260 = .ok (.getfield 47, 3) := by decide +kernel
theorem dX9_call_263 : decode cX9_call 263 = .ok (.iastore, 1) := by decide +kernel
theorem dX9_call_264 : decode cX9_call 264 = .ok (.goto (-224), 3) := by decide +kernel
theorem dX9_call_267 : decode cX9_call 267 = .ok (.aload_n 0, 1) := by decide +kernel
theorem dX9_call_268 : decode cX9_call 268 = .ok (.getfield 47, 3) := by decide +kernel
theorem dX9_call_271 : decode cX9_call 271 = .ok (.ireturn, 1) := by decide +kernel
theorem dX9_length_0 : decode cX9_length 0 = .ok (.aload_n 0, 1) := by decide +kernel
theorem dX9_length_1 : decode cX9_length 1 = .ok (.iload_n 1, 1) := by decide +kernel
theorem dX9_length_2 : decode cX9_length 2 = .ok (.invokevirtual 165, 3) := by decide +kernel
theorem dX9_length_5 : decode cX9_length 5 = .ok (.ifCond .eq 11, 3) := by decide +kernel
theorem dX9_length_8 : decode cX9_length 8 = .ok (.aload_n 0, 1) := by decide +kernel
theorem dX9_length_9 : decode cX9_length 9 = .ok (.iload_n 1, 1) := by decide +kernel
theorem dX9_length_10 : decode cX9_length 10 = .ok (.invokevirtual 168, 3) := by decide +kernel
theorem dX9_length_13 : decode cX9_length 13 = .ok (.goto 4, 3) := by decide +kernel
theorem dX9_length_16 : decode cX9_length 16 = .ok (.iconst (-1), 1) := by decide +kernel
theorem dX9_length_17 : decode cX9_length 17 = .ok (.ireturn, 1) := by decide +kernel
theorem dX9_colour_0 : decode cX9_colour 0 = .ok (.aload_n 0, 1) := by decide +kernel
theorem dX9_colour_1 : decode cX9_colour 1 = .ok (.iload_n 1, 1) := by decide +kernel
theorem dX9_colour_2 : decode cX9_colour 2 = .ok (.invokevirtual 165, 3) := by decide +kernel
theorem dX9_colour_5 : decode cX9_colour 5 = .ok (.ifCond .ne 5, 3) := by decide +kernel
theorem dX9_colour_8 : decode cX9_colour 8 = .ok (.iconst (-1), 1) := by decide +kernel
theorem dX9_colour_9 : decode cX9_colour 9 = .ok (.ireturn, 1) := by decide +kernel
theorem dX9_colour_10 : decode cX9_colour 10 = .ok (.aload_n 0, 1) := by decide +kernel
theorem dX9_colour_11 : decode cX9_colour 11 = .ok (.iload_n 1, 1) := by decide +kernel
theorem dX9_colour_12 : decode cX9_colour 12 = .ok (.invokevirtual 168, 3) := by decide +kernel
theorem dX9_colour_15 : decode cX9_colour 15 = .ok (.istore_n 3, 1) := by decide +kernel
theorem dX9_colour_16 : decode cX9_colour 16 = .ok (.iload_n 3, 1) := by decide +kernel
theorem dX9_colour_17 : decode cX9_colour 17 = .ok (.ifCond .ge 8, 3) := by decide +kernel
theorem dX9_colour_20 : decode cX9_colour 20 = .ok (.bipush (-6), 2) := by decide +kernel
theorem dX9_colour_22 : decode cX9_colour 22 = .ok (.goto 26, 3) := by decide +kernel
theorem dX9_colour_25 : decode cX9_colour 25 = .ok (.aload_n 0, 1) := by decide +kernel
theorem dX9_colour_26 : decode cX9_colour 26 = .ok (.iload_n 2, 1) := by decide +kernel
theorem dX9_colour_27 : decode cX9_colour 27 = .ok (.iconst 0, 1) := by decide +kernel
theorem dX9_colour_28 : decode cX9_colour 28 = .ok (.iload_n 3, 1) := by decide +kernel
theorem dX9_colour_29 : decode cX9_colour 29 = .ok (.iconst 1, 1) := by decide +kernel
theorem dX9_colour_30 : decode cX9_colour 30 = .ok (.isub, 1) := by decide +kernel
theorem dX9_colour_31 : decode cX9_colour 31 = .ok (.invokevirtual 137, 3) := by decide +kernel
theorem dX9_colour_34 : decode cX9_colour 34 = .ok (.ifCond .eq 12, 3) := by decide +kernel
theorem dX9_colour_37 : decode cX9_colour 37 = .ok (.aload_n 0, 1) := by decide +kernel
theorem dX9_colour_38 : decode cX9_colour 38 = .ok (.getfield 29, 3) := by decide +kernel
theorem dX9_colour_41 : decode cX9_colour 41 = .ok (.iload_n 2, 1) := by decide +kernel
theorem dX9_colour_42 : decode cX9_colour 42 = .ok (.iaload, 1) := by decide +kernel
theorem dX9_colour_43 : decode cX9_colour 43 = .ok (.goto 5, 3) := by decide +kernel
theorem dX9_colour_46 : decode cX9_colour 46 = .ok (.bipush (-4), 2) := by decide +kernel
theorem dX9_colour_48 : decode cX9_colour 48 = .ok (.ireturn, 1) := by decide +kernel
theorem dX9_closes_0 : decode cX9_closes 0 = .ok (.aload_n 0, 1) := by decide +kernel
theorem dX9_closes_1 : decode cX9_closes 1 = .ok (.iload_n 1, 1) := by decide +kernel
theorem dX9_closes_2 : decode cX9_closes 2 = .ok (.invokevirtual 165, 3) := by decide +kernel
theorem dX9_closes_5 : decode cX9_closes 5 = .ok (.ifCond .ne 5, 3) := by decide +kernel
theorem dX9_closes_8 : decode cX9_closes 8 = .ok (.iconst (-1), 1) := by decide +kernel
theorem dX9_closes_9 : decode cX9_closes 9 = .ok (.ireturn, 1) := by decide +kernel
theorem dX9_closes_10 : decode cX9_closes 10 = .ok (.aload_n 0, 1) := by decide +kernel
theorem dX9_closes_11 : decode cX9_closes 11 = .ok (.iload_n 1, 1) := by decide +kernel
theorem dX9_closes_12 : decode cX9_closes 12 = .ok (.invokevirtual 168, 3) := by decide +kernel
theorem dX9_closes_15 : decode cX9_closes 15 = .ok (.istore_n 2, 1) := by decide +kernel
theorem dX9_closes_16 : decode cX9_closes 16 = .ok (.iload_n 2, 1) := by decide +kernel
theorem dX9_closes_17 : decode cX9_closes 17 = .ok (.ifCond .ge 8, 3) := by decide +kernel
theorem dX9_closes_20 : decode cX9_closes 20 = .ok (.bipush (-6), 2) := by decide +kernel
theorem dX9_closes_22 : decode cX9_closes 22 = .ok (.goto 16, 3) := by decide +kernel
theorem dX9_closes_25 : decode cX9_closes 25 = .ok (.iload_n 2, 1) := by decide +kernel
theorem dX9_closes_26 : decode cX9_closes 26 = .ok (.aload_n 0, 1) := by decide +kernel
theorem dX9_closes_27 : decode cX9_closes 27 = .ok (.getfield 134, 3) := by decide +kernel
theorem dX9_closes_30 : decode cX9_closes 30 = .ok (.if_icmp .ne 7, 3) := by decide +kernel
theorem dX9_closes_33 : decode cX9_closes 33 = .ok (.iconst 1, 1) := by decide +kernel
theorem dX9_closes_34 : decode cX9_closes 34 = .ok (.goto 4, 3) := by decide +kernel
theorem dX9_closes_37 : decode cX9_closes 37 = .ok (.iconst 0, 1) := by decide +kernel
theorem dX9_closes_38 : decode cX9_closes 38 = .ok (.ireturn, 1) := by decide +kernel
theorem dX9_findMend_0 : decode cX9_findMend 0 = .ok (.aload_n 0, 1) := by decide +kernel
theorem dX9_findMend_1 : decode cX9_findMend 1 = .ok (.iload_n 1, 1) := by decide +kernel
theorem dX9_findMend_2 : decode cX9_findMend 2 = .ok (.invokevirtual 165, 3) := by decide +kernel
theorem dX9_findMend_5 : decode cX9_findMend 5 = .ok (.ifCond .ne 5, 3) := by decide +kernel
theorem dX9_findMend_8 : decode cX9_findMend 8 = .ok (.iconst (-1), 1) := by decide +kernel
theorem dX9_findMend_9 : decode cX9_findMend 9 = .ok (.ireturn, 1) := by decide +kernel
theorem dX9_findMend_10 : decode cX9_findMend 10 = .ok (.aload_n 0, 1) := by decide +kernel
theorem dX9_findMend_11 : decode cX9_findMend 11 = .ok (.iload_n 1, 1) := by decide +kernel
theorem dX9_findMend_12 : decode cX9_findMend 12 = .ok (.invokevirtual 168, 3) := by decide +kernel
theorem dX9_findMend_15 : decode cX9_findMend 15 = .ok (.istore_n 2, 1) := by decide +kernel
theorem dX9_findMend_16 : decode cX9_findMend 16 = .ok (.iload_n 2, 1) := by decide +kernel
theorem dX9_findMend_17 : decode cX9_findMend 17 = .ok (.ifCond .ge 6, 3) := by decide +kernel
theorem dX9_findMend_20 : decode cX9_findMend 20 = .ok (.bipush (-6), 2) := by decide +kernel
theorem dX9_findMend_22 : decode cX9_findMend 22 = .ok (.ireturn, 1) := by decide +kernel
theorem dX9_findMend_23 : decode cX9_findMend 23 = .ok (.iload_n 2, 1) := by decide +kernel
theorem dX9_findMend_24 : decode cX9_findMend 24 = .ok (.aload_n 0, 1) := by decide +kernel
theorem dX9_findMend_25 : decode cX9_findMend 25 = .ok (.getfield 134, 3) := by decide +kernel
theorem dX9_findMend_28 : decode cX9_findMend 28 = .ok (.if_icmp .ne 6, 3) := by decide +kernel
theorem dX9_findMend_31 : decode cX9_findMend 31 = .ok (.bipush (-4), 2) := by decide +kernel
theorem dX9_findMend_33 : decode cX9_findMend 33 = .ok (.ireturn, 1) := by decide +kernel
theorem dX9_findMend_34 : decode cX9_findMend 34 = .ok (.bipush 41, 2) := by decide +kernel
theorem dX9_findMend_36 : decode cX9_findMend 36 = .ok (.istore_n 3, 1) := by decide +kernel
theorem dX9_findMend_37 : decode cX9_findMend 37 = .ok (.iconst 0, 1) := by decide +kernel
theorem dX9_findMend_38 : decode cX9_findMend 38 = .ok (.istore 4, 2) := by decide +kernel
theorem dX9_findMend_40 : decode cX9_findMend 40 = .ok (.iload 4, 2) := by decide +kernel
theorem dX9_findMend_42 : decode cX9_findMend 42 = .ok (.aload_n 0, 1) := by decide +kernel
theorem dX9_findMend_43 : decode cX9_findMend 43 = .ok (.getfield 16, 3) := by decide +kernel
theorem dX9_findMend_46 : decode cX9_findMend 46 = .ok (.iload_n 1, 1) := by decide +kernel
theorem dX9_findMend_47 : decode cX9_findMend 47 = .ok (.iaload, 1) := by decide +kernel
theorem dX9_findMend_48 : decode cX9_findMend 48 = .ok (.if_icmp .ge 132, 3) := by decide +kernel
theorem dX9_findMend_51 : decode cX9_findMend 51 = .ok (.bipush 12, 2) := by decide +kernel
theorem dX9_findMend_53 : decode cX9_findMend 53 = .ok (.iload_n 1, 1) := by decide +kernel
theorem dX9_findMend_54 : decode cX9_findMend 54 = .ok (.imul, 1) := by decide +kernel
theorem dX9_findMend_55 : decode cX9_findMend 55 = .ok (.iload 4, 2) := by decide +kernel
theorem dX9_findMend_57 : decode cX9_findMend 57 = .ok (.iadd, 1) := by decide +kernel
theorem dX9_findMend_58 : decode cX9_findMend 58 = .ok (.istore 5, 2) := by decide +kernel
theorem dX9_findMend_60 : decode cX9_findMend 60 = .ok (.aload_n 0, 1) := by decide +kernel
theorem dX9_findMend_61 : decode cX9_findMend 61 = .ok (.getfield 20, 3) := by decide +kernel
theorem dX9_findMend_64 : decode cX9_findMend 64 = .ok (.iload 5, 2) := by decide +kernel
theorem dX9_findMend_66 : decode cX9_findMend 66 = .ok (.iaload, 1) := by decide +kernel
theorem dX9_findMend_67 : decode cX9_findMend 67 = .ok (.ifCond .eq 6, 3) := by decide +kernel
theorem dX9_findMend_70 : decode cX9_findMend 70 = .ok (.goto 104, 3) := by decide +kernel
theorem dX9_findMend_73 : decode cX9_findMend 73 = .ok (.aload_n 0, 1) := by decide +kernel
theorem dX9_findMend_74 : decode cX9_findMend 74 = .ok (.getfield 23, 3) := by decide +kernel
theorem dX9_findMend_77 : decode cX9_findMend 77 = .ok (.iload 5, 2) := by decide +kernel
theorem dX9_findMend_79 : decode cX9_findMend 79 = .ok (.iaload, 1) := by decide +kernel
theorem dX9_findMend_80 : decode cX9_findMend 80 = .ok (.istore 6, 2) := by decide +kernel
theorem dX9_findMend_82 : decode cX9_findMend 82 = .ok (.iconst 1, 1) := by decide +kernel
theorem dX9_findMend_83 : decode cX9_findMend 83 = .ok (.istore 7, 2) := by decide +kernel
theorem dX9_findMend_85 : decode cX9_findMend 85 = .ok (.iload 7, 2) := by decide +kernel
theorem dX9_findMend_87 : decode cX9_findMend 87 = .ok (.bipush 41, 2) := by decide +kernel
theorem dX9_findMend_89 : decode cX9_findMend 89 = .ok (.if_icmp .ge 76, 3) := by decide +kernel
theorem dX9_findMend_92 : decode cX9_findMend 92 = .ok (.iload 7, 2) := by decide +kernel
theorem dX9_findMend_94 : decode cX9_findMend 94 = .ok (.iload 6, 2) := by decide +kernel
theorem dX9_findMend_96 : decode cX9_findMend 96 = .ok (.if_icmp .ge 11, 3) := by decide +kernel
theorem dX9_findMend_99 : decode cX9_findMend 99 = .ok (.iload 6, 2) := by decide +kernel
theorem dX9_findMend_101 : decode cX9_findMend 101 = .ok (.iload 7, 2) := by decide +kernel
theorem dX9_findMend_103 : decode cX9_findMend 103 = .ok (.isub, 1) := by decide +kernel
theorem dX9_findMend_104 : decode cX9_findMend 104 = .ok (.goto 8, 3) := by decide +kernel
theorem dX9_findMend_107 : decode cX9_findMend 107 = .ok (.iload 7, 2) := by decide +kernel
theorem dX9_findMend_109 : decode cX9_findMend 109 = .ok (.iload 6, 2) := by decide +kernel
theorem dX9_findMend_111 : decode cX9_findMend 111 = .ok (.isub, 1) := by decide +kernel
theorem dX9_findMend_112 : decode cX9_findMend 112 = .ok (.istore 8, 2) := by decide +kernel
theorem dX9_findMend_114 : decode cX9_findMend 114 = .ok (.iload 8, 2) := by decide +kernel
theorem dX9_findMend_116 : decode cX9_findMend 116 = .ok (.iload_n 3, 1) := by decide +kernel
theorem dX9_findMend_117 : decode cX9_findMend 117 = .ok (.if_icmp .lt 6, 3) := by decide +kernel
theorem dX9_findMend_120 : decode cX9_findMend 120 = .ok (.goto 39, 3) := by decide +kernel
theorem dX9_findMend_123 : decode cX9_findMend 123 = .ok (.aload_n 0, 1) := by decide +kernel
theorem dX9_findMend_124 : decode cX9_findMend 124 = .ok (.getfield 23, 3) := by decide +kernel
theorem dX9_findMend_127 : decode cX9_findMend 127 = .ok (.iload 5, 2) := by decide +kernel
theorem dX9_findMend_129 : decode cX9_findMend 129 = .ok (.iload 7, 2) := by decide +kernel
theorem dX9_findMend_131 : decode cX9_findMend 131 = .ok (.iastore, 1) := by decide +kernel
theorem dX9_findMend_132 : decode cX9_findMend 132 = .ok (.aload_n 0, 1) := by decide +kernel
theorem dX9_findMend_133 : decode cX9_findMend 133 = .ok (.iload_n 1, 1) := by decide +kernel
theorem dX9_findMend_134 : decode cX9_findMend 134 = .ok (.invokevirtual 168, 3) := by decide +kernel
theorem dX9_findMend_137 : decode cX9_findMend 137 = .ok (.aload_n 0, 1) := by decide +kernel
theorem dX9_findMend_138 : decode cX9_findMend 138 = .ok (.getfield 134, 3) := by decide +kernel
theorem dX9_findMend_141 : decode cX9_findMend 141 = .ok (.if_icmp .ne 18, 3) := by decide +kernel
theorem dX9_findMend_144 : decode cX9_findMend 144 = .ok (.iload 8, 2) := by decide +kernel
theorem dX9_findMend_146 : decode cX9_findMend 146 = .ok (.istore_n 3, 1) := by decide +kernel
theorem dX9_findMend_147 : decode cX9_findMend 147 = .ok (.aload_n 0, 1) := by decide +kernel
theorem dX9_findMend_148 : decode cX9_findMend 148 = .ok (.iload 4, 2) := by decide +kernel
theorem dX9_findMend_150 : decode cX9_findMend 150 = .ok (.putfield 50, 3) := by decide +kernel
theorem dX9_findMend_153 : decode cX9_findMend 153 = .ok (.aload_n 0, 1) := by decide +kernel
theorem dX9_findMend_154 : decode cX9_findMend 154 = .ok (.iload 7, 2) := by decide +kernel
theorem dX9_findMend_156 : decode cX9_findMend 156 = .ok (.putfield 53, 3) := by decide +kernel
theorem dX9_findMend_159 : decode cX9_findMend 159 = .ok (.iinc 7 1, 3) := by decide +kernel
theorem dX9_findMend_162 : decode cX9_findMend 162 = .ok (.goto (-77), 3) := by decide +kernel
theorem dX9_findMend_165 : decode cX9_findMend 165 = .ok (.aload_n 0, 1) := by decide +kernel
theorem dX9_findMend_166 : decode cX9_findMend 166 = .ok (.getfield 23, 3) := by decide +kernel
theorem dX9_findMend_169 : decode cX9_findMend 169 = .ok (.iload 5, 2) := by decide +kernel
theorem dX9_findMend_171 : decode cX9_findMend 171 = .ok (.iload 6, 2) := by decide +kernel
theorem dX9_findMend_173 : decode cX9_findMend 173 = .ok (.iastore, 1) := by decide +kernel
theorem dX9_findMend_174 : decode cX9_findMend 174 = .ok (.iinc 4 1, 3) := by decide +kernel
theorem dX9_findMend_177 : decode cX9_findMend 177 = .ok (.goto (-137), 3) := by decide +kernel
theorem dX9_findMend_180 : decode cX9_findMend 180 = .ok (.iload_n 3, 1) := by decide +kernel
theorem dX9_findMend_181 : decode cX9_findMend 181 = .ok (.bipush 41, 2) := by decide +kernel
theorem dX9_findMend_183 : decode cX9_findMend 183 = .ok (.if_icmp .ge 7, 3) := by decide +kernel
theorem dX9_findMend_186 : decode cX9_findMend 186 = .ok (.iconst 0, 1) := by decide +kernel
theorem dX9_findMend_187 : decode cX9_findMend 187 = .ok (.goto 5, 3) := by decide +kernel
theorem dX9_findMend_190 : decode cX9_findMend 190 = .ok (.bipush (-4), 2) := by decide +kernel
theorem dX9_findMend_192 : decode cX9_findMend 192 = .ok (.ireturn, 1) := by decide +kernel
theorem dX9_mend_0 : decode cX9_mend 0 = .ok (.aload_n 0, 1) := by decide +kernel
theorem dX9_mend_1 : decode cX9_mend 1 = .ok (.iload_n 2, 1) := by decide +kernel
theorem dX9_mend_2 : decode cX9_mend 2 = .ok (.iconst 0, 1) := by decide +kernel
theorem dX9_mend_3 : decode cX9_mend 3 = .ok (.iconst 1, 1) := by decide +kernel
theorem dX9_mend_4 : decode cX9_mend 4 = .ok (.invokevirtual 137, 3) := by decide +kernel
theorem dX9_mend_7 : decode cX9_mend 7 = .ok (.ifCond .ne 5, 3) := by decide +kernel
theorem dX9_mend_10 : decode cX9_mend 10 = .ok (.iconst (-1), 1) := by decide +kernel
theorem dX9_mend_11 : decode cX9_mend 11 = .ok (.ireturn, 1) := by decide +kernel
theorem dX9_mend_12 : decode cX9_mend 12 = .ok (.aload_n 0, 1) := by decide +kernel
theorem dX9_mend_13 : decode cX9_mend 13 = .ok (.iload_n 1, 1) := by decide +kernel
theorem dX9_mend_14 : decode cX9_mend 14 = .ok (.invokevirtual 172, 3) := by decide +kernel
theorem dX9_mend_17 : decode cX9_mend 17 = .ok (.istore_n 3, 1) := by decide +kernel
theorem dX9_mend_18 : decode cX9_mend 18 = .ok (.iload_n 3, 1) := by decide +kernel
theorem dX9_mend_19 : decode cX9_mend 19 = .ok (.ifCond .eq 7, 3) := by decide +kernel
theorem dX9_mend_22 : decode cX9_mend 22 = .ok (.iload_n 3, 1) := by decide +kernel
theorem dX9_mend_23 : decode cX9_mend 23 = .ok (.goto 18, 3) := by decide +kernel
theorem dX9_mend_26 : decode cX9_mend 26 = .ok (.iload_n 2, 1) := by decide +kernel
theorem dX9_mend_27 : decode cX9_mend 27 = .ok (.ifCond .ne 10, 3) := by decide +kernel
theorem dX9_mend_30 : decode cX9_mend 30 = .ok (.aload_n 0, 1) := by decide +kernel
theorem dX9_mend_31 : decode cX9_mend 31 = .ok (.getfield 50, 3) := by decide +kernel
theorem dX9_mend_34 : decode cX9_mend 34 = .ok (.goto 7, 3) := by decide +kernel
theorem dX9_mend_37 : decode cX9_mend 37 = .ok (.aload_n 0, 1) := by decide +kernel
theorem dX9_mend_38 : decode cX9_mend 38 = .ok (.getfield 53, 3) := by decide +kernel
theorem dX9_mend_41 : decode cX9_mend 41 = .ok (.ireturn, 1) := by decide +kernel
theorem dX9_mended_0 : decode cX9_mended 0 = .ok (.aload_n 0, 1) := by decide +kernel
theorem dX9_mended_1 : decode cX9_mended 1 = .ok (.iload_n 1, 1) := by decide +kernel
theorem dX9_mended_2 : decode cX9_mended 2 = .ok (.invokevirtual 172, 3) := by decide +kernel
theorem dX9_mended_5 : decode cX9_mended 5 = .ok (.istore_n 2, 1) := by decide +kernel
theorem dX9_mended_6 : decode cX9_mended 6 = .ok (.iload_n 2, 1) := by decide +kernel
theorem dX9_mended_7 : decode cX9_mended 7 = .ok (.ifCond .eq 5, 3) := by decide +kernel
theorem dX9_mended_10 : decode cX9_mended 10 = .ok (.iload_n 2, 1) := by decide +kernel
theorem dX9_mended_11 : decode cX9_mended 11 = .ok (.ireturn, 1) := by decide +kernel
theorem dX9_mended_12 : decode cX9_mended 12 = .ok (.aload_n 0, 1) := by decide +kernel
theorem dX9_mended_13 : decode cX9_mended 13 = .ok (.getfield 23, 3) := by decide +kernel
theorem dX9_mended_16 : decode cX9_mended 16 = .ok (.bipush 12, 2) := by decide +kernel
theorem dX9_mended_18 : decode cX9_mended 18 = .ok (.iload_n 1, 1) := by decide +kernel
theorem dX9_mended_19 : decode cX9_mended 19 = .ok (.imul, 1) := by decide +kernel
theorem dX9_mended_20 : decode cX9_mended 20 = .ok (.aload_n 0, 1) := by decide +kernel
theorem dX9_mended_21 : decode cX9_mended 21 = .ok (.getfield 50, 3) := by decide +kernel
theorem dX9_mended_24 : decode cX9_mended 24 = .ok (.iadd, 1) := by decide +kernel
theorem dX9_mended_25 : decode cX9_mended 25 = .ok (.aload_n 0, 1) := by decide +kernel
theorem dX9_mended_26 : decode cX9_mended 26 = .ok (.getfield 53, 3) := by decide +kernel
theorem dX9_mended_29 : decode cX9_mended 29 = .ok (.iastore, 1) := by decide +kernel
theorem dX9_mended_30 : decode cX9_mended 30 = .ok (.aload_n 0, 1) := by decide +kernel
theorem dX9_mended_31 : decode cX9_mended 31 = .ok (.iload_n 1, 1) := by decide +kernel
theorem dX9_mended_32 : decode cX9_mended 32 = .ok (.invokevirtual 168, 3) := by decide +kernel
theorem dX9_mended_35 : decode cX9_mended 35 = .ok (.ireturn, 1) := by decide +kernel
theorem dX9_told_0 : decode cX9_told 0 = .ok (.aload_n 0, 1) := by decide +kernel
theorem dX9_told_1 : decode cX9_told 1 = .ok (.iload_n 1, 1) := by decide +kernel
theorem dX9_told_2 : decode cX9_told 2 = .ok (.invokevirtual 165, 3) := by decide +kernel
theorem dX9_told_5 : decode cX9_told 5 = .ok (.ifCond .eq 30, 3) := by decide +kernel
theorem dX9_told_8 : decode cX9_told 8 = .ok (.aload_n 0, 1) := by decide +kernel
theorem dX9_told_9 : decode cX9_told 9 = .ok (.iload_n 2, 1) := by decide +kernel
theorem dX9_told_10 : decode cX9_told 10 = .ok (.iconst 0, 1) := by decide +kernel
theorem dX9_told_11 : decode cX9_told 11 = .ok (.aload_n 0, 1) := by decide +kernel
theorem dX9_told_12 : decode cX9_told 12 = .ok (.getfield 16, 3) := by decide +kernel
theorem dX9_told_15 : decode cX9_told 15 = .ok (.iload_n 1, 1) := by decide +kernel
theorem dX9_told_16 : decode cX9_told 16 = .ok (.iaload, 1) := by decide +kernel
theorem dX9_told_17 : decode cX9_told 17 = .ok (.iconst 1, 1) := by decide +kernel
theorem dX9_told_18 : decode cX9_told 18 = .ok (.isub, 1) := by decide +kernel
theorem dX9_told_19 : decode cX9_told 19 = .ok (.invokevirtual 137, 3) := by decide +kernel
theorem dX9_told_22 : decode cX9_told 22 = .ok (.ifCond .eq 13, 3) := by decide +kernel
theorem dX9_told_25 : decode cX9_told 25 = .ok (.aload_n 0, 1) := by decide +kernel
theorem dX9_told_26 : decode cX9_told 26 = .ok (.iload_n 3, 1) := by decide +kernel
theorem dX9_told_27 : decode cX9_told 27 = .ok (.iconst 0, 1) := by decide +kernel
theorem dX9_told_28 : decode cX9_told 28 = .ok (.iconst 3, 1) := by decide +kernel
theorem dX9_told_29 : decode cX9_told 29 = .ok (.invokevirtual 137, 3) := by decide +kernel
theorem dX9_told_32 : decode cX9_told 32 = .ok (.ifCond .ne 5, 3) := by decide +kernel
theorem dX9_told_35 : decode cX9_told 35 = .ok (.iconst (-1), 1) := by decide +kernel
theorem dX9_told_36 : decode cX9_told 36 = .ok (.ireturn, 1) := by decide +kernel
theorem dX9_told_37 : decode cX9_told 37 = .ok (.bipush 12, 2) := by decide +kernel
theorem dX9_told_39 : decode cX9_told 39 = .ok (.iload_n 1, 1) := by decide +kernel
theorem dX9_told_40 : decode cX9_told 40 = .ok (.imul, 1) := by decide +kernel
theorem dX9_told_41 : decode cX9_told 41 = .ok (.iload_n 2, 1) := by decide +kernel
theorem dX9_told_42 : decode cX9_told 42 = .ok (.iadd, 1) := by decide +kernel
theorem dX9_told_43 : decode cX9_told 43 = .ok (.istore 4, 2) := by decide +kernel
theorem dX9_told_45 : decode cX9_told 45 = .ok (.aload_n 0, 1) := by decide +kernel
theorem dX9_told_46 : decode cX9_told 46 = .ok (.getfield 20, 3) := by decide +kernel
theorem dX9_told_49 : decode cX9_told 49 = .ok (.iload 4, 2) := by decide +kernel
theorem dX9_told_51 : decode cX9_told 51 = .ok (.iaload, 1) := by decide +kernel
theorem dX9_told_52 : decode cX9_told 52 = .ok (.istore 5, 2) := by decide +kernel
theorem dX9_told_54 : decode cX9_told 54 = .ok (.iload_n 3, 1) := by decide +kernel
theorem dX9_told_55 : decode cX9_told 55 = .ok (.iconst 3, 1) := by decide +kernel
theorem dX9_told_56 : decode cX9_told 56 = .ok (.if_icmp .ne 23, 3) := by decide +kernel
theorem dX9_told_59 : decode cX9_told 59 = .ok (.aload_n 0, 1) := by decide +kernel
theorem dX9_told_60 : decode cX9_told 60 = .ok (.iload_n 1, 1) := by decide +kernel
theorem dX9_told_61 : decode cX9_told 61 = .ok (.invokevirtual 168, 3) := by decide +kernel
theorem dX9_told_64 : decode cX9_told 64 = .ok (.ifCond .ge 8, 3) := by decide +kernel
theorem dX9_told_67 : decode cX9_told 67 = .ok (.bipush (-6), 2) := by decide +kernel
theorem dX9_told_69 : decode cX9_told 69 = .ok (.goto 9, 3) := by decide +kernel
theorem dX9_told_72 : decode cX9_told 72 = .ok (.aload_n 0, 1) := by decide +kernel
theorem dX9_told_73 : decode cX9_told 73 = .ok (.getfield 32, 3) := by decide +kernel
theorem dX9_told_76 : decode cX9_told 76 = .ok (.iload_n 2, 1) := by decide +kernel
theorem dX9_told_77 : decode cX9_told 77 = .ok (.iaload, 1) := by decide +kernel
theorem dX9_told_78 : decode cX9_told 78 = .ok (.ireturn, 1) := by decide +kernel
theorem dX9_told_79 : decode cX9_told 79 = .ok (.iload_n 3, 1) := by decide +kernel
theorem dX9_told_80 : decode cX9_told 80 = .ok (.ifCond .ne 8, 3) := by decide +kernel
theorem dX9_told_83 : decode cX9_told 83 = .ok (.iload 5, 2) := by decide +kernel
theorem dX9_told_85 : decode cX9_told 85 = .ok (.goto 53, 3) := by decide +kernel
theorem dX9_told_88 : decode cX9_told 88 = .ok (.iload_n 3, 1) := by decide +kernel
theorem dX9_told_89 : decode cX9_told 89 = .ok (.iconst 1, 1) := by decide +kernel
theorem dX9_told_90 : decode cX9_told 90 = .ok (.if_icmp .ne 27, 3) := by decide +kernel
theorem dX9_told_93 : decode cX9_told 93 = .ok (.aload_n 0, 1) := by decide +kernel
theorem dX9_told_94 : decode cX9_told 94 = .ok (.iload 5, 2) := by decide +kernel
theorem dX9_told_96 : decode cX9_told 96 = .ok (.invokevirtual 148, 3) := by decide +kernel
theorem dX9_told_99 : decode cX9_told 99 = .ok (.ifCond .eq 13, 3) := by decide +kernel
theorem dX9_told_102 : decode cX9_told 102 = .ok (.aload_n 0, 1) := by decide +kernel
theorem dX9_told_103 : decode cX9_told 103 = .ok (.getfield 23, 3) := by decide +kernel
theorem dX9_told_106 : decode cX9_told 106 = .ok (.iload 4, 2) := by decide +kernel
theorem dX9_told_108 : decode cX9_told 108 = .ok (.iaload, 1) := by decide +kernel
theorem dX9_told_109 : decode cX9_told 109 = .ok (.goto 29, 3) := by decide +kernel
theorem dX9_told_112 : decode cX9_told 112 = .ok (.bipush (-2), 2) := by decide +kernel
theorem dX9_told_114 : decode cX9_told 114 = .ok (.goto 24, 3) := by decide +kernel
theorem dX9_told_117 : decode cX9_told 117 = .ok (.aload_n 0, 1) := by decide +kernel
theorem dX9_told_118 : decode cX9_told 118 = .ok (.iload 5, 2) := by decide +kernel
theorem dX9_told_120 : decode cX9_told 120 = .ok (.invokevirtual 141, 3) := by decide +kernel
theorem dX9_told_123 : decode cX9_told 123 = .ok (.ifCond .eq 13, 3) := by decide +kernel
theorem dX9_told_126 : decode cX9_told 126 = .ok (.aload_n 0, 1) := by decide +kernel
theorem dX9_told_127 : decode cX9_told 127 = .ok (.getfield 26, 3) := by decide +kernel
theorem dX9_told_130 : decode cX9_told 130 = .ok (.iload 4, 2) := by decide +kernel
theorem dX9_told_132 : decode cX9_told 132 = .ok (.iaload, 1) := by decide +kernel
theorem dX9_told_133 : decode cX9_told 133 = .ok (.goto 5, 3) := by decide +kernel
theorem dX9_told_136 : decode cX9_told 136 = .ok (.bipush (-2), 2) := by decide +kernel
theorem dX9_told_138 : decode cX9_told 138 = .ok (.ireturn, 1) := by decide +kernel
theorem dX9_hand_0 : decode cX9_hand 0 = .ok (.aload_n 0, 1) := by decide +kernel
theorem dX9_hand_1 : decode cX9_hand 1 = .ok (.iload_n 1, 1) := by decide +kernel
theorem dX9_hand_2 : decode cX9_hand 2 = .ok (.iconst 0, 1) := by decide +kernel
theorem dX9_hand_3 : decode cX9_hand 3 = .ok (.iconst 5, 1) := by decide +kernel
theorem dX9_hand_4 : decode cX9_hand 4 = .ok (.invokevirtual 137, 3) := by decide +kernel
theorem dX9_hand_7 : decode cX9_hand 7 = .ok (.ifCond .eq 25, 3) := by decide +kernel
theorem dX9_hand_10 : decode cX9_hand 10 = .ok (.aload_n 0, 1) := by decide +kernel
theorem dX9_hand_11 : decode cX9_hand 11 = .ok (.iload_n 2, 1) := by decide +kernel
theorem dX9_hand_12 : decode cX9_hand 12 = .ok (.iconst 1, 1) := by decide +kernel
theorem dX9_hand_13 : decode cX9_hand 13 = .ok (.bipush 40, 2) := by decide +kernel
theorem dX9_hand_15 : decode cX9_hand 15 = .ok (.invokevirtual 137, 3) := by decide +kernel
theorem dX9_hand_18 : decode cX9_hand 18 = .ok (.ifCond .eq 14, 3) := by decide +kernel
theorem dX9_hand_21 : decode cX9_hand 21 = .ok (.aload_n 0, 1) := by decide +kernel
theorem dX9_hand_22 : decode cX9_hand 22 = .ok (.iload_n 3, 1) := by decide +kernel
theorem dX9_hand_23 : decode cX9_hand 23 = .ok (.iconst 1, 1) := by decide +kernel
theorem dX9_hand_24 : decode cX9_hand 24 = .ok (.bipush 20, 2) := by decide +kernel
theorem dX9_hand_26 : decode cX9_hand 26 = .ok (.invokevirtual 137, 3) := by decide +kernel
theorem dX9_hand_29 : decode cX9_hand 29 = .ok (.ifCond .ne 5, 3) := by decide +kernel
theorem dX9_hand_32 : decode cX9_hand 32 = .ok (.iconst (-1), 1) := by decide +kernel
theorem dX9_hand_33 : decode cX9_hand 33 = .ok (.ireturn, 1) := by decide +kernel
theorem dX9_hand_34 : decode cX9_hand 34 = .ok (.aload_n 0, 1) := by decide +kernel
theorem dX9_hand_35 : decode cX9_hand 35 = .ok (.getfield 71, 3) := by decide +kernel
theorem dX9_hand_38 : decode cX9_hand 38 = .ok (.ifCond .le 6, 3) := by decide +kernel
theorem dX9_hand_41 : decode cX9_hand 41 = .ok (.bipush (-3), 2) := by decide +kernel
theorem dX9_hand_43 : decode cX9_hand 43 = .ok (.ireturn, 1) := by decide +kernel
theorem dX9_hand_44 : decode cX9_hand 44 = .ok (.aload_n 0, 1) := by decide +kernel
theorem dX9_hand_45 : decode cX9_hand 45 = .ok (.getfield 56, 3) := by decide +kernel
theorem dX9_hand_48 : decode cX9_hand 48 = .ok (.iload_n 1, 1) := by decide +kernel
theorem dX9_hand_49 : decode cX9_hand 49 = .ok (.iaload, 1) := by decide +kernel
theorem dX9_hand_50 : decode cX9_hand 50 = .ok (.iload_n 2, 1) := by decide +kernel
theorem dX9_hand_51 : decode cX9_hand 51 = .ok (.if_icmp .ne 17, 3) := by decide +kernel
theorem dX9_hand_54 : decode cX9_hand 54 = .ok (.aload_n 0, 1) := by decide +kernel
theorem dX9_hand_55 : decode cX9_hand 55 = .ok (.getfield 59, 3) := by decide +kernel
theorem dX9_hand_58 : decode cX9_hand 58 = .ok (.iload_n 1, 1) := by decide +kernel
theorem dX9_hand_59 : decode cX9_hand 59 = .ok (.iaload, 1) := by decide +kernel
theorem dX9_hand_60 : decode cX9_hand 60 = .ok (.iload_n 3, 1) := by decide +kernel
theorem dX9_hand_61 : decode cX9_hand 61 = .ok (.if_icmp .ne 7, 3) := by decide +kernel
theorem dX9_hand_64 : decode cX9_hand 64 = .ok (.iconst 0, 1) := by decide +kernel
theorem dX9_hand_65 : decode cX9_hand 65 = .ok (.goto 4, 3) := by decide +kernel
theorem dX9_hand_68 : decode cX9_hand 68 = .ok (.iconst 1, 1) := by decide +kernel
theorem dX9_hand_69 : decode cX9_hand 69 = .ok (.istore 4, 2) := by decide +kernel
theorem dX9_hand_71 : decode cX9_hand 71 = .ok (.aload_n 0, 1) := by decide +kernel
theorem dX9_hand_72 : decode cX9_hand 72 = .ok (.getfield 56, 3) := by decide +kernel
theorem dX9_hand_75 : decode cX9_hand 75 = .ok (.iload_n 1, 1) := by decide +kernel
theorem dX9_hand_76 : decode cX9_hand 76 = .ok (.iload_n 2, 1) := by decide +kernel
theorem dX9_hand_77 : decode cX9_hand 77 = .ok (.iastore, 1) := by decide +kernel
theorem dX9_hand_78 : decode cX9_hand 78 = .ok (.aload_n 0, 1) := by decide +kernel
theorem dX9_hand_79 : decode cX9_hand 79 = .ok (.getfield 59, 3) := by decide +kernel
theorem dX9_hand_82 : decode cX9_hand 82 = .ok (.iload_n 1, 1) := by decide +kernel
theorem dX9_hand_83 : decode cX9_hand 83 = .ok (.iload_n 3, 1) := by decide +kernel
theorem dX9_hand_84 : decode cX9_hand 84 = .ok (.iastore, 1) := by decide +kernel
theorem dX9_hand_85 : decode cX9_hand 85 = .ok (.iload 4, 2) := by decide +kernel
theorem dX9_hand_87 : decode cX9_hand 87 = .ok (.ireturn, 1) := by decide +kernel
theorem dX9_dye_0 : decode cX9_dye 0 = .ok (.aload_n 0, 1) := by decide +kernel
theorem dX9_dye_1 : decode cX9_dye 1 = .ok (.iload_n 1, 1) := by decide +kernel
theorem dX9_dye_2 : decode cX9_dye 2 = .ok (.invokevirtual 145, 3) := by decide +kernel
theorem dX9_dye_5 : decode cX9_dye 5 = .ok (.ifCond .eq 26, 3) := by decide +kernel
theorem dX9_dye_8 : decode cX9_dye 8 = .ok (.aload_n 0, 1) := by decide +kernel
theorem dX9_dye_9 : decode cX9_dye 9 = .ok (.iload_n 2, 1) := by decide +kernel
theorem dX9_dye_10 : decode cX9_dye 10 = .ok (.iconst 0, 1) := by decide +kernel
theorem dX9_dye_11 : decode cX9_dye 11 = .ok (.bipush 9, 2) := by decide +kernel
theorem dX9_dye_13 : decode cX9_dye 13 = .ok (.invokevirtual 137, 3) := by decide +kernel
theorem dX9_dye_16 : decode cX9_dye 16 = .ok (.ifCond .eq 15, 3) := by decide +kernel
theorem dX9_dye_19 : decode cX9_dye 19 = .ok (.aload_n 0, 1) := by decide +kernel
theorem dX9_dye_20 : decode cX9_dye 20 = .ok (.iload_n 3, 1) := by decide +kernel
theorem dX9_dye_21 : decode cX9_dye 21 = .ok (.iconst 1, 1) := by decide +kernel
theorem dX9_dye_22 : decode cX9_dye 22 = .ok (.sipush 1000, 3) := by decide +kernel
theorem dX9_dye_25 : decode cX9_dye 25 = .ok (.invokevirtual 137, 3) := by decide +kernel
theorem dX9_dye_28 : decode cX9_dye 28 = .ok (.ifCond .ne 5, 3) := by decide +kernel
theorem dX9_dye_31 : decode cX9_dye 31 = .ok (.iconst (-1), 1) := by decide +kernel
theorem dX9_dye_32 : decode cX9_dye 32 = .ok (.ireturn, 1) := by decide +kernel
theorem dX9_dye_33 : decode cX9_dye 33 = .ok (.aload_n 0, 1) := by decide +kernel
theorem dX9_dye_34 : decode cX9_dye 34 = .ok (.getfield 62, 3) := by decide +kernel
theorem dX9_dye_37 : decode cX9_dye 37 = .ok (.iload_n 1, 1) := by decide +kernel
theorem dX9_dye_38 : decode cX9_dye 38 = .ok (.iaload, 1) := by decide +kernel
theorem dX9_dye_39 : decode cX9_dye 39 = .ok (.bipush 10, 2) := by decide +kernel
theorem dX9_dye_41 : decode cX9_dye 41 = .ok (.if_icmp .ne 6, 3) := by decide +kernel
theorem dX9_dye_44 : decode cX9_dye 44 = .ok (.bipush (-2), 2) := by decide +kernel
theorem dX9_dye_46 : decode cX9_dye 46 = .ok (.ireturn, 1) := by decide +kernel
theorem dX9_dye_47 : decode cX9_dye 47 = .ok (.aload_n 0, 1) := by decide +kernel
theorem dX9_dye_48 : decode cX9_dye 48 = .ok (.getfield 65, 3) := by decide +kernel
theorem dX9_dye_51 : decode cX9_dye 51 = .ok (.bipush 10, 2) := by decide +kernel
theorem dX9_dye_53 : decode cX9_dye 53 = .ok (.iload_n 1, 1) := by decide +kernel
theorem dX9_dye_54 : decode cX9_dye 54 = .ok (.imul, 1) := by decide +kernel
theorem dX9_dye_55 : decode cX9_dye 55 = .ok (.aload_n 0, 1) := by decide +kernel
theorem dX9_dye_56 : decode cX9_dye 56 = .ok (.getfield 62, 3) := by decide +kernel
theorem dX9_dye_59 : decode cX9_dye 59 = .ok (.iload_n 1, 1) := by decide +kernel
theorem dX9_dye_60 : decode cX9_dye 60 = .ok (.iaload, 1) := by decide +kernel
theorem dX9_dye_61 : decode cX9_dye 61 = .ok (.iadd, 1) := by decide +kernel
theorem dX9_dye_62 : decode cX9_dye 62 = .ok (.iload_n 2, 1) := by decide +kernel
theorem dX9_dye_63 : decode cX9_dye 63 = .ok (.iastore, 1) := by decide +kernel
theorem dX9_dye_64 : decode cX9_dye 64 = .ok (.aload_n 0, 1) := by decide +kernel
theorem dX9_dye_65 : decode cX9_dye 65 = .ok (.getfield 68, 3) := by decide +kernel
theorem dX9_dye_68 : decode cX9_dye 68 = .ok (.bipush 10, 2) := by decide +kernel
theorem dX9_dye_70 : decode cX9_dye 70 = .ok (.iload_n 1, 1) := by decide +kernel
theorem dX9_dye_71 : decode cX9_dye 71 = .ok (.imul, 1) := by decide +kernel
theorem dX9_dye_72 : decode cX9_dye 72 = .ok (.aload_n 0, 1) := by decide +kernel
theorem dX9_dye_73 : decode cX9_dye 73 = .ok (.getfield 62, 3) := by decide +kernel
theorem dX9_dye_76 : decode cX9_dye 76 = .ok (.iload_n 1, 1) := by decide +kernel
theorem dX9_dye_77 : decode cX9_dye 77 = .ok (.iaload, 1) := by decide +kernel
theorem dX9_dye_78 : decode cX9_dye 78 = .ok (.iadd, 1) := by decide +kernel
theorem dX9_dye_79 : decode cX9_dye 79 = .ok (.iload_n 3, 1) := by decide +kernel
theorem dX9_dye_80 : decode cX9_dye 80 = .ok (.iastore, 1) := by decide +kernel
theorem dX9_dye_81 : decode cX9_dye 81 = .ok (.aload_n 0, 1) := by decide +kernel
theorem dX9_dye_82 : decode cX9_dye 82 = .ok (.getfield 62, 3) := by decide +kernel
theorem dX9_dye_85 : decode cX9_dye 85 = .ok (.iload_n 1, 1) := by decide +kernel
theorem dX9_dye_86 : decode cX9_dye 86 = .ok (.dup2, 1) := by decide +kernel
theorem dX9_dye_87 : decode cX9_dye 87 = .ok (.iaload, 1) := by decide +kernel
theorem dX9_dye_88 : decode cX9_dye 88 = .ok (.iconst 1, 1) := by decide +kernel
theorem dX9_dye_89 : decode cX9_dye 89 = .ok (.iadd, 1) := by decide +kernel
theorem dX9_dye_90 : decode cX9_dye 90 = .ok (.iastore, 1) := by decide +kernel
theorem dX9_dye_91 : decode cX9_dye 91 = .ok (.aload_n 0, 1) := by decide +kernel
theorem dX9_dye_92 : decode cX9_dye 92 = .ok (.getfield 62, 3) := by decide +kernel
theorem dX9_dye_95 : decode cX9_dye 95 = .ok (.iload_n 1, 1) := by decide +kernel
theorem dX9_dye_96 : decode cX9_dye 96 = .ok (.iaload, 1) := by decide +kernel
theorem dX9_dye_97 : decode cX9_dye 97 = .ok (.ireturn, 1) := by decide +kernel
theorem dX9_handAt_0 : decode cX9_handAt 0 = .ok (.iconst 0, 1) := by decide +kernel
theorem dX9_handAt_1 : decode cX9_handAt 1 = .ok (.istore_n 2, 1) := by decide +kernel
theorem dX9_handAt_2 : decode cX9_handAt 2 = .ok (.aload_n 0, 1) := by decide +kernel
theorem dX9_handAt_3 : decode cX9_handAt 3 = .ok (.getfield 56, 3) := by decide +kernel
theorem dX9_handAt_6 : decode cX9_handAt 6 = .ok (.iconst 0, 1) := by decide +kernel
theorem dX9_handAt_7 : decode cX9_handAt 7 = .ok (.iaload, 1) := by decide +kernel
theorem dX9_handAt_8 : decode cX9_handAt 8 = .ok (.istore_n 3, 1) := by decide +kernel
theorem dX9_handAt_9 : decode cX9_handAt 9 = .ok (.iload_n 2, 1) := by decide +kernel
theorem dX9_handAt_10 : decode cX9_handAt 10 = .ok (.iconst 5, 1) := by decide +kernel
theorem dX9_handAt_11 : decode cX9_handAt 11 = .ok (.if_icmp .ge 23, 3) := by decide +kernel
theorem dX9_handAt_14 : decode cX9_handAt 14 = .ok (.iload_n 1, 1) := by decide +kernel
theorem dX9_handAt_15 : decode cX9_handAt 15 = .ok (.iload_n 3, 1) := by decide +kernel
theorem dX9_handAt_16 : decode cX9_handAt 16 = .ok (.if_icmp .lt 18, 3) := by decide +kernel
theorem dX9_handAt_19 : decode cX9_handAt 19 = .ok (.iinc 2 1, 3) := by decide +kernel
theorem dX9_handAt_22 : decode cX9_handAt 22 = .ok (.iload_n 3, 1) := by decide +kernel
theorem dX9_handAt_23 : decode cX9_handAt 23 = .ok (.aload_n 0, 1) := by decide +kernel
theorem dX9_handAt_24 : decode cX9_handAt 24 = .ok (.getfield 56, 3) := by decide +kernel
theorem dX9_handAt_27 : decode cX9_handAt 27 = .ok (.iload_n 2, 1) := by decide +kernel
theorem dX9_handAt_28 : decode cX9_handAt 28 = .ok (.iaload, 1) := by decide +kernel
theorem dX9_handAt_29 : decode cX9_handAt 29 = .ok (.iadd, 1) := by decide +kernel
theorem dX9_handAt_30 : decode cX9_handAt 30 = .ok (.istore_n 3, 1) := by decide +kernel
theorem dX9_handAt_31 : decode cX9_handAt 31 = .ok (.goto (-22), 3) := by decide +kernel
theorem dX9_handAt_34 : decode cX9_handAt 34 = .ok (.iload_n 2, 1) := by decide +kernel
theorem dX9_handAt_35 : decode cX9_handAt 35 = .ok (.ireturn, 1) := by decide +kernel
theorem dX9_leftOf_0 : decode cX9_leftOf 0 = .ok (.iconst 0, 1) := by decide +kernel
theorem dX9_leftOf_1 : decode cX9_leftOf 1 = .ok (.istore_n 2, 1) := by decide +kernel
theorem dX9_leftOf_2 : decode cX9_leftOf 2 = .ok (.iconst 0, 1) := by decide +kernel
theorem dX9_leftOf_3 : decode cX9_leftOf 3 = .ok (.istore_n 3, 1) := by decide +kernel
theorem dX9_leftOf_4 : decode cX9_leftOf 4 = .ok (.iload_n 3, 1) := by decide +kernel
theorem dX9_leftOf_5 : decode cX9_leftOf 5 = .ok (.aload_n 0, 1) := by decide +kernel
theorem dX9_leftOf_6 : decode cX9_leftOf 6 = .ok (.getfield 62, 3) := by decide +kernel
theorem dX9_leftOf_9 : decode cX9_leftOf 9 = .ok (.iload_n 1, 1) := by decide +kernel
theorem dX9_leftOf_10 : decode cX9_leftOf 10 = .ok (.iaload, 1) := by decide +kernel
theorem dX9_leftOf_11 : decode cX9_leftOf 11 = .ok (.if_icmp .ge 23, 3) := by decide +kernel
theorem dX9_leftOf_14 : decode cX9_leftOf 14 = .ok (.iload_n 2, 1) := by decide +kernel
theorem dX9_leftOf_15 : decode cX9_leftOf 15 = .ok (.aload_n 0, 1) := by decide +kernel
theorem dX9_leftOf_16 : decode cX9_leftOf 16 = .ok (.getfield 68, 3) := by decide +kernel
theorem dX9_leftOf_19 : decode cX9_leftOf 19 = .ok (.bipush 10, 2) := by decide +kernel
theorem dX9_leftOf_21 : decode cX9_leftOf 21 = .ok (.iload_n 1, 1) := by decide +kernel
theorem dX9_leftOf_22 : decode cX9_leftOf 22 = .ok (.imul, 1) := by decide +kernel
theorem dX9_leftOf_23 : decode cX9_leftOf 23 = .ok (.iload_n 3, 1) := by decide +kernel
theorem dX9_leftOf_24 : decode cX9_leftOf 24 = .ok (.iadd, 1) := by decide +kernel
theorem dX9_leftOf_25 : decode cX9_leftOf 25 = .ok (.iaload, 1) := by decide +kernel
theorem dX9_leftOf_26 : decode cX9_leftOf 26 = .ok (.iadd, 1) := by decide +kernel
theorem dX9_leftOf_27 : decode cX9_leftOf 27 = .ok (.istore_n 2, 1) := by decide +kernel
theorem dX9_leftOf_28 : decode cX9_leftOf 28 = .ok (.iinc 3 1, 3) := by decide +kernel
theorem dX9_leftOf_31 : decode cX9_leftOf 31 = .ok (.goto (-27), 3) := by decide +kernel
theorem dX9_leftOf_34 : decode cX9_leftOf 34 = .ok (.iload_n 2, 1) := by decide +kernel
theorem dX9_leftOf_35 : decode cX9_leftOf 35 = .ok (.ireturn, 1) := by decide +kernel
theorem dX9_isEnough_0 : decode cX9_isEnough 0 = .ok (.iconst 1, 1) := by decide +kernel
theorem dX9_isEnough_1 : decode cX9_isEnough 1 = .ok (.istore_n 1, 1) := by decide +kernel
theorem dX9_isEnough_2 : decode cX9_isEnough 2 = .ok (.iconst 0, 1) := by decide +kernel
