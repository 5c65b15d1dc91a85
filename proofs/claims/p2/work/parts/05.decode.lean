theorem dX7_in_0 : decode cX7_in 0 = .ok (.iload_n 0, 1) := by decide +kernel
theorem dX7_in_1 : decode cX7_in 1 = .ok (.iload_n 1, 1) := by decide +kernel
theorem dX7_in_2 : decode cX7_in 2 = .ok (.if_icmp .lt 12, 3) := by decide +kernel
theorem dX7_in_5 : decode cX7_in 5 = .ok (.iload_n 0, 1) := by decide +kernel
theorem dX7_in_6 : decode cX7_in 6 = .ok (.iload_n 2, 1) := by decide +kernel
theorem dX7_in_7 : decode cX7_in 7 = .ok (.if_icmp .gt 7, 3) := by decide +kernel
theorem dX7_in_10 : decode cX7_in 10 = .ok (.iconst 1, 1) := by decide +kernel
theorem dX7_in_11 : decode cX7_in 11 = .ok (.goto 4, 3) := by decide +kernel
theorem dX7_in_14 : decode cX7_in 14 = .ok (.iconst 0, 1) := by decide +kernel
theorem dX7_in_15 : decode cX7_in 15 = .ok (.ireturn, 1) := by decide +kernel
theorem dX7_init_0 : decode cX7_init 0 = .ok (.aload_n 0, 1) := by decide +kernel
theorem dX7_init_1 : decode cX7_init 1 = .ok (.invokespecial 1, 3) := by decide +kernel
theorem dX7_init_4 : decode cX7_init 4 = .ok (.aload_n 0, 1) := by decide +kernel
theorem dX7_init_5 : decode cX7_init 5 = .ok (.bipush 8, 2) := by decide +kernel
theorem dX7_init_7 : decode cX7_init 7 = .ok (.newarray .int, 2) := by decide +kernel
theorem dX7_init_9 : decode cX7_init 9 = .ok (.dup, 1) := by decide +kernel
theorem dX7_init_10 : decode cX7_init 10 = .ok (.iconst 0, 1) := by decide +kernel
theorem dX7_init_11 : decode cX7_init 11 = .ok (.sipush 1000, 3) := by decide +kernel
theorem dX7_init_14 : decode cX7_init 14 = .ok (.iastore, 1) := by decide +kernel
theorem dX7_init_15 : decode cX7_init 15 = .ok (.dup, 1) := by decide +kernel
theorem dX7_init_16 : decode cX7_init 16 = .ok (.iconst 1, 1) := by decide +kernel
theorem dX7_init_17 : decode cX7_init 17 = .ok (.iconst 0, 1) := by decide +kernel
theorem dX7_init_18 : decode cX7_init 18 = .ok (.iastore, 1) := by decide +kernel
theorem dX7_init_19 : decode cX7_init 19 = .ok (.dup, 1) := by decide +kernel
theorem dX7_init_20 : decode cX7_init 20 = .ok (.iconst 2, 1) := by decide +kernel
theorem dX7_init_21 : decode cX7_init 21 = .ok (.sipush 500, 3) := by decide +kernel
theorem dX7_init_24 : decode cX7_init 24 = .ok (.iastore, 1) := by decide +kernel
theorem dX7_init_25 : decode cX7_init 25 = .ok (.dup, 1) := by decide +kernel
theorem dX7_init_26 : decode cX7_init 26 = .ok (.iconst 3, 1) := by decide +kernel
theorem dX7_init_27 : decode cX7_init 27 = .ok (.bipush 60, 2) := by decide +kernel
theorem dX7_init_29 : decode cX7_init 29 = .ok (.iastore, 1) := by decide +kernel
theorem dX7_init_30 : decode cX7_init 30 = .ok (.dup, 1) := by decide +kernel
theorem dX7_init_31 : decode cX7_init 31 = .ok (.iconst 4, 1) := by decide +kernel
theorem dX7_init_32 : decode cX7_init 32 = .ok (.sipush 3000, 3) := by decide +kernel
theorem dX7_init_35 : decode cX7_init 35 = .ok (.iastore, 1) := by decide +kernel
theorem dX7_init_36 : decode cX7_init 36 = .ok (.dup, 1) := by decide +kernel
theorem dX7_init_37 : decode cX7_init 37 = .ok (.iconst 5, 1) := by decide +kernel
theorem dX7_init_38 : decode cX7_init 38 = .ok (.sipush 750, 3) := by decide +kernel
theorem dX7_init_41 : decode cX7_init 41 = .ok (.iastore, 1) := by decide +kernel
theorem dX7_init_42 : decode cX7_init 42 = .ok (.dup, 1) := by decide +kernel
theorem dX7_init_43 : decode cX7_init 43 = .ok (.bipush 6, 2) := by decide +kernel
theorem dX7_init_45 : decode cX7_init 45 = .ok (.sipush 12000, 3) := by decide +kernel
theorem dX7_init_48 : decode cX7_init 48 = .ok (.iastore, 1) := by decide +kernel
theorem dX7_init_49 : decode cX7_init 49 = .ok (.dup, 1) := by decide +kernel
theorem dX7_init_50 : decode cX7_init 50 = .ok (.bipush 7, 2) := by decide +kernel
theorem dX7_init_52 : decode cX7_init 52 = .ok (.bipush 120, 2) := by decide +kernel
theorem dX7_init_54 : decode cX7_init 54 = .ok (.iastore, 1) := by decide +kernel
theorem dX7_init_55 : decode cX7_init 55 = .ok (.putfield 7, 3) := by decide +kernel
theorem dX7_init_58 : decode cX7_init 58 = .ok (.aload_n 0, 1) := by decide +kernel
theorem dX7_init_59 : decode cX7_init 59 = .ok (.bipush 12, 2) := by decide +kernel
theorem dX7_init_61 : decode cX7_init 61 = .ok (.newarray .int, 2) := by decide +kernel
theorem dX7_init_63 : decode cX7_init 63 = .ok (.putfield 13, 3) := by decide +kernel
theorem dX7_init_66 : decode cX7_init 66 = .ok (.aload_n 0, 1) := by decide +kernel
theorem dX7_init_67 : decode cX7_init 67 = .ok (.bipush 12, 2) := by decide +kernel
theorem dX7_init_69 : decode cX7_init 69 = .ok (.newarray .int, 2) := by decide +kernel
theorem dX7_init_71 : decode cX7_init 71 = .ok (.putfield 16, 3) := by decide +kernel
theorem dX7_init_74 : decode cX7_init 74 = .ok (.aload_n 0, 1) := by decide +kernel
theorem dX7_init_75 : decode cX7_init 75 = .ok (.bipush 12, 2) := by decide +kernel
theorem dX7_init_77 : decode cX7_init 77 = .ok (.newarray .int, 2) := by decide +kernel
theorem dX7_init_79 : decode cX7_init 79 = .ok (.putfield 19, 3) := by decide +kernel
theorem dX7_init_82 : decode cX7_init 82 = .ok (.aload_n 0, 1) := by decide +kernel
theorem dX7_init_83 : decode cX7_init 83 = .ok (.iconst 2, 1) := by decide +kernel
theorem dX7_init_84 : decode cX7_init 84 = .ok (.newarray .int, 2) := by decide +kernel
theorem dX7_init_86 : decode cX7_init 86 = .ok (.putfield 22, 3) := by decide +kernel
theorem dX7_init_89 : decode cX7_init 89 = .ok (.aload_n 0, 1) := by decide +kernel
theorem dX7_init_90 : decode cX7_init 90 = .ok (.iconst 2, 1) := by decide +kernel
theorem dX7_init_91 : decode cX7_init 91 = .ok (.newarray .int, 2) := by decide +kernel
theorem dX7_init_93 : decode cX7_init 93 = .ok (.putfield 25, 3) := by decide +kernel
theorem dX7_init_96 : decode cX7_init 96 = .ok (.aload_n 0, 1) := by decide +kernel
theorem dX7_init_97 : decode cX7_init 97 = .ok (.iconst 2, 1) := by decide +kernel
theorem dX7_init_98 : decode cX7_init 98 = .ok (.newarray .int, 2) := by decide +kernel
theorem dX7_init_100 : decode cX7_init 100 = .ok (.putfield 28, 3) := by decide +kernel
theorem dX7_init_103 : decode cX7_init 103 = .ok (.aload_n 0, 1) := by decide +kernel
theorem dX7_init_104 : decode cX7_init 104 = .ok (.bipush 32, 2) := by decide +kernel
theorem dX7_init_106 : decode cX7_init 106 = .ok (.newarray .int, 2) := by decide +kernel
theorem dX7_init_108 : decode cX7_init 108 = .ok (.putfield 31, 3) := by decide +kernel
theorem dX7_init_111 : decode cX7_init 111 = .ok (.aload_n 0, 1) := by decide +kernel
theorem dX7_init_112 : decode cX7_init 112 = .ok (.bipush 32, 2) := by decide +kernel
theorem dX7_init_114 : decode cX7_init 114 = .ok (.newarray .int, 2) := by decide +kernel
theorem dX7_init_116 : decode cX7_init 116 = .ok (.putfield 34, 3) := by decide +kernel
theorem dX7_init_119 : decode cX7_init 119 = .ok (.aload_n 0, 1) := by decide +kernel
theorem dX7_init_120 : decode cX7_init 120 = .ok (.bipush 32, 2) := by decide +kernel
theorem dX7_init_122 : decode cX7_init 122 = .ok (.newarray .boolean, 2) := by decide +kernel
theorem dX7_init_124 : decode cX7_init 124 = .ok (.putfield 37, 3) := by decide +kernel
theorem dX7_init_127 : decode cX7_init 127 = .ok (.aload_n 0, 1) := by decide +kernel
theorem dX7_init_128 : decode cX7_init 128 = .ok (.bipush 24, 2) := by decide +kernel
theorem dX7_init_130 : decode cX7_init 130 = .ok (.newarray .boolean, 2) := by decide +kernel
theorem dX7_init_132 : decode cX7_init 132 = .ok (.putfield 41, 3) := by decide +kernel
theorem dX7_init_135 : decode cX7_init 135 = .ok (.aload_n 0, 1) := by decide +kernel
theorem dX7_init_136 : decode cX7_init 136 = .ok (.bipush 24, 2) := by decide +kernel
theorem dX7_init_138 : decode cX7_init 138 = .ok (.newarray .boolean, 2) := by decide +kernel
theorem dX7_init_140 : decode cX7_init 140 = .ok (.putfield 44, 3) := by decide +kernel
theorem dX7_init_143 : decode cX7_init 143 = .ok (.aload_n 0, 1) := by decide +kernel
theorem dX7_init_144 : decode cX7_init 144 = .ok (.bipush 24, 2) := by decide +kernel
theorem dX7_init_146 : decode cX7_init 146 = .ok (.newarray .int, 2) := by decide +kernel
theorem dX7_init_148 : decode cX7_init 148 = .ok (.putfield 47, 3) := by decide +kernel
theorem dX7_init_151 : decode cX7_init 151 = .ok (.aload_n 0, 1) := by decide +kernel
theorem dX7_init_152 : decode cX7_init 152 = .ok (.bipush 24, 2) := by decide +kernel
theorem dX7_init_154 : decode cX7_init 154 = .ok (.newarray .int, 2) := by decide +kernel
theorem dX7_init_156 : decode cX7_init 156 = .ok (.putfield 50, 3) := by decide +kernel
theorem dX7_init_159 : decode cX7_init 159 = .ok (.aload_n 0, 1) := by decide +kernel
theorem dX7_init_160 : decode cX7_init 160 = .ok (.bipush 24, 2) := by decide +kernel
theorem dX7_init_162 : decode cX7_init 162 = .ok (.newarray .int, 2) := by decide +kernel
theorem dX7_init_164 : decode cX7_init 164 = .ok (.putfield 53, 3) := by decide +kernel
theorem dX7_init_167 : decode cX7_init 167 = .ok (.aload_n 0, 1) := by decide +kernel
theorem dX7_init_168 : decode cX7_init 168 = .ok (.sipush 300, 3) := by decide +kernel
theorem dX7_init_171 : decode cX7_init 171 = .ok (.newarray .int, 2) := by decide +kernel
theorem dX7_init_173 : decode cX7_init 173 = .ok (.putfield 56, 3) := by decide +kernel
theorem dX7_init_176 : decode cX7_init 176 = .ok (.aload_n 0, 1) := by decide +kernel
theorem dX7_init_177 : decode cX7_init 177 = .ok (.sipush 300, 3) := by decide +kernel
theorem dX7_init_180 : decode cX7_init 180 = .ok (.newarray .int, 2) := by decide +kernel
theorem dX7_init_182 : decode cX7_init 182 = .ok (.putfield 59, 3) := by decide +kernel
theorem dX7_init_185 : decode cX7_init 185 = .ok (.aload_n 0, 1) := by decide +kernel
theorem dX7_init_186 : decode cX7_init 186 = .ok (.sipush 300, 3) := by decide +kernel
theorem dX7_init_189 : decode cX7_init 189 = .ok (.newarray .int, 2) := by decide +kernel
theorem dX7_init_191 : decode cX7_init 191 = .ok (.putfield 62, 3) := by decide +kernel
theorem dX7_init_194 : decode cX7_init 194 = .ok (.aload_n 0, 1) := by decide +kernel
theorem dX7_init_195 : decode cX7_init 195 = .ok (.sipush 5040, 3) := by decide +kernel
theorem dX7_init_198 : decode cX7_init 198 = .ok (.newarray .boolean, 2) := by decide +kernel
theorem dX7_init_200 : decode cX7_init 200 = .ok (.putfield 65, 3) := by decide +kernel
theorem dX7_init_203 : decode cX7_init 203 = .ok (.aload_n 0, 1) := by decide +kernel
theorem dX7_init_204 : decode cX7_init 204 = .ok (.bipush 25, 2) := by decide +kernel
theorem dX7_init_206 : decode cX7_init 206 = .ok (.newarray .boolean, 2) := by decide +kernel
theorem dX7_init_208 : decode cX7_init 208 = .ok (.putfield 68, 3) := by decide +kernel
theorem dX7_init_211 : decode cX7_init 211 = .ok (.aload_n 0, 1) := by decide +kernel
theorem dX7_init_212 : decode cX7_init 212 = .ok (.bipush 25, 2) := by decide +kernel
theorem dX7_init_214 : decode cX7_init 214 = .ok (.newarray .int, 2) := by decide +kernel
theorem dX7_init_216 : decode cX7_init 216 = .ok (.dup, 1) := by decide +kernel
theorem dX7_init_217 : decode cX7_init 217 = .ok (.iconst 0, 1) := by decide +kernel
theorem dX7_init_218 : decode cX7_init 218 = .ok (.iconst (-1), 1) := by decide +kernel
theorem dX7_init_219 : decode cX7_init 219 = .ok (.iastore, 1) := by decide +kernel
theorem dX7_init_220 : decode cX7_init 220 = .ok (.dup, 1) := by decide +kernel
theorem dX7_init_221 : decode cX7_init 221 = .ok (.iconst 1, 1) := by decide +kernel
theorem dX7_init_222 : decode cX7_init 222 = .ok (.iconst (-1), 1) := by decide +kernel
theorem dX7_init_223 : decode cX7_init 223 = .ok (.iastore, 1) := by decide +kernel
theorem dX7_init_224 : decode cX7_init 224 = .ok (.dup, 1) := by decide +kernel
theorem dX7_init_225 : decode cX7_init 225 = .ok (.iconst 2, 1) := by decide +kernel
theorem dX7_init_226 : decode cX7_init 226 = .ok (.iconst (-1), 1) := by decide +kernel
theorem dX7_init_227 : decode cX7_init 227 = .ok (.iastore, 1) := by decide +kernel
theorem dX7_init_228 : decode cX7_init 228 = .ok (.dup, 1) := by decide +kernel
theorem dX7_init_229 : decode cX7_init 229 = .ok (.iconst 3, 1) := by decide +kernel
theorem dX7_init_230 : decode cX7_init 230 = .ok (.iconst (-1), 1) := by decide +kernel
theorem dX7_init_231 : decode cX7_init 231 = .ok (.iastore, 1) := by decide +kernel
theorem dX7_init_232 : decode cX7_init 232 = .ok (.dup, 1) := by decide +kernel
theorem dX7_init_233 : decode cX7_init 233 = .ok (.iconst 4, 1) := by decide +kernel
theorem dX7_init_234 : decode cX7_init 234 = .ok (.iconst (-1), 1) := by decide +kernel
theorem dX7_init_235 : decode cX7_init 235 = .ok (.iastore, 1) := by decide +kernel
theorem dX7_init_236 : decode cX7_init 236 = .ok (.dup, 1) := by decide +kernel
theorem dX7_init_237 : decode cX7_init 237 = .ok (.iconst 5, 1) := by decide +kernel
theorem dX7_init_238 : decode cX7_init 238 = .ok (.iconst (-1), 1) := by decide +kernel
theorem dX7_init_239 : decode cX7_init 239 = .ok (.iastore, 1) := by decide +kernel
theorem dX7_init_240 : decode cX7_init 240 = .ok (.dup, 1) := by decide +kernel
theorem dX7_init_241 : decode cX7_init 241 = .ok (.bipush 6, 2) := by decide +kernel
theorem dX7_init_243 : decode cX7_init 243 = .ok (.iconst (-1), 1) := by decide +kernel
theorem dX7_init_244 : decode cX7_init 244 = .ok (.iastore, 1) := by decide +kernel
theorem dX7_init_245 : decode cX7_init 245 = .ok (.dup, 1) := by decide +kernel
theorem dX7_init_246 : decode cX7_init 246 = .ok (.bipush 7, 2) := by decide +kernel
theorem dX7_init_248 : decode cX7_init 248 = .ok (.iconst (-1), 1) := by decide +kernel
theorem dX7_init_249 : decode cX7_init 249 = .ok (.iastore, 1) := by decide +kernel
theorem dX7_init_250 : decode cX7_init 250 = .ok (.dup, 1) := by decide +kernel
theorem dX7_init_251 : decode cX7_init 251 = .ok (.bipush 8, 2) := by decide +kernel
theorem dX7_init_253 : decode cX7_init 253 = .ok (.iconst (-1), 1) := by decide +kernel
theorem dX7_init_254 : decode cX7_init 254 = .ok (.iastore, 1) := by decide +kernel
theorem dX7_init_255 : decode cX7_init 255 = .ok (.dup, 1) := by decide +kernel
theorem dX7_init_256 : decode cX7_init 256 = .ok (.bipush 9, 2) := by decide +kernel
theorem dX7_init_258 : decode cX7_init 258 = .ok (.iconst (-1), 1) := by decide +kernel
theorem dX7_init_259 : decode cX7_init 259 = .ok (.iastore, 1) := by decide +kernel
theorem dX7_init_260 : decode cX7_init 260 = .ok (.dup, 1) := by decide +kernel
theorem dX7_init_261 : decode cX7_init 261 = .ok (.bipush 10, 2) := by decide +kernel
theorem dX7_init_263 : decode cX7_init 263 = .ok (.iconst (-1), 1) := by decide +kernel
theorem dX7_init_264 : decode cX7_init 264 = .ok (.iastore, 1) := by decide +kernel
theorem dX7_init_265 : decode cX7_init 265 = .ok (.dup, 1) := by decide +kernel
theorem dX7_init_266 : decode cX7_init 266 = .ok (.bipush 11, 2) := by decide +kernel
theorem dX7_init_268 : decode cX7_init 268 = .ok (.iconst (-1), 1) := by decide +kernel
theorem dX7_init_269 : decode cX7_init 269 = .ok (.iastore, 1) := by decide +kernel
theorem dX7_init_270 : decode cX7_init 270 = .ok (.dup, 1) := by decide +kernel
theorem dX7_init_271 : decode cX7_init 271 = .ok (.bipush 12, 2) := by decide +kernel
theorem dX7_init_273 : decode cX7_init 273 = .ok (.iconst (-1), 1) := by decide +kernel
theorem dX7_init_274 : decode cX7_init 274 = .ok (.iastore, 1) := by decide +kernel
theorem dX7_init_275 : decode cX7_init 275 = .ok (.dup, 1) := by decide +kernel
theorem dX7_init_276 : decode cX7_init 276 = .ok (.bipush 13, 2) := by decide +kernel
theorem dX7_init_278 : decode cX7_init 278 = .ok (.iconst (-1), 1) := by decide +kernel
theorem dX7_init_279 : decode cX7_init 279 = .ok (.iastore, 1) := by decide +kernel
theorem dX7_init_280 : decode cX7_init 280 = .ok (.dup, 1) := by decide +kernel
theorem dX7_init_281 : decode cX7_init 281 = .ok (.bipush 14, 2) := by decide +kernel
theorem dX7_init_283 : decode cX7_init 283 = .ok (.iconst (-1), 1) := by decide +kernel
theorem dX7_init_284 : decode cX7_init 284 = .ok (.iastore, 1) := by decide +kernel
theorem dX7_init_285 : decode cX7_init 285 = .ok (.dup, 1) := by decide +kernel
theorem dX7_init_286 : decode cX7_init 286 = .ok (.bipush 15, 2) := by decide +kernel
theorem dX7_init_288 : decode cX7_init 288 = .ok (.iconst (-1), 1) := by decide +kernel
theorem dX7_init_289 : decode cX7_init 289 = .ok (.iastore, 1) := by decide +kernel
theorem dX7_init_290 : decode cX7_init 290 = .ok (.dup, 1) := by decide +kernel
theorem dX7_init_291 : decode cX7_init 291 = .ok (.bipush 16, 2) := by decide +kernel
theorem dX7_init_293 : decode cX7_init 293 = .ok (.iconst (-1), 1) := by decide +kernel
theorem dX7_init_294 : decode cX7_init 294 = .ok (.iastore, 1) := by decide +kernel
theorem dX7_init_295 : decode cX7_init 295 = .ok (.dup, 1) := by decide +kernel
theorem dX7_init_296 : decode cX7_init 296 = .ok (.bipush 17, 2) := by decide +kernel
theorem dX7_init_298 : decode cX7_init 298 = .ok (.iconst (-1), 1) := by decide +kernel
theorem dX7_init_299 : decode cX7_init 299 = .ok (.iastore, 1) := by decide +kernel
theorem dX7_init_300 : decode cX7_init 300 = .ok (.dup, 1) := by decide +kernel
theorem dX7_init_301 : decode cX7_init 301 = .ok (.bipush 18, 2) := by decide +kernel
theorem dX7_init_303 : decode cX7_init 303 = .ok (.iconst (-1), 1) := by decide +kernel
theorem dX7_init_304 : decode cX7_init 304 = .ok (.iastore, 1) := by decide +kernel
theorem dX7_init_305 : decode cX7_init 305 = .ok (.dup, 1) := by decide +kernel
theorem dX7_init_306 : decode cX7_init 306 = .ok (.bipush 19, 2) := by decide +kernel
theorem dX7_init_308 : decode cX7_init 308 = .ok (.iconst (-1), 1) := by decide +kernel
theorem dX7_init_309 : decode cX7_init 309 = .ok (.iastore, 1) := by decide +kernel
theorem dX7_init_310 : decode cX7_init 310 = .ok (.dup, 1) := by decide +kernel
theorem dX7_init_311 : decode cX7_init 311 = .ok (.bipush 20, 2) := by decide +kernel
theorem dX7_init_313 : decode cX7_init 313 = .ok (.iconst (-1), 1) := by decide +kernel
theorem dX7_init_314 : decode cX7_init 314 = .ok (.iastore, 1) := by decide +kernel
theorem dX7_init_315 : decode cX7_init 315 = .ok (.dup, 1) := by decide +kernel
theorem dX7_init_316 : decode cX7_init 316 = .ok (.bipush 21, 2) := by decide +kernel
theorem dX7_init_318 : decode cX7_init 318 = .ok (.iconst (-1), 1) := by decide +kernel
theorem dX7_init_319 : decode cX7_init 319 = .ok (.iastore, 1) := by decide +kernel
theorem dX7_init_320 : decode cX7_init 320 = .ok (.dup, 1) := by decide +kernel
theorem dX7_init_321 : decode cX7_init 321 = .ok (.bipush 22, 2) := by decide +kernel
theorem dX7_init_323 : decode cX7_init 323 = .ok (.iconst (-1), 1) := by decide +kernel
theorem dX7_init_324 : decode cX7_init 324 = .ok (.iastore, 1) := by decide +kernel
theorem dX7_init_325 : decode cX7_init 325 = .ok (.dup, 1) := by decide +kernel
theorem dX7_init_326 : decode cX7_init 326 = .ok (.bipush 23, 2) := by decide +kernel
theorem dX7_init_328 : decode cX7_init 328 = .ok (.iconst (-1), 1) := by decide +kernel
theorem dX7_init_329 : decode cX7_init 329 = .ok (.iastore, 1) := by decide +kernel
theorem dX7_init_330 : decode cX7_init 330 = .ok (.dup, 1) := by decide +kernel
theorem dX7_init_331 : decode cX7_init 331 = .ok (.bipush 24, 2) := by decide +kernel
theorem dX7_init_333 : decode cX7_init 333 = .ok (.iconst (-1), 1) := by decide +kernel
theorem dX7_init_334 : decode cX7_init 334 = .ok (.iastore, 1) := by decide +kernel
theorem dX7_init_335 : decode cX7_init 335 = .ok (.putfield 71, 3) := by decide +kernel
theorem dX7_init_338 : decode cX7_init 338 = .ok (.aload_n 0, 1) := by decide +kernel
theorem dX7_init_339 : decode cX7_init 339 = .ok (.bipush 125, 2) := by decide +kernel
theorem dX7_init_341 : decode cX7_init 341 = .ok (.newarray .int, 2) := by decide +kernel
theorem dX7_init_343 : decode cX7_init 343 = .ok (.putfield 74, 3) := by decide +kernel
theorem dX7_init_346 : decode cX7_init 346 = .ok (.aload_n 0, 1) := by decide +kernel
theorem dX7_init_347 : decode cX7_init 347 = .ok (.bipush 25, 2) := by decide +kernel
theorem dX7_init_349 : decode cX7_init 349 = .ok (.newarray .int, 2) := by decide +kernel
theorem dX7_init_351 : decode cX7_init 351 = .ok (.putfield 77, 3) := by decide +kernel
theorem dX7_init_354 : decode cX7_init 354 = .ok (.aload_n 0, 1) := by decide +kernel
theorem dX7_init_355 : decode cX7_init 355 = .ok (.bipush 25, 2) := by decide +kernel
theorem dX7_init_357 : decode cX7_init 357 = .ok (.newarray .int, 2) := by decide +kernel
theorem dX7_init_359 : decode cX7_init 359 = .ok (.putfield 80, 3) := by decide +kernel
theorem dX7_init_362 : decode cX7_init 362 = .ok (.aload_n 0, 1) := by decide +kernel
theorem dX7_init_363 : decode cX7_init 363 = .ok (.iconst 5, 1) := by decide +kernel
theorem dX7_init_364 : decode cX7_init 364 = .ok (.newarray .int, 2) := by decide +kernel
theorem dX7_init_366 : decode cX7_init 366 = .ok (.putfield 83, 3) := by decide +kernel
theorem dX7_init_369 : decode cX7_init 369 = .ok (.aload_n 0, 1) := by decide +kernel
theorem dX7_init_370 : decode cX7_init 370 = .ok (.iconst 5, 1) := by decide +kernel
theorem dX7_init_371 : decode cX7_init 371 = .ok (.newarray .int, 2) := by decide +kernel
theorem dX7_init_373 : decode cX7_init 373 = .ok (.putfield 86, 3) := by decide +kernel
theorem dX7_init_376 : decode cX7_init 376 = .ok (.aload_n 0, 1) := by decide +kernel
theorem dX7_init_377 : decode cX7_init 377 = .ok (.iconst 5, 1) := by decide +kernel
theorem dX7_init_378 : decode cX7_init 378 = .ok (.newarray .int, 2) := by decide +kernel
theorem dX7_init_380 : decode cX7_init 380 = .ok (.putfield 89, 3) := by decide +kernel
theorem dX7_init_383 : decode cX7_init 383 = .ok (.aload_n 0, 1) := by decide +kernel
theorem dX7_init_384 : decode cX7_init 384 = .ok (.sipush 8200, 3) := by decide +kernel
theorem dX7_init_387 : decode cX7_init 387 = .ok (.newarray .int, 2) := by decide +kernel
theorem dX7_init_389 : decode cX7_init 389 = .ok (.putfield 92, 3) := by decide +kernel
theorem dX7_init_392 : decode cX7_init 392 = .ok (.aload_n 0, 1) := by decide +kernel
theorem dX7_init_393 : decode cX7_init 393 = .ok (.sipush 8200, 3) := by decide +kernel
theorem dX7_init_396 : decode cX7_init 396 = .ok (.newarray .int, 2) := by decide +kernel
theorem dX7_init_398 : decode cX7_init 398 = .ok (.putfield 95, 3) := by decide +kernel
theorem dX7_init_401 : decode cX7_init 401 = .ok (.aload_n 0, 1) := by decide +kernel
theorem dX7_init_402 : decode cX7_init 402 = .ok (.sipush 8200, 3) := by decide +kernel
theorem dX7_init_405 : decode cX7_init 405 = .ok (.newarray .int, 2) := by decide +kernel
theorem dX7_init_407 : decode cX7_init 407 = .ok (.putfield 98, 3) := by decide +kernel
theorem dX7_init_410 : decode cX7_init 410 = .ok (.aload_n 0, 1) := by decide +kernel
theorem dX7_init_411 : decode cX7_init 411 = .ok (.ldc 101, 2) := by decide +kernel
theorem dX7_init_413 : decode cX7_init 413 = .ok (.newarray .int, 2) := by decide +kernel
theorem dX7_init_415 : decode cX7_init 415 = .ok (.putfield 102, 3) := by decide +kernel
theorem dX7_init_418 : decode cX7_init 418 = .ok (.aload_n 0, 1) := by decide +kernel
theorem dX7_init_419 : decode cX7_init 419 = .ok (.invokevirtual 105, 3) := by decide +kernel
theorem dX7_init_422 : decode cX7_init 422 = .ok (.return_, 1) := by decide +kernel
theorem dX7_takesMarks_0 : decode cX7_takesMarks 0 = .ok (.aload_n 0, 1) := by decide +kernel
theorem dX7_takesMarks_1 : decode cX7_takesMarks 1 = .ok (.getfield 25, 3) := by decide +kernel
theorem dX7_takesMarks_4 : decode cX7_takesMarks 4 = .ok (.iconst 0, 1) := by decide +kernel
theorem dX7_takesMarks_5 : decode cX7_takesMarks 5 = .ok (.aload_n 0, 1) := by decide +kernel
theorem dX7_takesMarks_6 : decode cX7_takesMarks 6 = .ok (.getfield 7, 3) := by decide +kernel
theorem dX7_takesMarks_9 : decode cX7_takesMarks 9 = .ok (.iconst 4, 1) := by decide +kernel
theorem dX7_takesMarks_10 : decode cX7_takesMarks 10 = .ok (.iaload, 1) := by decide +kernel
theorem dX7_takesMarks_11 : decode cX7_takesMarks 11 = .ok (.iastore, 1) := by decide +kernel
theorem dX7_takesMarks_12 : decode cX7_takesMarks 12 = .ok (.aload_n 0, 1) := by decide +kernel
theorem dX7_takesMarks_13 : decode cX7_takesMarks 13 = .ok (.getfield 28, 3) := by decide +kernel
theorem dX7_takesMarks_16 : decode cX7_takesMarks 16 = .ok (.iconst 0, 1) := by decide +kernel
theorem dX7_takesMarks_17 : decode cX7_takesMarks 17 = .ok (.aload_n 0, 1) := by decide +kernel
theorem dX7_takesMarks_18 : decode cX7_takesMarks 18 = .ok (.getfield 7, 3) := by decide +kernel
theorem dX7_takesMarks_21 : decode cX7_takesMarks 21 = .ok (.iconst 5, 1) := by decide +kernel
theorem dX7_takesMarks_22 : decode cX7_takesMarks 22 = .ok (.iaload, 1) := by decide +kernel
theorem dX7_takesMarks_23 : decode cX7_takesMarks 23 = .ok (.iastore, 1) := by decide +kernel
theorem dX7_takesMarks_24 : decode cX7_takesMarks 24 = .ok (.return_, 1) := by decide +kernel
theorem dX7_fades_0 : decode cX7_fades 0 = .ok (.iload_n 1, 1) := by decide +kernel
theorem dX7_fades_1 : decode cX7_fades 1 = .ok (.istore_n 3, 1) := by decide +kernel
theorem dX7_fades_2 : decode cX7_fades 2 = .ok (.iload_n 2, 1) := by decide +kernel
theorem dX7_fades_3 : decode cX7_fades 3 = .ok (.aload_n 0, 1) := by decide +kernel
theorem dX7_fades_4 : decode cX7_fades 4 = .ok (.getfield 7, 3) := by decide +kernel
theorem dX7_fades_7 : decode cX7_fades 7 = .ok (.iconst 3, 1) := by decide +kernel
theorem dX7_fades_8 : decode cX7_fades 8 = .ok (.iaload, 1) := by decide +kernel
theorem dX7_fades_9 : decode cX7_fades 9 = .ok (.idiv, 1) := by decide +kernel
theorem dX7_fades_10 : decode cX7_fades 10 = .ok (.istore 4, 2) := by decide +kernel
theorem dX7_fades_12 : decode cX7_fades 12 = .ok (.iload 4, 2) := by decide +kernel
theorem dX7_fades_14 : decode cX7_fades 14 = .ok (.ifCond .le 17, 3) := by decide +kernel
theorem dX7_fades_17 : decode cX7_fades 17 = .ok (.iload_n 3, 1) := by decide +kernel
theorem dX7_fades_18 : decode cX7_fades 18 = .ok (.ifCond .le 13, 3) := by decide +kernel
theorem dX7_fades_21 : decode cX7_fades 21 = .ok (.iload_n 3, 1) := by decide +kernel
theorem dX7_fades_22 : decode cX7_fades 22 = .ok (.iconst 2, 1) := by decide +kernel
theorem dX7_fades_23 : decode cX7_fades 23 = .ok (.idiv, 1) := by decide +kernel
theorem dX7_fades_24 : decode cX7_fades 24 = .ok (.istore_n 3, 1) := by decide +kernel
theorem dX7_fades_25 : decode cX7_fades 25 = .ok (.iinc 4 (-1), 3) := by decide +kernel
theorem dX7_fades_28 : decode cX7_fades 28 = .ok (.goto (-16), 3) := by decide +kernel
theorem dX7_fades_31 : decode cX7_fades 31 = .ok (.iload_n 3, 1) := by decide +kernel
theorem dX7_fades_32 : decode cX7_fades 32 = .ok (.iload_n 3, 1) := by decide +kernel
theorem dX7_fades_33 : decode cX7_fades 33 = .ok (.iload_n 2, 1) := by decide +kernel
theorem dX7_fades_34 : decode cX7_fades 34 = .ok (.aload_n 0, 1) := by decide +kernel
theorem dX7_fades_35 : decode cX7_fades 35 = .ok (.getfield 7, 3) := by decide +kernel
theorem dX7_fades_38 : decode cX7_fades 38 = .ok (.iconst 3, 1) := by decide +kernel
theorem dX7_fades_39 : decode cX7_fades 39 = .ok (.iaload, 1) := by decide +kernel
theorem dX7_fades_40 : decode cX7_fades 40 = .ok (.irem, 1) := by decide +kernel
theorem dX7_fades_41 : decode cX7_fades 41 = .ok (.imul, 1) := by decide +kernel
theorem dX7_fades_42 : decode cX7_fades 42 = .ok (.iconst 2, 1) := by decide +kernel
theorem dX7_fades_43 : decode cX7_fades 43 = .ok (.aload_n 0, 1) := by decide +kernel
theorem dX7_fades_44 : decode cX7_fades 44 = .ok (.getfield 7, 3) := by decide +kernel
theorem dX7_fades_47 : decode cX7_fades 47 = .ok (.iconst 3, 1) := by decide +kernel
theorem dX7_fades_48 : decode cX7_fades 48 = .ok (.iaload, 1) := by decide +kernel
theorem dX7_fades_49 : decode cX7_fades 49 = .ok (.imul, 1) := by decide +kernel
theorem dX7_fades_50 : decode cX7_fades 50 = .ok (.idiv, 1) := by decide +kernel
theorem dX7_fades_51 : decode cX7_fades 51 = .ok (.isub, 1) := by decide +kernel
theorem dX7_fades_52 : decode cX7_fades 52 = .ok (.ireturn, 1) := by decide +kernel
theorem dX7_bearer_0 : decode cX7_bearer 0 = .ok (.bipush 16, 2) := by decide +kernel
theorem dX7_bearer_2 : decode cX7_bearer 2 = .ok (.iload_n 1, 1) := by decide +kernel
theorem dX7_bearer_3 : decode cX7_bearer 3 = .ok (.imul, 1) := by decide +kernel
theorem dX7_bearer_4 : decode cX7_bearer 4 = .ok (.aload_n 0, 1) := by decide +kernel
theorem dX7_bearer_5 : decode cX7_bearer 5 = .ok (.getfield 13, 3) := by decide +kernel
theorem dX7_bearer_8 : decode cX7_bearer 8 = .ok (.iload_n 2, 1) := by decide +kernel
theorem dX7_bearer_9 : decode cX7_bearer 9 = .ok (.iaload, 1) := by decide +kernel
theorem dX7_bearer_10 : decode cX7_bearer 10 = .ok (.iconst 1, 1) := by decide +kernel
theorem dX7_bearer_11 : decode cX7_bearer 11 = .ok (.if_icmp .ne 15, 3) := by decide +kernel
theorem dX7_bearer_14 : decode cX7_bearer 14 = .ok (.bipush 12, 2) := by decide +kernel
theorem dX7_bearer_16 : decode cX7_bearer 16 = .ok (.aload_n 0, 1) := by decide +kernel
theorem dX7_bearer_17 : decode cX7_bearer 17 = .ok (.getfield 16, 3) := by decide +kernel
theorem dX7_bearer_20 : decode cX7_bearer 20 = .ok (.iload_n 2, 1) := by decide +kernel
theorem dX7_bearer_21 : decode cX7_bearer 21 = .ok (.iaload, 1) := by decide +kernel
theorem dX7_bearer_22 : decode cX7_bearer 22 = .ok (.iadd, 1) := by decide +kernel
theorem dX7_bearer_23 : decode cX7_bearer 23 = .ok (.goto 4, 3) := by decide +kernel
theorem dX7_bearer_26 : decode cX7_bearer 26 = .ok (.iload_n 2, 1) := by decide +kernel
theorem dX7_bearer_27 : decode cX7_bearer 27 = .ok (.iadd, 1) := by decide +kernel
theorem dX7_bearer_28 : decode cX7_bearer 28 = .ok (.ireturn, 1) := by decide +kernel
theorem dX7_penaltyNow_0 : decode cX7_penaltyNow 0 = .ok (.aload_n 0, 1) := by decide +kernel
theorem dX7_penaltyNow_1 : decode cX7_penaltyNow 1 = .ok (.iload_n 1, 1) := by decide +kernel
theorem dX7_penaltyNow_2 : decode cX7_penaltyNow 2 = .ok (.iload_n 2, 1) := by decide +kernel
theorem dX7_penaltyNow_3 : decode cX7_penaltyNow 3 = .ok (.invokevirtual 108, 3) := by decide +kernel
theorem dX7_penaltyNow_6 : decode cX7_penaltyNow 6 = .ok (.istore_n 3, 1) := by decide +kernel
theorem dX7_penaltyNow_7 : decode cX7_penaltyNow 7 = .ok (.aload_n 0, 1) := by decide +kernel
theorem dX7_penaltyNow_8 : decode cX7_penaltyNow 8 = .ok (.aload_n 0, 1) := by decide +kernel
theorem dX7_penaltyNow_9 : decode cX7_penaltyNow 9 = .ok (.getfield 31, 3) := by decide +kernel
theorem dX7_penaltyNow_12 : decode cX7_penaltyNow 12 = .ok (.iload_n 3, 1) := by decide +kernel
theorem dX7_penaltyNow_13 : decode cX7_penaltyNow 13 = .ok (.iaload, 1) := by decide +kernel
theorem dX7_penaltyNow_14 : decode cX7_penaltyNow 14 = .ok (.aload_n 0, 1) := by decide +kernel
theorem dX7_penaltyNow_15 : decode cX7_penaltyNow 15 = .ok (.getfield 22, 3) := by decide +kernel
theorem dX7_penaltyNow_18 : decode cX7_penaltyNow 18 = .ok (.iload_n 1, 1) := by decide +kernel
theorem dX7_penaltyNow_19 : decode cX7_penaltyNow 19 = .ok (.iaload, 1) := by decide +kernel
theorem dX7_penaltyNow_20 : decode cX7_penaltyNow 20 = .ok (.aload_n 0, 1) := by decide +kernel
theorem dX7_penaltyNow_21 : decode cX7_penaltyNow 21 = .ok (.getfield 34, 3) := by decide +kernel
theorem dX7_penaltyNow_24 : decode cX7_penaltyNow 24 = .ok (.iload_n 3, 1) := by decide +kernel
theorem dX7_penaltyNow_25 : decode cX7_penaltyNow 25 = .ok (.iaload, 1) := by decide +kernel
theorem dX7_penaltyNow_26 : decode cX7_penaltyNow 26 = .ok (.isub, 1) := by decide +kernel
theorem dX7_penaltyNow_27 : decode cX7_penaltyNow 27 = .ok (.invokevirtual 112, 3) := by decide +kernel
theorem dX7_penaltyNow_30 : decode cX7_penaltyNow 30 = .ok (.ireturn, 1) := by decide +kernel
theorem dX7_isSeen_0 : decode cX7_isSeen 0 = .ok (.aload_n 0, 1) := by decide +kernel
theorem dX7_isSeen_1 : decode cX7_isSeen 1 = .ok (.getfield 41, 3) := by decide +kernel
theorem dX7_isSeen_4 : decode cX7_isSeen 4 = .ok (.bipush 12, 2) := by decide +kernel
theorem dX7_isSeen_6 : decode cX7_isSeen 6 = .ok (.iload_n 1, 1) := by decide +kernel
theorem dX7_isSeen_7 : decode cX7_isSeen 7 = .ok (.imul, 1) := by decide +kernel
theorem dX7_isSeen_8 : decode cX7_isSeen 8 = .ok (.iload_n 2, 1) := by decide +kernel
theorem dX7_isSeen_9 : decode cX7_isSeen 9 = .ok (.iadd, 1) := by decide +kernel
theorem dX7_isSeen_10 : decode cX7_isSeen 10 = .ok (.baload, 1) := by decide +kernel
theorem dX7_isSeen_11 : decode cX7_isSeen 11 = .ok (.ifCond .eq 21, 3) := by decide +kernel
theorem dX7_isSeen_14 : decode cX7_isSeen 14 = .ok (.aload_n 0, 1) := by decide +kernel
theorem dX7_isSeen_15 : decode cX7_isSeen 15 = .ok (.getfield 37, 3) := by decide +kernel
theorem dX7_isSeen_18 : decode cX7_isSeen 18 = .ok (.aload_n 0, 1) := by decide +kernel
theorem dX7_isSeen_19 : decode cX7_isSeen 19 = .ok (.iload_n 1, 1) := by decide +kernel
theorem dX7_isSeen_20 : decode cX7_isSeen 20 = .ok (.iload_n 2, 1) := by decide +kernel
theorem dX7_isSeen_21 : decode cX7_isSeen 21 = .ok (.invokevirtual 108, 3) := by decide +kernel
theorem dX7_isSeen_24 : decode cX7_isSeen 24 = .ok (.baload, 1) := by decide +kernel
theorem dX7_isSeen_25 : decode cX7_isSeen 25 = .ok (.ifCond .ne 7, 3) := by decide +kernel
theorem dX7_isSeen_28 : decode cX7_isSeen 28 = .ok (.iconst 1, 1) := by decide +kernel
theorem dX7_isSeen_29 : decode cX7_isSeen 29 = .ok (.goto 4, 3) := by decide +kernel
theorem dX7_isSeen_32 : decode cX7_isSeen 32 = .ok (.iconst 0, 1) := by decide +kernel
theorem dX7_isSeen_33 : decode cX7_isSeen 33 = .ok (.ireturn, 1) := by decide +kernel
theorem dX7_looks_0 : decode cX7_looks 0 = .ok (.iconst 0, 1) := by decide +kernel
theorem dX7_looks_1 : decode cX7_looks 1 = .ok (.istore_n 2, 1) := by decide +kernel
theorem dX7_looks_2 : decode cX7_looks 2 = .ok (.iload_n 2, 1) := by decide +kernel
theorem dX7_looks_3 : decode cX7_looks 3 = .ok (.aload_n 0, 1) := by decide +kernel
theorem dX7_looks_4 : decode cX7_looks 4 = .ok (.getfield 115, 3) := by decide +kernel
theorem dX7_looks_7 : decode cX7_looks 7 = .ok (.if_icmp .ge 62, 3) := by decide +kernel
theorem dX7_looks_10 : decode cX7_looks 10 = .ok (.aload_n 0, 1) := by decide +kernel
theorem dX7_looks_11 : decode cX7_looks 11 = .ok (.iload_n 1, 1) := by decide +kernel
theorem dX7_looks_12 : decode cX7_looks 12 = .ok (.iload_n 2, 1) := by decide +kernel
theorem dX7_looks_13 : decode cX7_looks 13 = .ok (.invokevirtual 119, 3) := by decide +kernel
theorem dX7_looks_16 : decode cX7_looks 16 = .ok (.istore_n 3, 1) := by decide +kernel
theorem dX7_looks_17 : decode cX7_looks 17 = .ok (.aload_n 0, 1) := by decide +kernel
theorem dX7_looks_18 : decode cX7_looks 18 = .ok (.getfield 47, 3) := by decide +kernel
theorem dX7_looks_21 : decode cX7_looks 21 = .ok (.bipush 12, 2) := by decide +kernel
theorem dX7_looks_23 : decode cX7_looks 23 = .ok (.iload_n 1, 1) := by decide +kernel
theorem dX7_looks_24 : decode cX7_looks 24 = .ok (.imul, 1) := by decide +kernel
theorem dX7_looks_25 : decode cX7_looks 25 = .ok (.iload_n 2, 1) := by decide +kernel
theorem dX7_looks_26 : decode cX7_looks 26 = .ok (.iadd, 1) := by decide +kernel
theorem dX7_looks_27 : decode cX7_looks 27 = .ok (.dup2, 1) := by decide +kernel
theorem dX7_looks_28 : decode cX7_looks 28 = .ok (.iaload, 1) := by decide +kernel
theorem dX7_looks_29 : decode cX7_looks 29 = .ok (.iload_n 3, 1) := by decide +kernel
theorem dX7_looks_30 : decode cX7_looks 30 = .ok (.aload_n 0, 1) := by decide +kernel
theorem dX7_looks_31 : decode cX7_looks 31 = .ok (.getfield 44, 3) := by decide +kernel
theorem dX7_looks_34 : decode cX7_looks 34 = .ok (.bipush 12, 2) := by decide +kernel
theorem dX7_looks_36 : decode cX7_looks 36 = .ok (.iload_n 1, 1) := by decide +kernel
theorem dX7_looks_37 : decode cX7_looks 37 = .ok (.imul, 1) := by decide +kernel
theorem dX7_looks_38 : decode cX7_looks 38 = .ok (.iload_n 2, 1) := by decide +kernel
theorem dX7_looks_39 : decode cX7_looks 39 = .ok (.iadd, 1) := by decide +kernel
theorem dX7_looks_40 : decode cX7_looks 40 = .ok (.baload, 1) := by decide +kernel
theorem dX7_looks_41 : decode cX7_looks 41 = .ok (.if_icmp .eq 7, 3) := by decide +kernel
theorem dX7_looks_44 : decode cX7_looks 44 = .ok (.iconst 1, 1) := by decide +kernel
theorem dX7_looks_45 : decode cX7_looks 45 = .ok (.goto 4, 3) := by decide +kernel
theorem dX7_looks_48 : decode cX7_looks 48 = .ok (.iconst 0, 1) := by decide +kernel
theorem dX7_looks_49 : decode cX7_looks 49 = .ok (.iadd, 1) := by decide +kernel
theorem dX7_looks_50 : decode cX7_looks 50 = .ok (.iastore, 1) := by decide +kernel
theorem dX7_looks_51 : decode cX7_looks 51 = .ok (.aload_n 0, 1) := by decide +kernel
theorem dX7_looks_52 : decode cX7_looks 52 = .ok (.getfield 44, 3) := by decide +kernel
theorem dX7_looks_55 : decode cX7_looks 55 = .ok (.bipush 12, 2) := by decide +kernel
theorem dX7_looks_57 : decode cX7_looks 57 = .ok (.iload_n 1, 1) := by decide +kernel
theorem dX7_looks_58 : decode cX7_looks 58 = .ok (.imul, 1) := by decide +kernel
theorem dX7_looks_59 : decode cX7_looks 59 = .ok (.iload_n 2, 1) := by decide +kernel
theorem dX7_looks_60 : decode cX7_looks 60 = .ok (.iadd, 1) := by decide +kernel
theorem dX7_looks_61 : decode cX7_looks 61 = .ok (.iload_n 3, 1) := by decide +kernel
theorem dX7_looks_62 : decode cX7_looks 62 = .ok (.bastore, 1) := by decide +kernel
theorem dX7_looks_63 : decode cX7_looks 63 = .ok (.iinc 2 1, 3) := by decide +kernel
theorem dX7_looks_66 : decode cX7_looks 66 = .ok (.goto (-64), 3) := by decide +kernel
theorem dX7_looks_69 : decode cX7_looks 69 = .ok (.return_, 1) := by decide +kernel
theorem dX7_begins_0 : decode cX7_begins 0 = .ok (.bipush 12, 2) := by decide +kernel
theorem dX7_begins_2 : decode cX7_begins 2 = .ok (.iload_n 1, 1) := by decide +kernel
theorem dX7_begins_3 : decode cX7_begins 3 = .ok (.imul, 1) := by decide +kernel
theorem dX7_begins_4 : decode cX7_begins 4 = .ok (.iload_n 2, 1) := by decide +kernel
theorem dX7_begins_5 : decode cX7_begins 5 = .ok (.iadd, 1) := by decide +kernel
theorem dX7_begins_6 : decode cX7_begins 6 = .ok (.istore_n 3, 1) := by decide +kernel
theorem dX7_begins_7 : decode cX7_begins 7 = .ok (.aload_n 0, 1) := by decide +kernel
theorem dX7_begins_8 : decode cX7_begins 8 = .ok (.getfield 41, 3) := by decide +kernel
theorem dX7_begins_11 : decode cX7_begins 11 = .ok (.iload_n 3, 1) := by decide +kernel
theorem dX7_begins_12 : decode cX7_begins 12 = .ok (.iconst 1, 1) := by decide +kernel
theorem dX7_begins_13 : decode cX7_begins 13 = .ok (.bastore, 1) := by decide +kernel
theorem dX7_begins_14 : decode cX7_begins 14 = .ok (.aload_n 0, 1) := by decide +kernel
theorem dX7_begins_15 : decode cX7_begins 15 = .ok (.getfield 47, 3) := by decide +kernel
theorem dX7_begins_18 : decode cX7_begins 18 = .ok (.iload_n 3, 1) := by decide +kernel
theorem dX7_begins_19 : decode cX7_begins 19 = .ok (.iconst 0, 1) := by decide +kernel
theorem dX7_begins_20 : decode cX7_begins 20 = .ok (.iastore, 1) := by decide +kernel
theorem dX7_begins_21 : decode cX7_begins 21 = .ok (.aload_n 0, 1) := by decide +kernel
theorem dX7_begins_22 : decode cX7_begins 22 = .ok (.getfield 50, 3) := by decide +kernel
theorem dX7_begins_25 : decode cX7_begins 25 = .ok (.iload_n 3, 1) := by decide +kernel
theorem dX7_begins_26 : decode cX7_begins 26 = .ok (.iconst 0, 1) := by decide +kernel
theorem dX7_begins_27 : decode cX7_begins 27 = .ok (.iastore, 1) := by decide +kernel
theorem dX7_begins_28 : decode cX7_begins 28 = .ok (.aload_n 0, 1) := by decide +kernel
theorem dX7_begins_29 : decode cX7_begins 29 = .ok (.getfield 53, 3) := by decide +kernel
theorem dX7_begins_32 : decode cX7_begins 32 = .ok (.iload_n 3, 1) := by decide +kernel
theorem dX7_begins_33 : decode cX7_begins 33 = .ok (.ldc 123, 2) := by decide +kernel
theorem dX7_begins_35 : decode cX7_begins 35 = .ok (.iastore, 1) := by decide +kernel
theorem dX7_begins_36 : decode cX7_begins 36 = .ok (.aload_n 0, 1) := by decide +kernel
theorem dX7_begins_37 : decode cX7_begins 37 = .ok (.getfield 44, 3) := by decide +kernel
theorem dX7_begins_40 : decode cX7_begins 40 = .ok (.iload_n 3, 1) := by decide +kernel
theorem dX7_begins_41 : decode cX7_begins 41 = .ok (.aload_n 0, 1) := by decide +kernel
theorem dX7_begins_42 : decode cX7_begins 42 = .ok (.iload_n 1, 1) := by decide +kernel
theorem dX7_begins_43 : decode cX7_begins 43 = .ok (.iload_n 2, 1) := by decide +kernel
theorem dX7_begins_44 : decode cX7_begins 44 = .ok (.invokevirtual 119, 3) := by decide +kernel
theorem dX7_begins_47 : decode cX7_begins 47 = .ok (.bastore, 1) := by decide +kernel
theorem dX7_begins_48 : decode cX7_begins 48 = .ok (.return_, 1) := by decide +kernel
theorem dX7_line_0 : decode cX7_line 0 = .ok (.iload_n 1, 1) := by decide +kernel
theorem dX7_line_1 : decode cX7_line 1 = .ok (.iconst 0, 1) := by decide +kernel
theorem dX7_line_2 : decode cX7_line 2 = .ok (.iconst 2, 1) := by decide +kernel
theorem dX7_line_3 : decode cX7_line 3 = .ok (.invokestatic 124, 3) := by decide +kernel
theorem dX7_line_6 : decode cX7_line 6 = .ok (.ifCond .eq 17, 3) := by decide +kernel
theorem dX7_line_9 : decode cX7_line 9 = .ok (.iload_n 1, 1) := by decide +kernel
theorem dX7_line_10 : decode cX7_line 10 = .ok (.iconst 1, 1) := by decide +kernel
theorem dX7_line_11 : decode cX7_line 11 = .ok (.if_icmp .ne 15, 3) := by decide +kernel
theorem dX7_line_14 : decode cX7_line 14 = .ok (.iload_n 2, 1) := by decide +kernel
theorem dX7_line_15 : decode cX7_line 15 = .ok (.iconst 0, 1) := by decide +kernel
theorem dX7_line_16 : decode cX7_line 16 = .ok (.iconst 3, 1) := by decide +kernel
theorem dX7_line_17 : decode cX7_line 17 = .ok (.invokestatic 124, 3) := by decide +kernel
theorem dX7_line_20 : decode cX7_line 20 = .ok (.ifCond .ne 6, 3) := by decide +kernel
theorem dX7_line_23 : decode cX7_line 23 = .ok (.bipush (-2), 2) := by decide +kernel
theorem dX7_line_25 : decode cX7_line 25 = .ok (.ireturn, 1) := by decide +kernel
theorem dX7_line_26 : decode cX7_line 26 = .ok (.aload_n 0, 1) := by decide +kernel
theorem dX7_line_27 : decode cX7_line 27 = .ok (.getfield 115, 3) := by decide +kernel
theorem dX7_line_30 : decode cX7_line 30 = .ok (.bipush 12, 2) := by decide +kernel
theorem dX7_line_32 : decode cX7_line 32 = .ok (.if_icmp .ne 6, 3) := by decide +kernel
theorem dX7_line_35 : decode cX7_line 35 = .ok (.bipush (-4), 2) := by decide +kernel
theorem dX7_line_37 : decode cX7_line 37 = .ok (.ireturn, 1) := by decide +kernel
theorem dX7_line_38 : decode cX7_line 38 = .ok (.aload_n 0, 1) := by decide +kernel
theorem dX7_line_39 : decode cX7_line 39 = .ok (.getfield 13, 3) := by decide +kernel
theorem dX7_line_42 : decode cX7_line 42 = .ok (.aload_n 0, 1) := by decide +kernel
theorem dX7_line_43 : decode cX7_line 43 = .ok (.getfield 115, 3) := by decide +kernel
theorem dX7_line_46 : decode cX7_line 46 = .ok (.iload_n 1, 1) := by decide +kernel
theorem dX7_line_47 : decode cX7_line 47 = .ok (.iastore, 1) := by decide +kernel
theorem dX7_line_48 : decode cX7_line 48 = .ok (.aload_n 0, 1) := by decide +kernel
theorem dX7_line_49 : decode cX7_line 49 = .ok (.getfield 16, 3) := by decide +kernel
theorem dX7_line_52 : decode cX7_line 52 = .ok (.aload_n 0, 1) := by decide +kernel
theorem dX7_line_53 : decode cX7_line 53 = .ok (.getfield 115, 3) := by decide +kernel
theorem dX7_line_56 : decode cX7_line 56 = .ok (.iload_n 2, 1) := by decide +kernel
theorem dX7_line_57 : decode cX7_line 57 = .ok (.iastore, 1) := by decide +kernel
theorem dX7_line_58 : decode cX7_line 58 = .ok (.aload_n 0, 1) := by decide +kernel
theorem dX7_line_59 : decode cX7_line 59 = .ok (.iconst 0, 1) := by decide +kernel
theorem dX7_line_60 : decode cX7_line 60 = .ok (.aload_n 0, 1) := by decide +kernel
theorem dX7_line_61 : decode cX7_line 61 = .ok (.getfield 115, 3) := by decide +kernel
theorem dX7_line_64 : decode cX7_line 64 = .ok (.invokevirtual 128, 3) := by decide +kernel
theorem dX7_line_67 : decode cX7_line 67 = .ok (.aload_n 0, 1) := by decide +kernel
theorem dX7_line_68 : decode cX7_line 68 = .ok (.dup, 1) := by decide +kernel
theorem dX7_line_69 : decode cX7_line 69 = .ok (.getfield 115, 3) := by decide +kernel
theorem dX7_line_72 : decode cX7_line 72 = .ok (.iconst 1, 1) := by decide +kernel
theorem dX7_line_73 : decode cX7_line 73 = .ok (.iadd, 1) := by decide +kernel
theorem dX7_line_74 : decode cX7_line 74 = .ok (.putfield 115, 3) := by decide +kernel
theorem dX7_line_77 : decode cX7_line 77 = .ok (.aload_n 0, 1) := by decide +kernel
theorem dX7_line_78 : decode cX7_line 78 = .ok (.getfield 115, 3) := by decide +kernel
theorem dX7_line_81 : decode cX7_line 81 = .ok (.iconst 1, 1) := by decide +kernel
theorem dX7_line_82 : decode cX7_line 82 = .ok (.isub, 1) := by decide +kernel
theorem dX7_line_83 : decode cX7_line 83 = .ok (.ireturn, 1) := by decide +kernel
theorem dX7_least_0 : decode cX7_least 0 = .ok (.iload_n 0, 1) := by decide +kernel
theorem dX7_least_1 : decode cX7_least 1 = .ok (.iconst 3, 1) := by decide +kernel
theorem dX7_least_2 : decode cX7_least 2 = .ok (.if_icmp .lt 9, 3) := by decide +kernel
theorem dX7_least_5 : decode cX7_least 5 = .ok (.iload_n 0, 1) := by decide +kernel
theorem dX7_least_6 : decode cX7_least 6 = .ok (.bipush 7, 2) := by decide +kernel
theorem dX7_least_8 : decode cX7_least 8 = .ok (.if_icmp .ne 7, 3) := by decide +kernel
theorem dX7_least_11 : decode cX7_least 11 = .ok (.iconst 0, 1) := by decide +kernel
theorem dX7_least_12 : decode cX7_least 12 = .ok (.goto 4, 3) := by decide +kernel
theorem dX7_least_15 : decode cX7_least 15 = .ok (.iconst 1, 1) := by decide +kernel
theorem dX7_least_16 : decode cX7_least 16 = .ok (.ireturn, 1) := by decide +kernel
theorem dX7_most_0 : decode cX7_most 0 = .ok (.iload_n 0, 1) := by decide +kernel
theorem dX7_most_1 : decode cX7_most 1 = .ok (.iconst 3, 1) := by decide +kernel
theorem dX7_most_2 : decode cX7_most 2 = .ok (.if_icmp .ge 9, 3) := by decide +kernel
theorem dX7_most_5 : decode cX7_most 5 = .ok (.sipush 10000, 3) := by decide +kernel
theorem dX7_most_8 : decode cX7_most 8 = .ok (.goto 40, 3) := by decide +kernel
theorem dX7_most_11 : decode cX7_most 11 = .ok (.iload_n 0, 1) := by decide +kernel
theorem dX7_most_12 : decode cX7_most 12 = .ok (.iconst 3, 1) := by decide +kernel
theorem dX7_most_13 : decode cX7_most 13 = .ok (.if_icmp .ne 9, 3) := by decide +kernel
theorem dX7_most_16 : decode cX7_most 16 = .ok (.sipush 500, 3) := by decide +kernel
theorem dX7_most_19 : decode cX7_most 19 = .ok (.goto 29, 3) := by decide +kernel
theorem dX7_most_22 : decode cX7_most 22 = .ok (.iload_n 0, 1) := by decide +kernel
theorem dX7_most_23 : decode cX7_most 23 = .ok (.bipush 6, 2) := by decide +kernel
theorem dX7_most_25 : decode cX7_most 25 = .ok (.if_icmp .ne 8, 3) := by decide +kernel
theorem dX7_most_28 : decode cX7_most 28 = .ok (.ldc 132, 2) := by decide +kernel
theorem dX7_most_30 : decode cX7_most 30 = .ok (.goto 18, 3) := by decide +kernel
theorem dX7_most_33 : decode cX7_most 33 = .ok (.iload_n 0, 1) := by decide +kernel
theorem dX7_most_34 : decode cX7_most 34 = .ok (.bipush 7, 2) := by decide +kernel
theorem dX7_most_36 : decode cX7_most 36 = .ok (.if_icmp .ne 9, 3) := by decide +kernel
theorem dX7_most_39 : decode cX7_most 39 = .ok (.sipush 1000, 3) := by decide +kernel
theorem dX7_most_42 : decode cX7_most 42 = .ok (.goto 6, 3) := by decide +kernel
theorem dX7_most_45 : decode cX7_most 45 = .ok (.sipush 20000, 3) := by decide +kernel
theorem dX7_most_48 : decode cX7_most 48 = .ok (.ireturn, 1) := by decide +kernel
theorem dX7_rule_0 : decode cX7_rule 0 = .ok (.iload_n 1, 1) := by decide +kernel
theorem dX7_rule_1 : decode cX7_rule 1 = .ok (.iconst 0, 1) := by decide +kernel
theorem dX7_rule_2 : decode cX7_rule 2 = .ok (.bipush 7, 2) := by decide +kernel
theorem dX7_rule_4 : decode cX7_rule 4 = .ok (.invokestatic 124, 3) := by decide +kernel
theorem dX7_rule_7 : decode cX7_rule 7 = .ok (.ifCond .eq 48, 3) := by decide +kernel
theorem dX7_rule_10 : decode cX7_rule 10 = .ok (.iload_n 2, 1) := by decide +kernel
theorem dX7_rule_11 : decode cX7_rule 11 = .ok (.iload_n 1, 1) := by decide +kernel
theorem dX7_rule_12 : decode cX7_rule 12 = .ok (.invokestatic 133, 3) := by decide +kernel
theorem dX7_rule_15 : decode cX7_rule 15 = .ok (.iload_n 1, 1) := by decide +kernel
theorem dX7_rule_16 : decode cX7_rule 16 = .ok (.invokestatic 137, 3) := by decide +kernel
theorem dX7_rule_19 : decode cX7_rule 19 = .ok (.invokestatic 124, 3) := by decide +kernel
theorem dX7_rule_22 : decode cX7_rule 22 = .ok (.ifCond .eq 33, 3) := by decide +kernel
theorem dX7_rule_25 : decode cX7_rule 25 = .ok (.iload_n 1, 1) := by decide +kernel
theorem dX7_rule_26 : decode cX7_rule 26 = .ok (.iconst 4, 1) := by decide +kernel
theorem dX7_rule_27 : decode cX7_rule 27 = .ok (.if_icmp .ne 13, 3) := by decide +kernel
theorem dX7_rule_30 : decode cX7_rule 30 = .ok (.iload_n 2, 1) := by decide +kernel
theorem dX7_rule_31 : decode cX7_rule 31 = .ok (.aload_n 0, 1) := by decide +kernel
theorem dX7_rule_32 : decode cX7_rule 32 = .ok (.getfield 7, 3) := by decide +kernel
theorem dX7_rule_35 : decode cX7_rule 35 = .ok (.iconst 5, 1) := by decide +kernel
theorem dX7_rule_36 : decode cX7_rule 36 = .ok (.iaload, 1) := by decide +kernel
theorem dX7_rule_37 : decode cX7_rule 37 = .ok (.if_icmp .lt 18, 3) := by decide +kernel
theorem dX7_rule_40 : decode cX7_rule 40 = .ok (.iload_n 1, 1) := by decide +kernel
theorem dX7_rule_41 : decode cX7_rule 41 = .ok (.iconst 5, 1) := by decide +kernel
theorem dX7_rule_42 : decode cX7_rule 42 = .ok (.if_icmp .ne 16, 3) := by decide +kernel
theorem dX7_rule_45 : decode cX7_rule 45 = .ok (.iload_n 2, 1) := by decide +kernel
theorem dX7_rule_46 : decode cX7_rule 46 = .ok (.aload_n 0, 1) := by decide +kernel
theorem dX7_rule_47 : decode cX7_rule 47 = .ok (.getfield 7, 3) := by decide +kernel
theorem dX7_rule_50 : decode cX7_rule 50 = .ok (.iconst 4, 1) := by decide +kernel
theorem dX7_rule_51 : decode cX7_rule 51 = .ok (.iaload, 1) := by decide +kernel
theorem dX7_rule_52 : decode cX7_rule 52 = .ok (.if_icmp .le 6, 3) := by decide +kernel
theorem dX7_rule_55 : decode cX7_rule 55 = .ok (.bipush (-2), 2) := by decide +kernel
theorem dX7_rule_57 : decode cX7_rule 57 = .ok (.ireturn, 1) := by decide +kernel
theorem dX7_rule_58 : decode cX7_rule 58 = .ok (.iconst 0, 1) := by decide +kernel
theorem dX7_rule_59 : decode cX7_rule 59 = .ok (.istore_n 3, 1) := by decide +kernel
theorem dX7_rule_60 : decode cX7_rule 60 = .ok (.iload_n 3, 1) := by decide +kernel
theorem dX7_rule_61 : decode cX7_rule 61 = .ok (.bipush 16, 2) := by decide +kernel
theorem dX7_rule_63 : decode cX7_rule 63 = .ok (.if_icmp .ge 50, 3) := by decide +kernel
theorem dX7_rule_66 : decode cX7_rule 66 = .ok (.aload_n 0, 1) := by decide +kernel
theorem dX7_rule_67 : decode cX7_rule 67 = .ok (.getfield 31, 3) := by decide +kernel
theorem dX7_rule_70 : decode cX7_rule 70 = .ok (.iload_n 3, 1) := by decide +kernel
theorem dX7_rule_71 : decode cX7_rule 71 = .ok (.aload_n 0, 1) := by decide +kernel
theorem dX7_rule_72 : decode cX7_rule 72 = .ok (.aload_n 0, 1) := by decide +kernel
theorem dX7_rule_73 : decode cX7_rule 73 = .ok (.getfield 31, 3) := by decide +kernel
theorem dX7_rule_76 : decode cX7_rule 76 = .ok (.iload_n 3, 1) := by decide +kernel
theorem dX7_rule_77 : decode cX7_rule 77 = .ok (.iaload, 1) := by decide +kernel
theorem dX7_rule_78 : decode cX7_rule 78 = .ok (.aload_n 0, 1) := by decide +kernel
theorem dX7_rule_79 : decode cX7_rule 79 = .ok (.getfield 22, 3) := by decide +kernel
theorem dX7_rule_82 : decode cX7_rule 82 = .ok (.iconst 0, 1) := by decide +kernel
theorem dX7_rule_83 : decode cX7_rule 83 = .ok (.iaload, 1) := by decide +kernel
theorem dX7_rule_84 : decode cX7_rule 84 = .ok (.aload_n 0, 1) := by decide +kernel
theorem dX7_rule_85 : decode cX7_rule 85 = .ok (.getfield 34, 3) := by decide +kernel
theorem dX7_rule_88 : decode cX7_rule 88 = .ok (.iload_n 3, 1) := by decide +kernel
theorem dX7_rule_89 : decode cX7_rule 89 = .ok (.iaload, 1) := by decide +kernel
theorem dX7_rule_90 : decode cX7_rule 90 = .ok (.isub, 1) := by decide +kernel
theorem dX7_rule_91 : decode cX7_rule 91 = .ok (.invokevirtual 112, 3) := by decide +kernel
theorem dX7_rule_94 : decode cX7_rule 94 = .ok (.iastore, 1) := by decide +kernel
theorem dX7_rule_95 : decode cX7_rule 95 = .ok (.aload_n 0, 1) := by decide +kernel
theorem dX7_rule_96 : decode cX7_rule 96 = .ok (.getfield 34, 3) := by decide +kernel
theorem dX7_rule_99 : decode cX7_rule 99 = .ok (.iload_n 3, 1) := by decide +kernel
theorem dX7_rule_100 : decode cX7_rule 100 = .ok (.aload_n 0, 1) := by decide +kernel
theorem dX7_rule_101 : decode cX7_rule 101 = .ok (.getfield 22, 3) := by decide +kernel
theorem dX7_rule_104 : decode cX7_rule 104 = .ok (.iconst 0, 1) := by decide +kernel
theorem dX7_rule_105 : decode cX7_rule 105 = .ok (.iaload, 1) := by decide +kernel
theorem dX7_rule_106 : decode cX7_rule 106 = .ok (.iastore, 1) := by decide +kernel
theorem dX7_rule_107 : decode cX7_rule 107 = .ok (.iinc 3 1, 3) := by decide +kernel
theorem dX7_rule_110 : decode cX7_rule 110 = .ok (.goto (-50), 3) := by decide +kernel
theorem dX7_rule_113 : decode cX7_rule 113 = .ok (.aload_n 0, 1) := by decide +kernel
theorem dX7_rule_114 : decode cX7_rule 114 = .ok (.getfield 7, 3) := by decide +kernel
theorem dX7_rule_117 : decode cX7_rule 117 = .ok (.iload_n 1, 1) := by decide +kernel
theorem dX7_rule_118 : decode cX7_rule 118 = .ok (.iaload, 1) := by decide +kernel
theorem dX7_rule_119 : decode cX7_rule 119 = .ok (.istore_n 3, 1) := by decide +kernel
theorem dX7_rule_120 : decode cX7_rule 120 = .ok (.aload_n 0, 1) := by decide +kernel
theorem dX7_rule_121 : decode cX7_rule 121 = .ok (.getfield 7, 3) := by decide +kernel
theorem dX7_rule_124 : decode cX7_rule 124 = .ok (.iload_n 1, 1) := by decide +kernel
theorem dX7_rule_125 : decode cX7_rule 125 = .ok (.iload_n 2, 1) := by decide +kernel
theorem dX7_rule_126 : decode cX7_rule 126 = .ok (.iastore, 1) := by decide +kernel
theorem dX7_rule_127 : decode cX7_rule 127 = .ok (.aload_n 0, 1) := by decide +kernel
theorem dX7_rule_128 : decode cX7_rule 128 = .ok (.invokevirtual 105, 3) := by decide +kernel
theorem dX7_rule_131 : decode cX7_rule 131 = .ok (.iload_n 3, 1) := by decide +kernel
theorem dX7_rule_132 : decode cX7_rule 132 = .ok (.ireturn, 1) := by decide +kernel
theorem dX7_faded_0 : decode cX7_faded 0 = .ok (.iload_n 1, 1) := by decide +kernel
theorem dX7_faded_1 : decode cX7_faded 1 = .ok (.iconst 0, 1) := by decide +kernel
theorem dX7_faded_2 : decode cX7_faded 2 = .ok (.ldc 132, 2) := by decide +kernel
theorem dX7_faded_4 : decode cX7_faded 4 = .ok (.invokestatic 124, 3) := by decide +kernel
theorem dX7_faded_7 : decode cX7_faded 7 = .ok (.ifCond .eq 22, 3) := by decide +kernel
theorem dX7_faded_10 : decode cX7_faded 10 = .ok (.iload_n 2, 1) := by decide +kernel
theorem dX7_faded_11 : decode cX7_faded 11 = .ok (.iconst 0, 1) := by decide +kernel
theorem dX7_faded_12 : decode cX7_faded 12 = .ok (.ldc 132, 2) := by decide +kernel
theorem dX7_faded_14 : decode cX7_faded 14 = .ok (.invokestatic 124, 3) := by decide +kernel
theorem dX7_faded_17 : decode cX7_faded 17 = .ok (.ifCond .eq 12, 3) := by decide +kernel
theorem dX7_faded_20 : decode cX7_faded 20 = .ok (.aload_n 0, 1) := by decide +kernel
theorem dX7_faded_21 : decode cX7_faded 21 = .ok (.iload_n 1, 1) := by decide +kernel
theorem dX7_faded_22 : decode cX7_faded 22 = .ok (.iload_n 2, 1) := by decide +kernel
theorem dX7_faded_23 : decode cX7_faded 23 = .ok (.invokevirtual 112, 3) := by decide +kernel
theorem dX7_faded_26 : decode cX7_faded 26 = .ok (.goto 5, 3) := by decide +kernel
theorem dX7_faded_29 : decode cX7_faded 29 = .ok (.bipush (-2), 2) := by decide +kernel
theorem dX7_faded_31 : decode cX7_faded 31 = .ok (.ireturn, 1) := by decide +kernel
theorem dX7_happens_0 : decode cX7_happens 0 = .ok (.bipush 12, 2) := by decide +kernel
theorem dX7_happens_2 : decode cX7_happens 2 = .ok (.iload_n 1, 1) := by decide +kernel
theorem dX7_happens_3 : decode cX7_happens 3 = .ok (.imul, 1) := by decide +kernel
theorem dX7_happens_4 : decode cX7_happens 4 = .ok (.iload_n 2, 1) := by decide +kernel
theorem dX7_happens_5 : decode cX7_happens 5 = .ok (.iadd, 1) := by decide +kernel
theorem dX7_happens_6 : decode cX7_happens 6 = .ok (.istore 4, 2) := by decide +kernel
theorem dX7_happens_8 : decode cX7_happens 8 = .ok (.aload_n 0, 1) := by decide +kernel
theorem dX7_happens_9 : decode cX7_happens 9 = .ok (.iload_n 1, 1) := by decide +kernel
theorem dX7_happens_10 : decode cX7_happens 10 = .ok (.iload_n 2, 1) := by decide +kernel
theorem dX7_happens_11 : decode cX7_happens 11 = .ok (.invokevirtual 108, 3) := by decide +kernel
theorem dX7_happens_14 : decode cX7_happens 14 = .ok (.istore 5, 2) := by decide +kernel
theorem dX7_happens_16 : decode cX7_happens 16 = .ok (.aload_n 0, 1) := by decide +kernel
theorem dX7_happens_17 : decode cX7_happens 17 = .ok (.getfield 22, 3) := by decide +kernel
theorem dX7_happens_20 : decode cX7_happens 20 = .ok (.iload_n 1, 1) := by decide +kernel
theorem dX7_happens_21 : decode cX7_happens 21 = .ok (.iaload, 1) := by decide +kernel
theorem dX7_happens_22 : decode cX7_happens 22 = .ok (.istore 6, 2) := by decide +kernel
theorem dX7_happens_24 : decode cX7_happens 24 = .ok (.aload_n 0, 1) := by decide +kernel
theorem dX7_happens_25 : decode cX7_happens 25 = .ok (.getfield 13, 3) := by decide +kernel
theorem dX7_happens_28 : decode cX7_happens 28 = .ok (.iload_n 2, 1) := by decide +kernel
theorem dX7_happens_29 : decode cX7_happens 29 = .ok (.iaload, 1) := by decide +kernel
theorem dX7_happens_30 : decode cX7_happens 30 = .ok (.iconst 2, 1) := by decide +kernel
theorem dX7_happens_31 : decode cX7_happens 31 = .ok (.if_icmp .ne 31, 3) := by decide +kernel
theorem dX7_happens_34 : decode cX7_happens 34 = .ok (.iload_n 3, 1) := by decide +kernel
theorem dX7_happens_35 : decode cX7_happens 35 = .ok (.ifCond .ne 27, 3) := by decide +kernel
theorem dX7_happens_38 : decode cX7_happens 38 = .ok (.aload_n 0, 1) := by decide +kernel
theorem dX7_happens_39 : decode cX7_happens 39 = .ok (.getfield 53, 3) := by decide +kernel
theorem dX7_happens_42 : decode cX7_happens 42 = .ok (.iload 4, 2) := by decide +kernel
theorem dX7_happens_44 : decode cX7_happens 44 = .ok (.iaload, 1) := by decide +kernel
theorem dX7_happens_45 : decode cX7_happens 45 = .ok (.iload 6, 2) := by decide +kernel
theorem dX7_happens_47 : decode cX7_happens 47 = .ok (.aload_n 0, 1) := by decide +kernel
theorem dX7_happens_48 : decode cX7_happens 48 = .ok (.getfield 7, 3) := by decide +kernel
theorem dX7_happens_51 : decode cX7_happens 51 = .ok (.bipush 7, 2) := by decide +kernel
theorem dX7_happens_53 : decode cX7_happens 53 = .ok (.iaload, 1) := by decide +kernel
theorem dX7_happens_54 : decode cX7_happens 54 = .ok (.isub, 1) := by decide +kernel
theorem dX7_happens_55 : decode cX7_happens 55 = .ok (.if_icmp .ge 7, 3) := by decide +kernel
theorem dX7_happens_58 : decode cX7_happens 58 = .ok (.iconst 1, 1) := by decide +kernel
theorem dX7_happens_59 : decode cX7_happens 59 = .ok (.goto 4, 3) := by decide +kernel
theorem dX7_happens_62 : decode cX7_happens 62 = .ok (.iconst 0, 1) := by decide +kernel
theorem dX7_happens_63 : decode cX7_happens 63 = .ok (.istore 7, 2) := by decide +kernel
theorem dX7_happens_65 : decode cX7_happens 65 = .ok (.aload_n 0, 1) := by decide +kernel
theorem dX7_happens_66 : decode cX7_happens 66 = .ok (.iload_n 1, 1) := by decide +kernel
theorem dX7_happens_67 : decode cX7_happens 67 = .ok (.iload_n 2, 1) := by decide +kernel
theorem dX7_happens_68 : decode cX7_happens 68 = .ok (.invokevirtual 140, 3) := by decide +kernel
theorem dX7_happens_71 : decode cX7_happens 71 = .ok (.iload 7, 2) := by decide +kernel
theorem dX7_happens_73 : decode cX7_happens 73 = .ok (.ifCond .eq 7, 3) := by decide +kernel
theorem dX7_happens_76 : decode cX7_happens 76 = .ok (.iconst 0, 1) := by decide +kernel
theorem dX7_happens_77 : decode cX7_happens 77 = .ok (.goto 9, 3) := by decide +kernel
theorem dX7_happens_80 : decode cX7_happens 80 = .ok (.aload_n 0, 1) := by decide +kernel
theorem dX7_happens_81 : decode cX7_happens 81 = .ok (.getfield 7, 3) := by decide +kernel
theorem dX7_happens_84 : decode cX7_happens 84 = .ok (.iload_n 3, 1) := by decide +kernel
theorem dX7_happens_85 : decode cX7_happens 85 = .ok (.iaload, 1) := by decide +kernel
theorem dX7_happens_86 : decode cX7_happens 86 = .ok (.iadd, 1) := by decide +kernel
theorem dX7_happens_87 : decode cX7_happens 87 = .ok (.istore 8, 2) := by decide +kernel
theorem dX7_happens_89 : decode cX7_happens 89 = .ok (.aload_n 0, 1) := by decide +kernel
theorem dX7_happens_90 : decode cX7_happens 90 = .ok (.getfield 31, 3) := by decide +kernel
theorem dX7_happens_93 : decode cX7_happens 93 = .ok (.iload 5, 2) := by decide +kernel
theorem dX7_happens_95 : decode cX7_happens 95 = .ok (.iload 8, 2) := by decide +kernel
theorem dX7_happens_97 : decode cX7_happens 97 = .ok (.aload_n 0, 1) := by decide +kernel
theorem dX7_happens_98 : decode cX7_happens 98 = .ok (.getfield 7, 3) := by decide +kernel
theorem dX7_happens_101 : decode cX7_happens 101 = .ok (.bipush 6, 2) := by decide +kernel
theorem dX7_happens_103 : decode cX7_happens 103 = .ok (.iaload, 1) := by decide +kernel
theorem dX7_happens_104 : decode cX7_happens 104 = .ok (.if_icmp .le 13, 3) := by decide +kernel
theorem dX7_happens_107 : decode cX7_happens 107 = .ok (.aload_n 0, 1) := by decide +kernel
theorem dX7_happens_108 : decode cX7_happens 108 = .ok (.getfield 7, 3) := by decide +kernel
theorem dX7_happens_111 : decode cX7_happens 111 = .ok (.bipush 6, 2) := by decide +kernel
theorem dX7_happens_113 : decode cX7_happens 113 = .ok (.iaload, 1) := by decide +kernel
theorem dX7_happens_114 : decode cX7_happens 114 = .ok (.goto 5, 3) := by decide +kernel
theorem dX7_happens_117 : decode cX7_happens 117 = .ok (.iload 8, 2) := by decide +kernel
theorem dX7_happens_119 : decode cX7_happens 119 = .ok (.iastore, 1) := by decide +kernel
theorem dX7_happens_120 : decode cX7_happens 120 = .ok (.aload_n 0, 1) := by decide +kernel
theorem dX7_happens_121 : decode cX7_happens 121 = .ok (.getfield 34, 3) := by decide +kernel
theorem dX7_happens_124 : decode cX7_happens 124 = .ok (.iload 5, 2) := by decide +kernel
theorem dX7_happens_126 : decode cX7_happens 126 = .ok (.iload 6, 2) := by decide +kernel
theorem dX7_happens_128 : decode cX7_happens 128 = .ok (.iastore, 1) := by decide +kernel
theorem dX7_happens_129 : decode cX7_happens 129 = .ok (.aload_n 0, 1) := by decide +kernel
theorem dX7_happens_130 : decode cX7_happens 130 = .ok (.getfield 41, 3) := by decide +kernel
theorem dX7_happens_133 : decode cX7_happens 133 = .ok (.iload 4, 2) := by decide +kernel
theorem dX7_happens_135 : decode cX7_happens 135 = .ok (.iload_n 3, 1) := by decide +kernel
theorem dX7_happens_136 : decode cX7_happens 136 = .ok (.iconst 2, 1) := by decide +kernel
theorem dX7_happens_137 : decode cX7_happens 137 = .ok (.if_icmp .ne 13, 3) := by decide +kernel
theorem dX7_happens_140 : decode cX7_happens 140 = .ok (.aload_n 0, 1) := by decide +kernel
theorem dX7_happens_141 : decode cX7_happens 141 = .ok (.getfield 41, 3) := by decide +kernel
theorem dX7_happens_144 : decode cX7_happens 144 = .ok (.iload 4, 2) := by decide +kernel
theorem dX7_happens_146 : decode cX7_happens 146 = .ok (.baload, 1) := by decide +kernel
theorem dX7_happens_147 : decode cX7_happens 147 = .ok (.goto 13, 3) := by decide +kernel
theorem dX7_happens_150 : decode cX7_happens 150 = .ok (.iload_n 3, 1) := by decide +kernel
theorem dX7_happens_151 : decode cX7_happens 151 = .ok (.iconst 1, 1) := by decide +kernel
theorem dX7_happens_152 : decode cX7_happens 152 = .ok (.if_icmp .ne 7, 3) := by decide +kernel
theorem dX7_happens_155 : decode cX7_happens 155 = .ok (.iconst 1, 1) := by decide +kernel
theorem dX7_happens_156 : decode cX7_happens 156 = .ok (.goto 4, 3) := by decide +kernel
theorem dX7_happens_159 : decode cX7_happens 159 = .ok (.iconst 0, 1) := by decide +kernel
theorem dX7_happens_160 : decode cX7_happens 160 = .ok (.bastore, 1) := by decide +kernel
theorem dX7_happens_161 : decode cX7_happens 161 = .ok (.aload_n 0, 1) := by decide +kernel
theorem dX7_happens_162 : decode cX7_happens 162 = .ok (.getfield 53, 3) := by decide +kernel
theorem dX7_happens_165 : decode cX7_happens 165 = .ok (.iload 4, 2) := by decide +kernel
theorem dX7_happens_167 : decode cX7_happens 167 = .ok (.iload 6, 2) := by decide +kernel
theorem dX7_happens_169 : decode cX7_happens 169 = .ok (.iastore, 1) := by decide +kernel
theorem dX7_happens_170 : decode cX7_happens 170 = .ok (.aload_n 0, 1) := by decide +kernel
theorem dX7_happens_171 : decode cX7_happens 171 = .ok (.getfield 37, 3) := by decide +kernel
theorem dX7_happens_174 : decode cX7_happens 174 = .ok (.iload 5, 2) := by decide +kernel
theorem dX7_happens_176 : decode cX7_happens 176 = .ok (.aload_n 0, 1) := by decide +kernel
theorem dX7_happens_177 : decode cX7_happens 177 = .ok (.getfield 37, 3) := by decide +kernel
theorem dX7_happens_180 : decode cX7_happens 180 = .ok (.iload 5, 2) := by decide +kernel
theorem dX7_happens_182 : decode cX7_happens 182 = .ok (.baload, 1) := by decide +kernel
theorem dX7_happens_183 : decode cX7_happens 183 = .ok (.ifCond .ne 19, 3) := by decide +kernel
theorem dX7_happens_186 : decode cX7_happens 186 = .ok (.aload_n 0, 1) := by decide +kernel
theorem dX7_happens_187 : decode cX7_happens 187 = .ok (.getfield 31, 3) := by decide +kernel
theorem dX7_happens_190 : decode cX7_happens 190 = .ok (.iload 5, 2) := by decide +kernel
theorem dX7_happens_192 : decode cX7_happens 192 = .ok (.iaload, 1) := by decide +kernel
theorem dX7_happens_193 : decode cX7_happens 193 = .ok (.aload_n 0, 1) := by decide +kernel
theorem dX7_happens_194 : decode cX7_happens 194 = .ok (.getfield 25, 3) := by decide +kernel
theorem dX7_happens_197 : decode cX7_happens 197 = .ok (.iload_n 1, 1) := by decide +kernel
theorem dX7_happens_198 : decode cX7_happens 198 = .ok (.iaload, 1) := by decide +kernel
theorem dX7_happens_199 : decode cX7_happens 199 = .ok (.if_icmp .le 7, 3) := by decide +kernel
theorem dX7_happens_202 : decode cX7_happens 202 = .ok (.iconst 1, 1) := by decide +kernel
theorem dX7_happens_203 : decode cX7_happens 203 = .ok (.goto 4, 3) := by decide +kernel
theorem dX7_happens_206 : decode cX7_happens 206 = .ok (.iconst 0, 1) := by decide +kernel
theorem dX7_happens_207 : decode cX7_happens 207 = .ok (.bastore, 1) := by decide +kernel
theorem dX7_happens_208 : decode cX7_happens 208 = .ok (.aload_n 0, 1) := by decide +kernel
theorem dX7_happens_209 : decode cX7_happens 209 = .ok (.iload_n 1, 1) := by decide +kernel
theorem dX7_happens_210 : decode cX7_happens 210 = .ok (.invokevirtual 143, 3) := by decide +kernel
theorem dX7_happens_213 : decode cX7_happens 213 = .ok (.return_, 1) := by decide +kernel
theorem dX7_logs_0 : decode cX7_logs 0 = .ok (.aload_n 0, 1) := by decide +kernel
theorem dX7_logs_1 : decode cX7_logs 1 = .ok (.getfield 56, 3) := by decide +kernel
theorem dX7_logs_4 : decode cX7_logs 4 = .ok (.aload_n 0, 1) := by decide +kernel
theorem dX7_logs_5 : decode cX7_logs 5 = .ok (.getfield 147, 3) := by decide +kernel
theorem dX7_logs_8 : decode cX7_logs 8 = .ok (.iload_n 1, 1) := by decide +kernel
theorem dX7_logs_9 : decode cX7_logs 9 = .ok (.iastore, 1) := by decide +kernel
theorem dX7_logs_10 : decode cX7_logs 10 = .ok (.aload_n 0, 1) := by decide +kernel
theorem dX7_logs_11 : decode cX7_logs 11 = .ok (.getfield 59, 3) := by decide +kernel
theorem dX7_logs_14 : decode cX7_logs 14 = .ok (.aload_n 0, 1) := by decide +kernel
theorem dX7_logs_15 : decode cX7_logs 15 = .ok (.getfield 147, 3) := by decide +kernel
theorem dX7_logs_18 : decode cX7_logs 18 = .ok (.iload_n 2, 1) := by decide +kernel
theorem dX7_logs_19 : decode cX7_logs 19 = .ok (.iastore, 1) := by decide +kernel
theorem dX7_logs_20 : decode cX7_logs 20 = .ok (.aload_n 0, 1) := by decide +kernel
theorem dX7_logs_21 : decode cX7_logs 21 = .ok (.getfield 62, 3) := by decide +kernel
theorem dX7_logs_24 : decode cX7_logs 24 = .ok (.aload_n 0, 1) := by decide +kernel
theorem dX7_logs_25 : decode cX7_logs 25 = .ok (.getfield 147, 3) := by decide +kernel
theorem dX7_logs_28 : decode cX7_logs 28 = .ok (.aload_n 0, 1) := by decide +kernel
theorem dX7_logs_29 : decode cX7_logs 29 = .ok (.getfield 22, 3) := by decide +kernel
theorem dX7_logs_32 : decode cX7_logs 32 = .ok (.iconst 0, 1) := by decide +kernel
theorem dX7_logs_33 : decode cX7_logs 33 = .ok (.iaload, 1) := by decide +kernel
theorem dX7_logs_34 : decode cX7_logs 34 = .ok (.iastore, 1) := by decide +kernel
theorem dX7_logs_35 : decode cX7_logs 35 = .ok (.aload_n 0, 1) := by decide +kernel
theorem dX7_logs_36 : decode cX7_logs 36 = .ok (.dup, 1) := by decide +kernel
theorem dX7_logs_37 : decode cX7_logs 37 = .ok (.getfield 147, 3) := by decide +kernel
theorem dX7_logs_40 : decode cX7_logs 40 = .ok (.iconst 1, 1) := by decide +kernel
theorem dX7_logs_41 : decode cX7_logs 41 = .ok (.iadd, 1) := by decide +kernel
theorem dX7_logs_42 : decode cX7_logs 42 = .ok (.putfield 147, 3) := by decide +kernel
theorem dX7_logs_45 : decode cX7_logs 45 = .ok (.aload_n 0, 1) := by decide +kernel
theorem dX7_logs_46 : decode cX7_logs 46 = .ok (.iconst 0, 1) := by decide +kernel
theorem dX7_logs_47 : decode cX7_logs 47 = .ok (.iload_n 1, 1) := by decide +kernel
theorem dX7_logs_48 : decode cX7_logs 48 = .ok (.iload_n 2, 1) := by decide +kernel
theorem dX7_logs_49 : decode cX7_logs 49 = .ok (.invokevirtual 150, 3) := by decide +kernel
theorem dX7_logs_52 : decode cX7_logs 52 = .ok (.return_, 1) := by decide +kernel
theorem dX7_isLine_0 : decode cX7_isLine 0 = .ok (.iload_n 1, 1) := by decide +kernel
theorem dX7_isLine_1 : decode cX7_isLine 1 = .ok (.iconst 0, 1) := by decide +kernel
theorem dX7_isLine_2 : decode cX7_isLine 2 = .ok (.aload_n 0, 1) := by decide +kernel
theorem dX7_isLine_3 : decode cX7_isLine 3 = .ok (.getfield 115, 3) := by decide +kernel
theorem dX7_isLine_6 : decode cX7_isLine 6 = .ok (.iconst 1, 1) := by decide +kernel
theorem dX7_isLine_7 : decode cX7_isLine 7 = .ok (.isub, 1) := by decide +kernel
theorem dX7_isLine_8 : decode cX7_isLine 8 = .ok (.invokestatic 124, 3) := by decide +kernel
theorem dX7_isLine_11 : decode cX7_isLine 11 = .ok (.ireturn, 1) := by decide +kernel
theorem dX7_change_0 : decode cX7_change 0 = .ok (.aload_n 0, 1) := by decide +kernel
theorem dX7_change_1 : decode cX7_change 1 = .ok (.iload_n 1, 1) := by decide +kernel
theorem dX7_change_2 : decode cX7_change 2 = .ok (.invokevirtual 154, 3) := by decide +kernel
theorem dX7_change_5 : decode cX7_change 5 = .ok (.ifCond .ne 6, 3) := by decide +kernel
theorem dX7_change_8 : decode cX7_change 8 = .ok (.bipush (-2), 2) := by decide +kernel
theorem dX7_change_10 : decode cX7_change 10 = .ok (.ireturn, 1) := by decide +kernel
theorem dX7_change_11 : decode cX7_change 11 = .ok (.aload_n 0, 1) := by decide +kernel
theorem dX7_change_12 : decode cX7_change 12 = .ok (.getfield 41, 3) := by decide +kernel
theorem dX7_change_15 : decode cX7_change 15 = .ok (.iload_n 1, 1) := by decide +kernel
theorem dX7_change_16 : decode cX7_change 16 = .ok (.baload, 1) := by decide +kernel
theorem dX7_change_17 : decode cX7_change 17 = .ok (.iload_n 2, 1) := by decide +kernel
theorem dX7_change_18 : decode cX7_change 18 = .ok (.if_icmp .ne 6, 3) := by decide +kernel
theorem dX7_change_21 : decode cX7_change 21 = .ok (.bipush (-3), 2) := by decide +kernel
theorem dX7_change_23 : decode cX7_change 23 = .ok (.ireturn, 1) := by decide +kernel
theorem dX7_change_24 : decode cX7_change 24 = .ok (.aload_n 0, 1) := by decide +kernel
theorem dX7_change_25 : decode cX7_change 25 = .ok (.getfield 147, 3) := by decide +kernel
theorem dX7_change_28 : decode cX7_change 28 = .ok (.sipush 300, 3) := by decide +kernel
theorem dX7_change_31 : decode cX7_change 31 = .ok (.if_icmp .ne 6, 3) := by decide +kernel
theorem dX7_change_34 : decode cX7_change 34 = .ok (.bipush (-4), 2) := by decide +kernel
theorem dX7_change_36 : decode cX7_change 36 = .ok (.ireturn, 1) := by decide +kernel
theorem dX7_change_37 : decode cX7_change 37 = .ok (.aload_n 0, 1) := by decide +kernel
theorem dX7_change_38 : decode cX7_change 38 = .ok (.iload_n 1, 1) := by decide +kernel
theorem dX7_change_39 : decode cX7_change 39 = .ok (.iload_n 2, 1) := by decide +kernel
theorem dX7_change_40 : decode cX7_change 40 = .ok (.ifCond .eq 7, 3) := by decide +kernel
theorem dX7_change_43 : decode cX7_change 43 = .ok (.iconst 1, 1) := by decide +kernel
theorem dX7_change_44 : decode cX7_change 44 = .ok (.goto 4, 3) := by decide +kernel
theorem dX7_change_47 : decode cX7_change 47 = .ok (.iconst 0, 1) := by decide +kernel
theorem dX7_change_48 : decode cX7_change 48 = .ok (.invokevirtual 158, 3) := by decide +kernel
theorem dX7_change_51 : decode cX7_change 51 = .ok (.aload_n 0, 1) := by decide +kernel
theorem dX7_change_52 : decode cX7_change 52 = .ok (.iconst 0, 1) := by decide +kernel
theorem dX7_change_53 : decode cX7_change 53 = .ok (.iload_n 1, 1) := by decide +kernel
theorem dX7_change_54 : decode cX7_change 54 = .ok (.invokevirtual 140, 3) := by decide +kernel
theorem dX7_change_57 : decode cX7_change 57 = .ok (.ireturn, 1) := by decide +kernel
theorem dX7_echo_0 : decode cX7_echo 0 = .ok (.aload_n 0, 1) := by decide +kernel
theorem dX7_echo_1 : decode cX7_echo 1 = .ok (.iload_n 1, 1) := by decide +kernel
theorem dX7_echo_2 : decode cX7_echo 2 = .ok (.invokevirtual 154, 3) := by decide +kernel
theorem dX7_echo_5 : decode cX7_echo 5 = .ok (.ifCond .ne 6, 3) := by decide +kernel
theorem dX7_echo_8 : decode cX7_echo 8 = .ok (.bipush (-2), 2) := by decide +kernel
theorem dX7_echo_10 : decode cX7_echo 10 = .ok (.ireturn, 1) := by decide +kernel
theorem dX7_echo_11 : decode cX7_echo 11 = .ok (.aload_n 0, 1) := by decide +kernel
theorem dX7_echo_12 : decode cX7_echo 12 = .ok (.getfield 147, 3) := by decide +kernel
theorem dX7_echo_15 : decode cX7_echo 15 = .ok (.sipush 300, 3) := by decide +kernel
theorem dX7_echo_18 : decode cX7_echo 18 = .ok (.if_icmp .ne 6, 3) := by decide +kernel
theorem dX7_echo_21 : decode cX7_echo 21 = .ok (.bipush (-4), 2) := by decide +kernel
theorem dX7_echo_23 : decode cX7_echo 23 = .ok (.ireturn, 1) := by decide +kernel
theorem dX7_echo_24 : decode cX7_echo 24 = .ok (.aload_n 0, 1) := by decide +kernel
theorem dX7_echo_25 : decode cX7_echo 25 = .ok (.iload_n 1, 1) := by decide +kernel
theorem dX7_echo_26 : decode cX7_echo 26 = .ok (.iconst 2, 1) := by decide +kernel
theorem dX7_echo_27 : decode cX7_echo 27 = .ok (.invokevirtual 158, 3) := by decide +kernel
theorem dX7_echo_30 : decode cX7_echo 30 = .ok (.aload_n 0, 1) := by decide +kernel
theorem dX7_echo_31 : decode cX7_echo 31 = .ok (.iconst 0, 1) := by decide +kernel
theorem dX7_echo_32 : decode cX7_echo 32 = .ok (.iload_n 1, 1) := by decide +kernel
theorem dX7_echo_33 : decode cX7_echo 33 = .ok (.invokevirtual 140, 3) := by decide +kernel
theorem dX7_echo_36 : decode cX7_echo 36 = .ok (.ireturn, 1) := by decide +kernel
theorem dX7_ticks_0 : decode cX7_ticks 0 = .ok (.aload_n 0, 1) := by decide +kernel
theorem dX7_ticks_1 : decode cX7_ticks 1 = .ok (.getfield 22, 3) := by decide +kernel
theorem dX7_ticks_4 : decode cX7_ticks 4 = .ok (.iload_n 1, 1) := by decide +kernel
theorem dX7_ticks_5 : decode cX7_ticks 5 = .ok (.dup2, 1) := by decide +kernel
theorem dX7_ticks_6 : decode cX7_ticks 6 = .ok (.iaload, 1) := by decide +kernel
theorem dX7_ticks_7 : decode cX7_ticks 7 = .ok (.iconst 1, 1) := by decide +kernel
theorem dX7_ticks_8 : decode cX7_ticks 8 = .ok (.iadd, 1) := by decide +kernel
theorem dX7_ticks_9 : decode cX7_ticks 9 = .ok (.iastore, 1) := by decide +kernel
theorem dX7_ticks_10 : decode cX7_ticks 10 = .ok (.bipush 16, 2) := by decide +kernel
theorem dX7_ticks_12 : decode cX7_ticks 12 = .ok (.iload_n 1, 1) := by decide +kernel
theorem dX7_ticks_13 : decode cX7_ticks 13 = .ok (.imul, 1) := by decide +kernel
theorem dX7_ticks_14 : decode cX7_ticks 14 = .ok (.istore_n 2, 1) := by decide +kernel
theorem dX7_ticks_15 : decode cX7_ticks 15 = .ok (.iload_n 2, 1) := by decide +kernel
theorem dX7_ticks_16 : decode cX7_ticks 16 = .ok (.bipush 16, 2) := by decide +kernel
theorem dX7_ticks_18 : decode cX7_ticks 18 = .ok (.iload_n 1, 1) := by decide +kernel
theorem dX7_ticks_19 : decode cX7_ticks 19 = .ok (.imul, 1) := by decide +kernel
theorem dX7_ticks_20 : decode cX7_ticks 20 = .ok (.bipush 16, 2) := by decide +kernel
theorem dX7_ticks_22 : decode cX7_ticks 22 = .ok (.iadd, 1) := by decide +kernel
theorem dX7_ticks_23 : decode cX7_ticks 23 = .ok (.if_icmp .ge 57, 3) := by decide +kernel
theorem dX7_ticks_26 : decode cX7_ticks 26 = .ok (.aload_n 0, 1) := by decide +kernel
theorem dX7_ticks_27 : decode cX7_ticks 27 = .ok (.getfield 37, 3) := by decide +kernel
theorem dX7_ticks_30 : decode cX7_ticks 30 = .ok (.iload_n 2, 1) := by decide +kernel
theorem dX7_ticks_31 : decode cX7_ticks 31 = .ok (.baload, 1) := by decide +kernel
theorem dX7_ticks_32 : decode cX7_ticks 32 = .ok (.ifCond .eq 42, 3) := by decide +kernel
theorem dX7_ticks_35 : decode cX7_ticks 35 = .ok (.aload_n 0, 1) := by decide +kernel
theorem dX7_ticks_36 : decode cX7_ticks 36 = .ok (.aload_n 0, 1) := by decide +kernel
theorem dX7_ticks_37 : decode cX7_ticks 37 = .ok (.getfield 31, 3) := by decide +kernel
theorem dX7_ticks_40 : decode cX7_ticks 40 = .ok (.iload_n 2, 1) := by decide +kernel
theorem dX7_ticks_41 : decode cX7_ticks 41 = .ok (.iaload, 1) := by decide +kernel
theorem dX7_ticks_42 : decode cX7_ticks 42 = .ok (.aload_n 0, 1) := by decide +kernel
theorem dX7_ticks_43 : decode cX7_ticks 43 = .ok (.getfield 22, 3) := by decide +kernel
theorem dX7_ticks_46 : decode cX7_ticks 46 = .ok (.iload_n 1, 1) := by decide +kernel
theorem dX7_ticks_47 : decode cX7_ticks 47 = .ok (.iaload, 1) := by decide +kernel
theorem dX7_ticks_48 : decode cX7_ticks 48 = .ok (.aload_n 0, 1) := by decide +kernel
theorem dX7_ticks_49 : decode cX7_ticks 49 = .ok (.getfield 34, 3) := by decide +kernel
theorem dX7_ticks_52 : decode cX7_ticks 52 = .ok (.iload_n 2, 1) := by decide +kernel
theorem dX7_ticks_53 : decode cX7_ticks 53 = .ok (.iaload, 1) := by decide +kernel
theorem dX7_ticks_54 : decode cX7_ticks 54 = .ok (.isub, 1) := by decide +kernel
theorem dX7_ticks_55 : decode cX7_ticks 55 = .ok (.invokevirtual 112, 3) := by decide +kernel
theorem dX7_ticks_58 : decode cX7_ticks 58 = .ok (.aload_n 0, 1) := by decide +kernel
theorem dX7_ticks_59 : decode cX7_ticks 59 = .ok (.getfield 28, 3) := by decide +kernel
theorem dX7_ticks_62 : decode cX7_ticks 62 = .ok (.iload_n 1, 1) := by decide +kernel
theorem dX7_ticks_63 : decode cX7_ticks 63 = .ok (.iaload, 1) := by decide +kernel
theorem dX7_ticks_64 : decode cX7_ticks 64 = .ok (.if_icmp .ge 10, 3) := by decide +kernel
theorem dX7_ticks_67 : decode cX7_ticks 67 = .ok (.aload_n 0, 1) := by decide +kernel
theorem dX7_ticks_68 : decode cX7_ticks 68 = .ok (.getfield 37, 3) := by decide +kernel
theorem dX7_ticks_71 : decode cX7_ticks 71 = .ok (.iload_n 2, 1) := by decide +kernel
theorem dX7_ticks_72 : decode cX7_ticks 72 = .ok (.iconst 0, 1) := by decide +kernel
theorem dX7_ticks_73 : decode cX7_ticks 73 = .ok (.bastore, 1) := by decide +kernel
theorem dX7_ticks_74 : decode cX7_ticks 74 = .ok (.iinc 2 1, 3) := by decide +kernel
theorem dX7_ticks_77 : decode cX7_ticks 77 = .ok (.goto (-62), 3) := by decide +kernel
theorem dX7_ticks_80 : decode cX7_ticks 80 = .ok (.iconst 0, 1) := by decide +kernel
theorem dX7_ticks_81 : decode cX7_ticks 81 = .ok (.istore_n 2, 1) := by decide +kernel
theorem dX7_ticks_82 : decode cX7_ticks 82 = .ok (.iload_n 2, 1) := by decide +kernel
theorem dX7_ticks_83 : decode cX7_ticks 83 = .ok (.aload_n 0, 1) := by decide +kernel
theorem dX7_ticks_84 : decode cX7_ticks 84 = .ok (.getfield 115, 3) := by decide +kernel
theorem dX7_ticks_87 : decode cX7_ticks 87 = .ok (.if_icmp .ge 56, 3) := by decide +kernel
theorem dX7_ticks_90 : decode cX7_ticks 90 = .ok (.aload_n 0, 1) := by decide +kernel
theorem dX7_ticks_91 : decode cX7_ticks 91 = .ok (.getfield 50, 3) := by decide +kernel
theorem dX7_ticks_94 : decode cX7_ticks 94 = .ok (.bipush 12, 2) := by decide +kernel
theorem dX7_ticks_96 : decode cX7_ticks 96 = .ok (.iload_n 1, 1) := by decide +kernel
theorem dX7_ticks_97 : decode cX7_ticks 97 = .ok (.imul, 1) := by decide +kernel
theorem dX7_ticks_98 : decode cX7_ticks 98 = .ok (.iload_n 2, 1) := by decide +kernel
theorem dX7_ticks_99 : decode cX7_ticks 99 = .ok (.iadd, 1) := by decide +kernel
theorem dX7_ticks_100 : decode cX7_ticks 100 = .ok (.dup2, 1) := by decide +kernel
theorem dX7_ticks_101 : decode cX7_ticks 101 = .ok (.iaload, 1) := by decide +kernel
theorem dX7_ticks_102 : decode cX7_ticks 102 = .ok (.aload_n 0, 1) := by decide +kernel
theorem dX7_ticks_103 : decode cX7_ticks 103 = .ok (.getfield 41, 3) := by decide +kernel
theorem dX7_ticks_106 : decode cX7_ticks 106 = .ok (.bipush 12, 2) := by decide +kernel
theorem dX7_ticks_108 : decode cX7_ticks 108 = .ok (.iload_n 1, 1) := by decide +kernel
theorem dX7_ticks_109 : decode cX7_ticks 109 = .ok (.imul, 1) := by decide +kernel
theorem dX7_ticks_110 : decode cX7_ticks 110 = .ok (.iload_n 2, 1) := by decide +kernel
theorem dX7_ticks_111 : decode cX7_ticks 111 = .ok (.iadd, 1) := by decide +kernel
theorem dX7_ticks_112 : decode cX7_ticks 112 = .ok (.baload, 1) := by decide +kernel
theorem dX7_ticks_113 : decode cX7_ticks 113 = .ok (.ifCond .eq 21, 3) := by decide +kernel
theorem dX7_ticks_116 : decode cX7_ticks 116 = .ok (.aload_n 0, 1) := by decide +kernel
theorem dX7_ticks_117 : decode cX7_ticks 117 = .ok (.getfield 37, 3) := by decide +kernel
theorem dX7_ticks_120 : decode cX7_ticks 120 = .ok (.aload_n 0, 1) := by decide +kernel
theorem dX7_ticks_121 : decode cX7_ticks 121 = .ok (.iload_n 1, 1) := by decide +kernel
theorem dX7_ticks_122 : decode cX7_ticks 122 = .ok (.iload_n 2, 1) := by decide +kernel
theorem dX7_ticks_123 : decode cX7_ticks 123 = .ok (.invokevirtual 108, 3) := by decide +kernel
theorem dX7_ticks_126 : decode cX7_ticks 126 = .ok (.baload, 1) := by decide +kernel
theorem dX7_ticks_127 : decode cX7_ticks 127 = .ok (.ifCond .eq 7, 3) := by decide +kernel
theorem dX7_ticks_130 : decode cX7_ticks 130 = .ok (.iconst 1, 1) := by decide +kernel
theorem dX7_ticks_131 : decode cX7_ticks 131 = .ok (.goto 4, 3) := by decide +kernel
theorem dX7_ticks_134 : decode cX7_ticks 134 = .ok (.iconst 0, 1) := by decide +kernel
theorem dX7_ticks_135 : decode cX7_ticks 135 = .ok (.iadd, 1) := by decide +kernel
theorem dX7_ticks_136 : decode cX7_ticks 136 = .ok (.iastore, 1) := by decide +kernel
theorem dX7_ticks_137 : decode cX7_ticks 137 = .ok (.iinc 2 1, 3) := by decide +kernel
theorem dX7_ticks_140 : decode cX7_ticks 140 = .ok (.goto (-58), 3) := by decide +kernel
theorem dX7_ticks_143 : decode cX7_ticks 143 = .ok (.aload_n 0, 1) := by decide +kernel
theorem dX7_ticks_144 : decode cX7_ticks 144 = .ok (.iload_n 1, 1) := by decide +kernel
theorem dX7_ticks_145 : decode cX7_ticks 145 = .ok (.invokevirtual 143, 3) := by decide +kernel
theorem dX7_ticks_148 : decode cX7_ticks 148 = .ok (.return_, 1) := by decide +kernel
theorem dX7_tick_0 : decode cX7_tick 0 = .ok (.iload_n 1, 1) := by decide +kernel
theorem dX7_tick_1 : decode cX7_tick 1 = .ok (.iconst 1, 1) := by decide +kernel
theorem dX7_tick_2 : decode cX7_tick 2 = .ok (.sipush 200, 3) := by decide +kernel
theorem dX7_tick_5 : decode cX7_tick 5 = .ok (.invokestatic 124, 3) := by decide +kernel
theorem dX7_tick_8 : decode cX7_tick 8 = .ok (.ifCond .ne 6, 3) := by decide +kernel
theorem dX7_tick_11 : decode cX7_tick 11 = .ok (.bipush (-2), 2) := by decide +kernel
theorem dX7_tick_13 : decode cX7_tick 13 = .ok (.ireturn, 1) := by decide +kernel
theorem dX7_tick_14 : decode cX7_tick 14 = .ok (.aload_n 0, 1) := by decide +kernel
theorem dX7_tick_15 : decode cX7_tick 15 = .ok (.getfield 22, 3) := by decide +kernel
theorem dX7_tick_18 : decode cX7_tick 18 = .ok (.iconst 0, 1) := by decide +kernel
theorem dX7_tick_19 : decode cX7_tick 19 = .ok (.iaload, 1) := by decide +kernel
theorem dX7_tick_20 : decode cX7_tick 20 = .ok (.iload_n 1, 1) := by decide +kernel
theorem dX7_tick_21 : decode cX7_tick 21 = .ok (.iadd, 1) := by decide +kernel
theorem dX7_tick_22 : decode cX7_tick 22 = .ok (.sipush 2000, 3) := by decide +kernel
theorem dX7_tick_25 : decode cX7_tick 25 = .ok (.if_icmp .le 6, 3) := by decide +kernel
theorem dX7_tick_28 : decode cX7_tick 28 = .ok (.bipush (-4), 2) := by decide +kernel
theorem dX7_tick_30 : decode cX7_tick 30 = .ok (.ireturn, 1) := by decide +kernel
theorem dX7_tick_31 : decode cX7_tick 31 = .ok (.iconst 0, 1) := by decide +kernel
theorem dX7_tick_32 : decode cX7_tick 32 = .ok (.istore_n 2, 1) := by decide +kernel
theorem dX7_tick_33 : decode cX7_tick 33 = .ok (.iload_n 2, 1) := by decide +kernel
theorem dX7_tick_34 : decode cX7_tick 34 = .ok (.iload_n 1, 1) := by decide +kernel
theorem dX7_tick_35 : decode cX7_tick 35 = .ok (.if_icmp .ge 14, 3) := by decide +kernel
theorem dX7_tick_38 : decode cX7_tick 38 = .ok (.aload_n 0, 1) := by decide +kernel
theorem dX7_tick_39 : decode cX7_tick 39 = .ok (.iconst 0, 1) := by decide +kernel
theorem dX7_tick_40 : decode cX7_tick 40 = .ok (.invokevirtual 161, 3) := by decide +kernel
theorem dX7_tick_43 : decode cX7_tick 43 = .ok (.iinc 2 1, 3) := by decide +kernel
theorem dX7_tick_46 : decode cX7_tick 46 = .ok (.goto (-13), 3) := by decide +kernel
theorem dX7_tick_49 : decode cX7_tick 49 = .ok (.aload_n 0, 1) := by decide +kernel
theorem dX7_tick_50 : decode cX7_tick 50 = .ok (.getfield 22, 3) := by decide +kernel
theorem dX7_tick_53 : decode cX7_tick 53 = .ok (.iconst 0, 1) := by decide +kernel
theorem dX7_tick_54 : decode cX7_tick 54 = .ok (.iaload, 1) := by decide +kernel
theorem dX7_tick_55 : decode cX7_tick 55 = .ok (.ireturn, 1) := by decide +kernel
theorem dX7_opensIn_0 : decode cX7_opensIn 0 = .ok (.aload_n 0, 1) := by decide +kernel
theorem dX7_opensIn_1 : decode cX7_opensIn 1 = .ok (.iconst 0, 1) := by decide +kernel
theorem dX7_opensIn_2 : decode cX7_opensIn 2 = .ok (.iload_n 1, 1) := by decide +kernel
theorem dX7_opensIn_3 : decode cX7_opensIn 3 = .ok (.invokevirtual 108, 3) := by decide +kernel
theorem dX7_opensIn_6 : decode cX7_opensIn 6 = .ok (.istore_n 2, 1) := by decide +kernel
theorem dX7_opensIn_7 : decode cX7_opensIn 7 = .ok (.aload_n 0, 1) := by decide +kernel
theorem dX7_opensIn_8 : decode cX7_opensIn 8 = .ok (.getfield 37, 3) := by decide +kernel
theorem dX7_opensIn_11 : decode cX7_opensIn 11 = .ok (.iload_n 2, 1) := by decide +kernel
theorem dX7_opensIn_12 : decode cX7_opensIn 12 = .ok (.baload, 1) := by decide +kernel
theorem dX7_opensIn_13 : decode cX7_opensIn 13 = .ok (.ifCond .ne 5, 3) := by decide +kernel
theorem dX7_opensIn_16 : decode cX7_opensIn 16 = .ok (.iconst 0, 1) := by decide +kernel
theorem dX7_opensIn_17 : decode cX7_opensIn 17 = .ok (.ireturn, 1) := by decide +kernel
theorem dX7_opensIn_18 : decode cX7_opensIn 18 = .ok (.iconst 1, 1) := by decide +kernel
theorem dX7_opensIn_19 : decode cX7_opensIn 19 = .ok (.istore_n 3, 1) := by decide +kernel
theorem dX7_opensIn_20 : decode cX7_opensIn 20 = .ok (.aload_n 0, 1) := by decide +kernel
theorem dX7_opensIn_21 : decode cX7_opensIn 21 = .ok (.aload_n 0, 1) := by decide +kernel
theorem dX7_opensIn_22 : decode cX7_opensIn 22 = .ok (.getfield 31, 3) := by decide +kernel
theorem dX7_opensIn_25 : decode cX7_opensIn 25 = .ok (.iload_n 2, 1) := by decide +kernel
theorem dX7_opensIn_26 : decode cX7_opensIn 26 = .ok (.iaload, 1) := by decide +kernel
theorem dX7_opensIn_27 : decode cX7_opensIn 27 = .ok (.aload_n 0, 1) := by decide +kernel
theorem dX7_opensIn_28 : decode cX7_opensIn 28 = .ok (.getfield 22, 3) := by decide +kernel
theorem dX7_opensIn_31 : decode cX7_opensIn 31 = .ok (.iconst 0, 1) := by decide +kernel
theorem dX7_opensIn_32 : decode cX7_opensIn 32 = .ok (.iaload, 1) := by decide +kernel
theorem dX7_opensIn_33 : decode cX7_opensIn 33 = .ok (.aload_n 0, 1) := by decide +kernel
theorem dX7_opensIn_34 : decode cX7_opensIn 34 = .ok (.getfield 34, 3) := by decide +kernel
theorem dX7_opensIn_37 : decode cX7_opensIn 37 = .ok (.iload_n 2, 1) := by decide +kernel
theorem dX7_opensIn_38 : decode cX7_opensIn 38 = .ok (.iaload, 1) := by decide +kernel
theorem dX7_opensIn_39 : decode cX7_opensIn 39 = .ok (.isub, 1) := by decide +kernel
theorem dX7_opensIn_40 : decode cX7_opensIn 40 = .ok (.iload_n 3, 1) := by decide +kernel
theorem dX7_opensIn_41 : decode cX7_opensIn 41 = .ok (.iadd, 1) := by decide +kernel
theorem dX7_opensIn_42 : decode cX7_opensIn 42 = .ok (.invokevirtual 112, 3) := by decide +kernel
theorem dX7_opensIn_45 : decode cX7_opensIn 45 = .ok (.aload_n 0, 1) := by decide +kernel
theorem dX7_opensIn_46 : decode cX7_opensIn 46 = .ok (.getfield 7, 3) := by decide +kernel
theorem dX7_opensIn_49 : decode cX7_opensIn 49 = .ok (.iconst 5, 1) := by decide +kernel
theorem dX7_opensIn_50 : decode cX7_opensIn 50 = .ok (.iaload, 1) := by decide +kernel
theorem dX7_opensIn_51 : decode cX7_opensIn 51 = .ok (.if_icmp .lt 9, 3) := by decide +kernel
theorem dX7_opensIn_54 : decode cX7_opensIn 54 = .ok (.iinc 3 1, 3) := by decide +kernel
theorem dX7_opensIn_57 : decode cX7_opensIn 57 = .ok (.goto (-37), 3) := by decide +kernel
theorem dX7_opensIn_60 : decode cX7_opensIn 60 = .ok (.iload_n 3, 1) := by decide +kernel
theorem dX7_opensIn_61 : decode cX7_opensIn 61 = .ok (.ireturn, 1) := by decide +kernel
theorem dX7_aboutOf_0 : decode cX7_aboutOf 0 = .ok (.iload_n 2, 1) := by decide +kernel
theorem dX7_aboutOf_1 : decode cX7_aboutOf 1 = .ok (.tableswitch 131 0 7 #[47, 54, 69, 89, 104, 111, 118, 125], 47) := by decide +kernel
theorem dX7_aboutOf_48 : decode cX7_aboutOf 48 = .ok (.aload_n 0, 1) := by decide +kernel
theorem dX7_aboutOf_49 : decode cX7_aboutOf 49 = .ok (.iconst 0, 1) := by decide +kernel
theorem dX7_aboutOf_50 : decode cX7_aboutOf 50 = .ok (.iload_n 1, 1) := by decide +kernel
theorem dX7_aboutOf_51 : decode cX7_aboutOf 51 = .ok (.invokevirtual 140, 3) := by decide +kernel
theorem dX7_aboutOf_54 : decode cX7_aboutOf 54 = .ok (.ireturn, 1) := by decide +kernel
theorem dX7_aboutOf_55 : decode cX7_aboutOf 55 = .ok (.aload_n 0, 1) := by decide +kernel
theorem dX7_aboutOf_56 : decode cX7_aboutOf 56 = .ok (.getfield 41, 3) := by decide +kernel
theorem dX7_aboutOf_59 : decode cX7_aboutOf 59 = .ok (.iload_n 1, 1) := by decide +kernel
theorem dX7_aboutOf_60 : decode cX7_aboutOf 60 = .ok (.baload, 1) := by decide +kernel
theorem dX7_aboutOf_61 : decode cX7_aboutOf 61 = .ok (.ifCond .eq 7, 3) := by decide +kernel
theorem dX7_aboutOf_64 : decode cX7_aboutOf 64 = .ok (.iconst 1, 1) := by decide +kernel
theorem dX7_aboutOf_65 : decode cX7_aboutOf 65 = .ok (.goto 4, 3) := by decide +kernel
theorem dX7_aboutOf_68 : decode cX7_aboutOf 68 = .ok (.iconst 0, 1) := by decide +kernel
theorem dX7_aboutOf_69 : decode cX7_aboutOf 69 = .ok (.ireturn, 1) := by decide +kernel
theorem dX7_aboutOf_70 : decode cX7_aboutOf 70 = .ok (.aload_n 0, 1) := by decide +kernel
theorem dX7_aboutOf_71 : decode cX7_aboutOf 71 = .ok (.getfield 37, 3) := by decide +kernel
theorem dX7_aboutOf_74 : decode cX7_aboutOf 74 = .ok (.aload_n 0, 1) := by decide +kernel
theorem dX7_aboutOf_75 : decode cX7_aboutOf 75 = .ok (.iconst 0, 1) := by decide +kernel
theorem dX7_aboutOf_76 : decode cX7_aboutOf 76 = .ok (.iload_n 1, 1) := by decide +kernel
theorem dX7_aboutOf_77 : decode cX7_aboutOf 77 = .ok (.invokevirtual 108, 3) := by decide +kernel
theorem dX7_aboutOf_80 : decode cX7_aboutOf 80 = .ok (.baload, 1) := by decide +kernel
theorem dX7_aboutOf_81 : decode cX7_aboutOf 81 = .ok (.ifCond .eq 7, 3) := by decide +kernel
theorem dX7_aboutOf_84 : decode cX7_aboutOf 84 = .ok (.iconst 1, 1) := by decide +kernel
theorem dX7_aboutOf_85 : decode cX7_aboutOf 85 = .ok (.goto 4, 3) := by decide +kernel
theorem dX7_aboutOf_88 : decode cX7_aboutOf 88 = .ok (.iconst 0, 1) := by decide +kernel
theorem dX7_aboutOf_89 : decode cX7_aboutOf 89 = .ok (.ireturn, 1) := by decide +kernel
theorem dX7_aboutOf_90 : decode cX7_aboutOf 90 = .ok (.aload_n 0, 1) := by decide +kernel
theorem dX7_aboutOf_91 : decode cX7_aboutOf 91 = .ok (.iconst 0, 1) := by decide +kernel
theorem dX7_aboutOf_92 : decode cX7_aboutOf 92 = .ok (.iload_n 1, 1) := by decide +kernel
theorem dX7_aboutOf_93 : decode cX7_aboutOf 93 = .ok (.invokevirtual 119, 3) := by decide +kernel
theorem dX7_aboutOf_96 : decode cX7_aboutOf 96 = .ok (.ifCond .eq 7, 3) := by decide +kernel
theorem dX7_aboutOf_99 : decode cX7_aboutOf 99 = .ok (.iconst 1, 1) := by decide +kernel
theorem dX7_aboutOf_100 : decode cX7_aboutOf 100 = .ok (.goto 4, 3) := by decide +kernel
theorem dX7_aboutOf_103 : decode cX7_aboutOf 103 = .ok (.iconst 0, 1) := by decide +kernel
theorem dX7_aboutOf_104 : decode cX7_aboutOf 104 = .ok (.ireturn, 1) := by decide +kernel
theorem dX7_aboutOf_105 : decode cX7_aboutOf 105 = .ok (.aload_n 0, 1) := by decide +kernel
theorem dX7_aboutOf_106 : decode cX7_aboutOf 106 = .ok (.getfield 47, 3) := by decide +kernel
theorem dX7_aboutOf_109 : decode cX7_aboutOf 109 = .ok (.iload_n 1, 1) := by decide +kernel
theorem dX7_aboutOf_110 : decode cX7_aboutOf 110 = .ok (.iaload, 1) := by decide +kernel
theorem dX7_aboutOf_111 : decode cX7_aboutOf 111 = .ok (.ireturn, 1) := by decide +kernel
theorem dX7_aboutOf_112 : decode cX7_aboutOf 112 = .ok (.aload_n 0, 1) := by decide +kernel
theorem dX7_aboutOf_113 : decode cX7_aboutOf 113 = .ok (.getfield 50, 3) := by decide +kernel
theorem dX7_aboutOf_116 : decode cX7_aboutOf 116 = .ok (.iload_n 1, 1) := by decide +kernel
theorem dX7_aboutOf_117 : decode cX7_aboutOf 117 = .ok (.iaload, 1) := by decide +kernel
theorem dX7_aboutOf_118 : decode cX7_aboutOf 118 = .ok (.ireturn, 1) := by decide +kernel
theorem dX7_aboutOf_119 : decode cX7_aboutOf 119 = .ok (.aload_n 0, 1) := by decide +kernel
theorem dX7_aboutOf_120 : decode cX7_aboutOf 120 = .ok (.getfield 13, 3) := by decide +kernel
theorem dX7_aboutOf_123 : decode cX7_aboutOf 123 = .ok (.iload_n 1, 1) := by decide +kernel
theorem dX7_aboutOf_124 : decode cX7_aboutOf 124 = .ok (.iaload, 1) := by decide +kernel
theorem dX7_aboutOf_125 : decode cX7_aboutOf 125 = .ok (.ireturn, 1) := by decide +kernel
theorem dX7_aboutOf_126 : decode cX7_aboutOf 126 = .ok (.aload_n 0, 1) := by decide +kernel
theorem dX7_aboutOf_127 : decode cX7_aboutOf 127 = .ok (.iload_n 1, 1) := by decide +kernel
theorem dX7_aboutOf_128 : decode cX7_aboutOf 128 = .ok (.invokevirtual 164, 3) := by decide +kernel
theorem dX7_aboutOf_131 : decode cX7_aboutOf 131 = .ok (.ireturn, 1) := by decide +kernel
theorem dX7_aboutOf_132 : decode cX7_aboutOf 132 = .ok (.aload_n 0, 1) := by decide +kernel
theorem dX7_aboutOf_133 : decode cX7_aboutOf 133 = .ok (.getfield 19, 3) := by decide +kernel
theorem dX7_aboutOf_136 : decode cX7_aboutOf 136 = .ok (.iload_n 1, 1) := by decide +kernel
theorem dX7_aboutOf_137 : decode cX7_aboutOf 137 = .ok (.iaload, 1) := by decide +kernel
theorem dX7_aboutOf_138 : decode cX7_aboutOf 138 = .ok (.ireturn, 1) := by decide +kernel
theorem dX7_about_0 : decode cX7_about 0 = .ok (.aload_n 0, 1) := by decide +kernel
theorem dX7_about_1 : decode cX7_about 1 = .ok (.iload_n 1, 1) := by decide +kernel
theorem dX7_about_2 : decode cX7_about 2 = .ok (.invokevirtual 154, 3) := by decide +kernel
theorem dX7_about_5 : decode cX7_about 5 = .ok (.ifCond .eq 22, 3) := by decide +kernel
theorem dX7_about_8 : decode cX7_about 8 = .ok (.iload_n 2, 1) := by decide +kernel
theorem dX7_about_9 : decode cX7_about 9 = .ok (.iconst 0, 1) := by decide +kernel
theorem dX7_about_10 : decode cX7_about 10 = .ok (.bipush 8, 2) := by decide +kernel
theorem dX7_about_12 : decode cX7_about 12 = .ok (.invokestatic 124, 3) := by decide +kernel
theorem dX7_about_15 : decode cX7_about 15 = .ok (.ifCond .eq 12, 3) := by decide +kernel
theorem dX7_about_18 : decode cX7_about 18 = .ok (.aload_n 0, 1) := by decide +kernel
theorem dX7_about_19 : decode cX7_about 19 = .ok (.iload_n 1, 1) := by decide +kernel
theorem dX7_about_20 : decode cX7_about 20 = .ok (.iload_n 2, 1) := by decide +kernel
theorem dX7_about_21 : decode cX7_about 21 = .ok (.invokevirtual 167, 3) := by decide +kernel
theorem dX7_about_24 : decode cX7_about 24 = .ok (.goto 5, 3) := by decide +kernel
theorem dX7_about_27 : decode cX7_about 27 = .ok (.bipush (-2), 2) := by decide +kernel
theorem dX7_about_29 : decode cX7_about 29 = .ok (.ireturn, 1) := by decide +kernel
theorem dX7_longest_0 : decode cX7_longest 0 = .ok (.iconst 0, 1) := by decide +kernel
theorem dX7_longest_1 : decode cX7_longest 1 = .ok (.istore_n 1, 1) := by decide +kernel
theorem dX7_longest_2 : decode cX7_longest 2 = .ok (.aload_n 0, 1) := by decide +kernel
theorem dX7_longest_3 : decode cX7_longest 3 = .ok (.aload_n 0, 1) := by decide +kernel
theorem dX7_longest_4 : decode cX7_longest 4 = .ok (.getfield 7, 3) := by decide +kernel
theorem dX7_longest_7 : decode cX7_longest 7 = .ok (.bipush 6, 2) := by decide +kernel
theorem dX7_longest_9 : decode cX7_longest 9 = .ok (.iaload, 1) := by decide +kernel
theorem dX7_longest_10 : decode cX7_longest 10 = .ok (.iload_n 1, 1) := by decide +kernel
theorem dX7_longest_11 : decode cX7_longest 11 = .ok (.invokevirtual 112, 3) := by decide +kernel
theorem dX7_longest_14 : decode cX7_longest 14 = .ok (.aload_n 0, 1) := by decide +kernel
theorem dX7_longest_15 : decode cX7_longest 15 = .ok (.getfield 7, 3) := by decide +kernel
theorem dX7_longest_18 : decode cX7_longest 18 = .ok (.iconst 5, 1) := by decide +kernel
theorem dX7_longest_19 : decode cX7_longest 19 = .ok (.iaload, 1) := by decide +kernel
theorem dX7_longest_20 : decode cX7_longest 20 = .ok (.if_icmp .lt 9, 3) := by decide +kernel
theorem dX7_longest_23 : decode cX7_longest 23 = .ok (.iinc 1 1, 3) := by decide +kernel
theorem dX7_longest_26 : decode cX7_longest 26 = .ok (.goto (-24), 3) := by decide +kernel
theorem dX7_longest_29 : decode cX7_longest 29 = .ok (.iload_n 1, 1) := by decide +kernel
theorem dX7_longest_30 : decode cX7_longest 30 = .ok (.ireturn, 1) := by decide +kernel
theorem dX7_event_0 : decode cX7_event 0 = .ok (.iload_n 2, 1) := by decide +kernel
theorem dX7_event_1 : decode cX7_event 1 = .ok (.iconst 0, 1) := by decide +kernel
theorem dX7_event_2 : decode cX7_event 2 = .ok (.iconst 2, 1) := by decide +kernel
theorem dX7_event_3 : decode cX7_event 3 = .ok (.invokestatic 124, 3) := by decide +kernel
theorem dX7_event_6 : decode cX7_event 6 = .ok (.ifCond .ne 6, 3) := by decide +kernel
theorem dX7_event_9 : decode cX7_event 9 = .ok (.bipush (-2), 2) := by decide +kernel
theorem dX7_event_11 : decode cX7_event 11 = .ok (.ireturn, 1) := by decide +kernel
theorem dX7_event_12 : decode cX7_event 12 = .ok (.iload_n 1, 1) := by decide +kernel
theorem dX7_event_13 : decode cX7_event 13 = .ok (.iconst 0, 1) := by decide +kernel
theorem dX7_event_14 : decode cX7_event 14 = .ok (.aload_n 0, 1) := by decide +kernel
theorem dX7_event_15 : decode cX7_event 15 = .ok (.getfield 147, 3) := by decide +kernel
theorem dX7_event_18 : decode cX7_event 18 = .ok (.iconst 1, 1) := by decide +kernel
theorem dX7_event_19 : decode cX7_event 19 = .ok (.isub, 1) := by decide +kernel
theorem dX7_event_20 : decode cX7_event 20 = .ok (.invokestatic 124, 3) := by decide +kernel
theorem dX7_event_23 : decode cX7_event 23 = .ok (.ifCond .ne 7, 3) := by decide +kernel
theorem dX7_event_26 : decode cX7_event 26 = .ok (.iconst (-1), 1) := by decide +kernel
theorem dX7_event_27 : decode cX7_event 27 = .ok (.goto 36, 3) := by decide +kernel
theorem dX7_event_30 : decode cX7_event 30 = .ok (.iload_n 2, 1) := by decide +kernel
theorem dX7_event_31 : decode cX7_event 31 = .ok (.ifCond .ne 12, 3) := by decide +kernel
theorem dX7_event_34 : decode cX7_event 34 = .ok (.aload_n 0, 1) := by decide +kernel
theorem dX7_event_35 : decode cX7_event 35 = .ok (.getfield 56, 3) := by decide +kernel
theorem dX7_event_38 : decode cX7_event 38 = .ok (.iload_n 1, 1) := by decide +kernel
theorem dX7_event_39 : decode cX7_event 39 = .ok (.iaload, 1) := by decide +kernel
theorem dX7_event_40 : decode cX7_event 40 = .ok (.goto 23, 3) := by decide +kernel
theorem dX7_event_43 : decode cX7_event 43 = .ok (.iload_n 2, 1) := by decide +kernel
theorem dX7_event_44 : decode cX7_event 44 = .ok (.iconst 1, 1) := by decide +kernel
theorem dX7_event_45 : decode cX7_event 45 = .ok (.if_icmp .ne 12, 3) := by decide +kernel
theorem dX7_event_48 : decode cX7_event 48 = .ok (.aload_n 0, 1) := by decide +kernel
theorem dX7_event_49 : decode cX7_event 49 = .ok (.getfield 59, 3) := by decide +kernel
theorem dX7_event_52 : decode cX7_event 52 = .ok (.iload_n 1, 1) := by decide +kernel
theorem dX7_event_53 : decode cX7_event 53 = .ok (.iaload, 1) := by decide +kernel
theorem dX7_event_54 : decode cX7_event 54 = .ok (.goto 9, 3) := by decide +kernel
theorem dX7_event_57 : decode cX7_event 57 = .ok (.aload_n 0, 1) := by decide +kernel
theorem dX7_event_58 : decode cX7_event 58 = .ok (.getfield 62, 3) := by decide +kernel
theorem dX7_event_61 : decode cX7_event 61 = .ok (.iload_n 1, 1) := by decide +kernel
theorem dX7_event_62 : decode cX7_event 62 = .ok (.iaload, 1) := by decide +kernel
theorem dX7_event_63 : decode cX7_event 63 = .ok (.ireturn, 1) := by decide +kernel
theorem dX7_isSomeShut_0 : decode cX7_isSomeShut 0 = .ok (.bipush 16, 2) := by decide +kernel
theorem dX7_isSomeShut_2 : decode cX7_isSomeShut 2 = .ok (.istore_n 1, 1) := by decide +kernel
theorem dX7_isSomeShut_3 : decode cX7_isSomeShut 3 = .ok (.iload_n 1, 1) := by decide +kernel
theorem dX7_isSomeShut_4 : decode cX7_isSomeShut 4 = .ok (.bipush 32, 2) := by decide +kernel
theorem dX7_isSomeShut_6 : decode cX7_isSomeShut 6 = .ok (.if_icmp .ge 20, 3) := by decide +kernel
theorem dX7_isSomeShut_9 : decode cX7_isSomeShut 9 = .ok (.aload_n 0, 1) := by decide +kernel
theorem dX7_isSomeShut_10 : decode cX7_isSomeShut 10 = .ok (.getfield 37, 3) := by decide +kernel
theorem dX7_isSomeShut_13 : decode cX7_isSomeShut 13 = .ok (.iload_n 1, 1) := by decide +kernel
theorem dX7_isSomeShut_14 : decode cX7_isSomeShut 14 = .ok (.baload, 1) := by decide +kernel
theorem dX7_isSomeShut_15 : decode cX7_isSomeShut 15 = .ok (.ifCond .eq 5, 3) := by decide +kernel
theorem dX7_isSomeShut_18 : decode cX7_isSomeShut 18 = .ok (.iconst 1, 1) := by decide +kernel
theorem dX7_isSomeShut_19 : decode cX7_isSomeShut 19 = .ok (.ireturn, 1) := by decide +kernel
theorem dX7_isSomeShut_20 : decode cX7_isSomeShut 20 = .ok (.iinc 1 1, 3) := by decide +kernel
theorem dX7_isSomeShut_23 : decode cX7_isSomeShut 23 = .ok (.goto (-20), 3) := by decide +kernel
theorem dX7_isSomeShut_26 : decode cX7_isSomeShut 26 = .ok (.iconst 0, 1) := by decide +kernel
theorem dX7_isSomeShut_27 : decode cX7_isSomeShut 27 = .ok (.ireturn, 1) := by decide +kernel
theorem dX7_goesTo_0 : decode cX7_goesTo 0 = .ok (.aload_n 0, 1) := by decide +kernel
theorem dX7_goesTo_1 : decode cX7_goesTo 1 = .ok (.getfield 22, 3) := by decide +kernel
theorem dX7_goesTo_4 : decode cX7_goesTo 4 = .ok (.iconst 1, 1) := by decide +kernel
theorem dX7_goesTo_5 : decode cX7_goesTo 5 = .ok (.iaload, 1) := by decide +kernel
theorem dX7_goesTo_6 : decode cX7_goesTo 6 = .ok (.iload_n 1, 1) := by decide +kernel
theorem dX7_goesTo_7 : decode cX7_goesTo 7 = .ok (.if_icmp .ge 28, 3) := by decide +kernel
theorem dX7_goesTo_10 : decode cX7_goesTo 10 = .ok (.aload_n 0, 1) := by decide +kernel
theorem dX7_goesTo_11 : decode cX7_goesTo 11 = .ok (.invokevirtual 170, 3) := by decide +kernel
theorem dX7_goesTo_14 : decode cX7_goesTo 14 = .ok (.ifCond .eq 11, 3) := by decide +kernel
theorem dX7_goesTo_17 : decode cX7_goesTo 17 = .ok (.aload_n 0, 1) := by decide +kernel
theorem dX7_goesTo_18 : decode cX7_goesTo 18 = .ok (.iconst 1, 1) := by decide +kernel
