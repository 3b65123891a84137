/-! decode rows, as printed -/
theorem dX12_told_93 : decode cX12_told 93 = .ok (.iload_n 1, 1) := by decide +kernel
theorem dX12_told_94 : decode cX12_told 94 = .ok (.iload_n 3, 1) := by decide +kernel
theorem dX12_told_95 : decode cX12_told 95 = .ok (.invokevirtual 69, 3) := by decide +kernel
theorem dX12_told_98 : decode cX12_told 98 = .ok (.ifCond .eq 7, 3) := by decide +kernel
theorem dX12_told_101 : decode cX12_told 101 = .ok (.iconst 1, 1) := by decide +kernel
theorem dX12_told_102 : decode cX12_told 102 = .ok (.goto 4, 3) := by decide +kernel
theorem dX12_told_105 : decode cX12_told 105 = .ok (.iconst 0, 1) := by decide +kernel
theorem dX12_told_106 : decode cX12_told 106 = .ok (.ireturn, 1) := by decide +kernel
theorem dX12_told_107 : decode cX12_told 107 = .ok (.aload_n 0, 1) := by decide +kernel
theorem dX12_told_108 : decode cX12_told 108 = .ok (.iload_n 3, 1) := by decide +kernel
theorem dX12_told_109 : decode cX12_told 109 = .ok (.iconst 0, 1) := by decide +kernel
theorem dX12_told_110 : decode cX12_told 110 = .ok (.sipush 9999, 3) := by decide +kernel
theorem dX12_told_113 : decode cX12_told 113 = .ok (.invokevirtual 7, 3) := by decide +kernel
theorem dX12_told_116 : decode cX12_told 116 = .ok (.ifCond .eq 12, 3) := by decide +kernel
theorem dX12_told_119 : decode cX12_told 119 = .ok (.aload_n 0, 1) := by decide +kernel
theorem dX12_told_120 : decode cX12_told 120 = .ok (.iload_n 1, 1) := by decide +kernel
theorem dX12_told_121 : decode cX12_told 121 = .ok (.iload_n 3, 1) := by decide +kernel
theorem dX12_told_122 : decode cX12_told 122 = .ok (.invokevirtual 73, 3) := by decide +kernel
theorem dX12_told_125 : decode cX12_told 125 = .ok (.goto 5, 3) := by decide +kernel
theorem dX12_told_128 : decode cX12_told 128 = .ok (.bipush (-2), 2) := by decide +kernel
theorem dX12_told_130 : decode cX12_told 130 = .ok (.ireturn, 1) := by decide +kernel
theorem dX12_told_131 : decode cX12_told 131 = .ok (.bipush (-2), 2) := by decide +kernel
theorem dX12_told_133 : decode cX12_told 133 = .ok (.ireturn, 1) := by decide +kernel
theorem dX12_init_0 : decode cX12_init 0 = .ok (.aload_n 0, 1) := by decide +kernel
theorem dX12_init_1 : decode cX12_init 1 = .ok (.invokespecial 77, 3) := by decide +kernel
theorem dX12_init_4 : decode cX12_init 4 = .ok (.aload_n 0, 1) := by decide +kernel
theorem dX12_init_5 : decode cX12_init 5 = .ok (.iconst 0, 1) := by decide +kernel
theorem dX12_init_6 : decode cX12_init 6 = .ok (.putfield 1, 3) := by decide +kernel
theorem dX12_init_9 : decode cX12_init 9 = .ok (.aload_n 0, 1) := by decide +kernel
theorem dX12_init_10 : decode cX12_init 10 = .ok (.iconst 2, 1) := by decide +kernel
theorem dX12_init_11 : decode cX12_init 11 = .ok (.putfield 28, 3) := by decide +kernel
theorem dX12_init_14 : decode cX12_init 14 = .ok (.aload_n 0, 1) := by decide +kernel
theorem dX12_init_15 : decode cX12_init 15 = .ok (.iconst (-1), 1) := by decide +kernel
theorem dX12_init_16 : decode cX12_init 16 = .ok (.putfield 50, 3) := by decide +kernel
theorem dX12_init_19 : decode cX12_init 19 = .ok (.aload_n 0, 1) := by decide +kernel
theorem dX12_init_20 : decode cX12_init 20 = .ok (.iconst 0, 1) := by decide +kernel
theorem dX12_init_21 : decode cX12_init 21 = .ok (.putfield 59, 3) := by decide +kernel
theorem dX12_init_24 : decode cX12_init 24 = .ok (.aload_n 0, 1) := by decide +kernel
theorem dX12_init_25 : decode cX12_init 25 = .ok (.iconst 0, 1) := by decide +kernel
theorem dX12_init_26 : decode cX12_init 26 = .ok (.putfield 62, 3) := by decide +kernel
theorem dX12_init_29 : decode cX12_init 29 = .ok (.aload_n 0, 1) := by decide +kernel
theorem dX12_init_30 : decode cX12_init 30 = .ok (.bipush 8, 2) := by decide +kernel
theorem dX12_init_32 : decode cX12_init 32 = .ok (.newarray .int, 2) := by decide +kernel
theorem dX12_init_34 : decode cX12_init 34 = .ok (.putfield 11, 3) := by decide +kernel
theorem dX12_init_37 : decode cX12_init 37 = .ok (.aload_n 0, 1) := by decide +kernel
theorem dX12_init_38 : decode cX12_init 38 = .ok (.bipush 8, 2) := by decide +kernel
theorem dX12_init_40 : decode cX12_init 40 = .ok (.newarray .int, 2) := by decide +kernel
theorem dX12_init_42 : decode cX12_init 42 = .ok (.putfield 15, 3) := by decide +kernel
theorem dX12_init_45 : decode cX12_init 45 = .ok (.aload_n 0, 1) := by decide +kernel
theorem dX12_init_46 : decode cX12_init 46 = .ok (.bipush 8, 2) := by decide +kernel
theorem dX12_init_48 : decode cX12_init 48 = .ok (.newarray .int, 2) := by decide +kernel
theorem dX12_init_50 : decode cX12_init 50 = .ok (.putfield 18, 3) := by decide +kernel
theorem dX12_init_53 : decode cX12_init 53 = .ok (.aload_n 0, 1) := by decide +kernel
theorem dX12_init_54 : decode cX12_init 54 = .ok (.bipush 120, 2) := by decide +kernel
theorem dX12_init_56 : decode cX12_init 56 = .ok (.newarray .int, 2) := by decide +kernel
theorem dX12_init_58 : decode cX12_init 58 = .ok (.putfield 31, 3) := by decide +kernel
theorem dX12_init_61 : decode cX12_init 61 = .ok (.aload_n 0, 1) := by decide +kernel
theorem dX12_init_62 : decode cX12_init 62 = .ok (.bipush 120, 2) := by decide +kernel
theorem dX12_init_64 : decode cX12_init 64 = .ok (.newarray .int, 2) := by decide +kernel
theorem dX12_init_66 : decode cX12_init 66 = .ok (.putfield 34, 3) := by decide +kernel
theorem dX12_init_69 : decode cX12_init 69 = .ok (.aload_n 0, 1) := by decide +kernel
theorem dX12_init_70 : decode cX12_init 70 = .ok (.iconst 0, 1) := by decide +kernel
theorem dX12_init_71 : decode cX12_init 71 = .ok (.putfield 83, 3) := by decide +kernel
theorem dX12_init_74 : decode cX12_init 74 = .ok (.aload_n 0, 1) := by decide +kernel
theorem dX12_init_75 : decode cX12_init 75 = .ok (.iconst 0, 1) := by decide +kernel
theorem dX12_init_76 : decode cX12_init 76 = .ok (.putfield 86, 3) := by decide +kernel
theorem dX12_init_79 : decode cX12_init 79 = .ok (.aload_n 0, 1) := by decide +kernel
theorem dX12_init_80 : decode cX12_init 80 = .ok (.iconst 0, 1) := by decide +kernel
theorem dX12_init_81 : decode cX12_init 81 = .ok (.putfield 89, 3) := by decide +kernel
theorem dX12_init_84 : decode cX12_init 84 = .ok (.aload_n 0, 1) := by decide +kernel
theorem dX12_init_85 : decode cX12_init 85 = .ok (.iconst 0, 1) := by decide +kernel
theorem dX12_init_86 : decode cX12_init 86 = .ok (.putfield 92, 3) := by decide +kernel
theorem dX12_init_89 : decode cX12_init 89 = .ok (.aload_n 0, 1) := by decide +kernel
theorem dX12_init_90 : decode cX12_init 90 = .ok (.iconst 0, 1) := by decide +kernel
theorem dX12_init_91 : decode cX12_init 91 = .ok (.putfield 95, 3) := by decide +kernel
theorem dX12_init_94 : decode cX12_init 94 = .ok (.aload_n 0, 1) := by decide +kernel
theorem dX12_init_95 : decode cX12_init 95 = .ok (.iconst 0, 1) := by decide +kernel
theorem dX12_init_96 : decode cX12_init 96 = .ok (.putfield 98, 3) := by decide +kernel
theorem dX12_init_99 : decode cX12_init 99 = .ok (.aload_n 0, 1) := by decide +kernel
theorem dX12_init_100 : decode cX12_init 100 = .ok (.iconst 0, 1) := by decide +kernel
theorem dX12_init_101 : decode cX12_init 101 = .ok (.putfield 101, 3) := by decide +kernel
theorem dX12_init_104 : decode cX12_init 104 = .ok (.aload_n 0, 1) := by decide +kernel
theorem dX12_init_105 : decode cX12_init 105 = .ok (.iconst 0, 1) := by decide +kernel
theorem dX12_init_106 : decode cX12_init 106 = .ok (.putfield 104, 3) := by decide +kernel
theorem dX12_init_109 : decode cX12_init 109 = .ok (.aload_n 0, 1) := by decide +kernel
theorem dX12_init_110 : decode cX12_init 110 = .ok (.iconst 0, 1) := by decide +kernel
theorem dX12_init_111 : decode cX12_init 111 = .ok (.putfield 107, 3) := by decide +kernel
theorem dX12_init_114 : decode cX12_init 114 = .ok (.aload_n 0, 1) := by decide +kernel
theorem dX12_init_115 : decode cX12_init 115 = .ok (.iconst 0, 1) := by decide +kernel
theorem dX12_init_116 : decode cX12_init 116 = .ok (.putfield 110, 3) := by decide +kernel
theorem dX12_init_119 : decode cX12_init 119 = .ok (.aload_n 0, 1) := by decide +kernel
theorem dX12_init_120 : decode cX12_init 120 = .ok (.sipush 160, 3) := by decide +kernel
theorem dX12_init_123 : decode cX12_init 123 = .ok (.newarray .int, 2) := by decide +kernel
theorem dX12_init_125 : decode cX12_init 125 = .ok (.putfield 113, 3) := by decide +kernel
theorem dX12_init_128 : decode cX12_init 128 = .ok (.aload_n 0, 1) := by decide +kernel
theorem dX12_init_129 : decode cX12_init 129 = .ok (.sipush 2880, 3) := by decide +kernel
theorem dX12_init_132 : decode cX12_init 132 = .ok (.newarray .int, 2) := by decide +kernel
theorem dX12_init_134 : decode cX12_init 134 = .ok (.putfield 116, 3) := by decide +kernel
theorem dX12_init_137 : decode cX12_init 137 = .ok (.aload_n 0, 1) := by decide +kernel
theorem dX12_init_138 : decode cX12_init 138 = .ok (.sipush 2880, 3) := by decide +kernel
theorem dX12_init_141 : decode cX12_init 141 = .ok (.newarray .int, 2) := by decide +kernel
theorem dX12_init_143 : decode cX12_init 143 = .ok (.putfield 119, 3) := by decide +kernel
theorem dX12_init_146 : decode cX12_init 146 = .ok (.aload_n 0, 1) := by decide +kernel
theorem dX12_init_147 : decode cX12_init 147 = .ok (.bipush 18, 2) := by decide +kernel
theorem dX12_init_149 : decode cX12_init 149 = .ok (.newarray .int, 2) := by decide +kernel
theorem dX12_init_151 : decode cX12_init 151 = .ok (.putfield 122, 3) := by decide +kernel
theorem dX12_init_154 : decode cX12_init 154 = .ok (.aload_n 0, 1) := by decide +kernel
theorem dX12_init_155 : decode cX12_init 155 = .ok (.sipush 161, 3) := by decide +kernel
theorem dX12_init_158 : decode cX12_init 158 = .ok (.newarray .int, 2) := by decide +kernel
theorem dX12_init_160 : decode cX12_init 160 = .ok (.putfield 125, 3) := by decide +kernel
theorem dX12_init_163 : decode cX12_init 163 = .ok (.aload_n 0, 1) := by decide +kernel
theorem dX12_init_164 : decode cX12_init 164 = .ok (.sipush 161, 3) := by decide +kernel
theorem dX12_init_167 : decode cX12_init 167 = .ok (.newarray .int, 2) := by decide +kernel
theorem dX12_init_169 : decode cX12_init 169 = .ok (.putfield 128, 3) := by decide +kernel
theorem dX12_init_172 : decode cX12_init 172 = .ok (.aload_n 0, 1) := by decide +kernel
theorem dX12_init_173 : decode cX12_init 173 = .ok (.bipush 6, 2) := by decide +kernel
theorem dX12_init_175 : decode cX12_init 175 = .ok (.newarray .int, 2) := by decide +kernel
theorem dX12_init_177 : decode cX12_init 177 = .ok (.putfield 131, 3) := by decide +kernel
theorem dX12_init_180 : decode cX12_init 180 = .ok (.aload_n 0, 1) := by decide +kernel
theorem dX12_init_181 : decode cX12_init 181 = .ok (.iconst 2, 1) := by decide +kernel
theorem dX12_init_182 : decode cX12_init 182 = .ok (.newarray .int, 2) := by decide +kernel
theorem dX12_init_184 : decode cX12_init 184 = .ok (.putfield 134, 3) := by decide +kernel
theorem dX12_init_187 : decode cX12_init 187 = .ok (.aload_n 0, 1) := by decide +kernel
theorem dX12_init_188 : decode cX12_init 188 = .ok (.iconst 2, 1) := by decide +kernel
theorem dX12_init_189 : decode cX12_init 189 = .ok (.newarray .int, 2) := by decide +kernel
theorem dX12_init_191 : decode cX12_init 191 = .ok (.putfield 137, 3) := by decide +kernel
theorem dX12_init_194 : decode cX12_init 194 = .ok (.aload_n 0, 1) := by decide +kernel
theorem dX12_init_195 : decode cX12_init 195 = .ok (.iconst 2, 1) := by decide +kernel
theorem dX12_init_196 : decode cX12_init 196 = .ok (.newarray .int, 2) := by decide +kernel
theorem dX12_init_198 : decode cX12_init 198 = .ok (.putfield 140, 3) := by decide +kernel
theorem dX12_init_201 : decode cX12_init 201 = .ok (.aload_n 0, 1) := by decide +kernel
theorem dX12_init_202 : decode cX12_init 202 = .ok (.bipush 8, 2) := by decide +kernel
theorem dX12_init_204 : decode cX12_init 204 = .ok (.newarray .int, 2) := by decide +kernel
theorem dX12_init_206 : decode cX12_init 206 = .ok (.putfield 143, 3) := by decide +kernel
theorem dX12_init_209 : decode cX12_init 209 = .ok (.aload_n 0, 1) := by decide +kernel
theorem dX12_init_210 : decode cX12_init 210 = .ok (.bipush 8, 2) := by decide +kernel
theorem dX12_init_212 : decode cX12_init 212 = .ok (.newarray .int, 2) := by decide +kernel
theorem dX12_init_214 : decode cX12_init 214 = .ok (.putfield 146, 3) := by decide +kernel
theorem dX12_init_217 : decode cX12_init 217 = .ok (.aload_n 0, 1) := by decide +kernel
theorem dX12_init_218 : decode cX12_init 218 = .ok (.iconst 0, 1) := by decide +kernel
theorem dX12_init_219 : decode cX12_init 219 = .ok (.putfield 149, 3) := by decide +kernel
theorem dX12_init_222 : decode cX12_init 222 = .ok (.aload_n 0, 1) := by decide +kernel
theorem dX12_init_223 : decode cX12_init 223 = .ok (.iconst 0, 1) := by decide +kernel
theorem dX12_init_224 : decode cX12_init 224 = .ok (.putfield 152, 3) := by decide +kernel
theorem dX12_init_227 : decode cX12_init 227 = .ok (.aload_n 0, 1) := by decide +kernel
theorem dX12_init_228 : decode cX12_init 228 = .ok (.iconst (-1), 1) := by decide +kernel
theorem dX12_init_229 : decode cX12_init 229 = .ok (.putfield 155, 3) := by decide +kernel
theorem dX12_init_232 : decode cX12_init 232 = .ok (.aload_n 0, 1) := by decide +kernel
theorem dX12_init_233 : decode cX12_init 233 = .ok (.iconst (-1), 1) := by decide +kernel
theorem dX12_init_234 : decode cX12_init 234 = .ok (.putfield 158, 3) := by decide +kernel
theorem dX12_init_237 : decode cX12_init 237 = .ok (.aload_n 0, 1) := by decide +kernel
theorem dX12_init_238 : decode cX12_init 238 = .ok (.iconst 0, 1) := by decide +kernel
theorem dX12_init_239 : decode cX12_init 239 = .ok (.putfield 161, 3) := by decide +kernel
theorem dX12_init_242 : decode cX12_init 242 = .ok (.aload_n 0, 1) := by decide +kernel
theorem dX12_init_243 : decode cX12_init 243 = .ok (.iconst (-1), 1) := by decide +kernel
theorem dX12_init_244 : decode cX12_init 244 = .ok (.putfield 164, 3) := by decide +kernel
theorem dX12_init_247 : decode cX12_init 247 = .ok (.aload_n 0, 1) := by decide +kernel
theorem dX12_init_248 : decode cX12_init 248 = .ok (.iconst (-1), 1) := by decide +kernel
theorem dX12_init_249 : decode cX12_init 249 = .ok (.putfield 167, 3) := by decide +kernel
theorem dX12_init_252 : decode cX12_init 252 = .ok (.aload_n 0, 1) := by decide +kernel
theorem dX12_init_253 : decode cX12_init 253 = .ok (.iconst (-1), 1) := by decide +kernel
theorem dX12_init_254 : decode cX12_init 254 = .ok (.putfield 170, 3) := by decide +kernel
theorem dX12_init_257 : decode cX12_init 257 = .ok (.aload_n 0, 1) := by decide +kernel
theorem dX12_init_258 : decode cX12_init 258 = .ok (.lconst 0, 1) := by decide +kernel
theorem dX12_init_259 : decode cX12_init 259 = .ok (.putfield 173, 3) := by decide +kernel
theorem dX12_init_262 : decode cX12_init 262 = .ok (.aload_n 0, 1) := by decide +kernel
theorem dX12_init_263 : decode cX12_init 263 = .ok (.iconst 0, 1) := by decide +kernel
theorem dX12_init_264 : decode cX12_init 264 = .ok (.putfield 177, 3) := by decide +kernel
theorem dX12_init_267 : decode cX12_init 267 = .ok (.aload_n 0, 1) := by decide +kernel
theorem dX12_init_268 : decode cX12_init 268 = .ok (.iconst 0, 1) := by decide +kernel
theorem dX12_init_269 : decode cX12_init 269 = .ok (.putfield 181, 3) := by decide +kernel
theorem dX12_init_272 : decode cX12_init 272 = .ok (.aload_n 0, 1) := by decide +kernel
theorem dX12_init_273 : decode cX12_init 273 = .ok (.iconst (-1), 1) := by decide +kernel
theorem dX12_init_274 : decode cX12_init 274 = .ok (.putfield 184, 3) := by decide +kernel
theorem dX12_init_277 : decode cX12_init 277 = .ok (.aload_n 0, 1) := by decide +kernel
theorem dX12_init_278 : decode cX12_init 278 = .ok (.iconst 0, 1) := by decide +kernel
theorem dX12_init_279 : decode cX12_init 279 = .ok (.putfield 187, 3) := by decide +kernel
theorem dX12_init_282 : decode cX12_init 282 = .ok (.aload_n 0, 1) := by decide +kernel
theorem dX12_init_283 : decode cX12_init 283 = .ok (.iconst 0, 1) := by decide +kernel
theorem dX12_init_284 : decode cX12_init 284 = .ok (.putfield 190, 3) := by decide +kernel
theorem dX12_init_287 : decode cX12_init 287 = .ok (.aload_n 0, 1) := by decide +kernel
theorem dX12_init_288 : decode cX12_init 288 = .ok (.iconst 0, 1) := by decide +kernel
theorem dX12_init_289 : decode cX12_init 289 = .ok (.putfield 193, 3) := by decide +kernel
theorem dX12_init_292 : decode cX12_init 292 = .ok (.aload_n 0, 1) := by decide +kernel
theorem dX12_init_293 : decode cX12_init 293 = .ok (.bipush 120, 2) := by decide +kernel
theorem dX12_init_295 : decode cX12_init 295 = .ok (.newarray .int, 2) := by decide +kernel
theorem dX12_init_297 : decode cX12_init 297 = .ok (.putfield 196, 3) := by decide +kernel
theorem dX12_init_300 : decode cX12_init 300 = .ok (.aload_n 0, 1) := by decide +kernel
theorem dX12_init_301 : decode cX12_init 301 = .ok (.bipush 120, 2) := by decide +kernel
theorem dX12_init_303 : decode cX12_init 303 = .ok (.newarray .int, 2) := by decide +kernel
theorem dX12_init_305 : decode cX12_init 305 = .ok (.putfield 199, 3) := by decide +kernel
theorem dX12_init_308 : decode cX12_init 308 = .ok (.aload_n 0, 1) := by decide +kernel
theorem dX12_init_309 : decode cX12_init 309 = .ok (.iconst 4, 1) := by decide +kernel
theorem dX12_init_310 : decode cX12_init 310 = .ok (.newarray .int, 2) := by decide +kernel
theorem dX12_init_312 : decode cX12_init 312 = .ok (.dup, 1) := by decide +kernel
theorem dX12_init_313 : decode cX12_init 313 = .ok (.iconst 0, 1) := by decide +kernel
theorem dX12_init_314 : decode cX12_init 314 = .ok (.iconst (-1), 1) := by decide +kernel
theorem dX12_init_315 : decode cX12_init 315 = .ok (.iastore, 1) := by decide +kernel
theorem dX12_init_316 : decode cX12_init 316 = .ok (.dup, 1) := by decide +kernel
theorem dX12_init_317 : decode cX12_init 317 = .ok (.iconst 1, 1) := by decide +kernel
theorem dX12_init_318 : decode cX12_init 318 = .ok (.iconst (-1), 1) := by decide +kernel
theorem dX12_init_319 : decode cX12_init 319 = .ok (.iastore, 1) := by decide +kernel
theorem dX12_init_320 : decode cX12_init 320 = .ok (.dup, 1) := by decide +kernel
theorem dX12_init_321 : decode cX12_init 321 = .ok (.iconst 2, 1) := by decide +kernel
theorem dX12_init_322 : decode cX12_init 322 = .ok (.iconst (-1), 1) := by decide +kernel
theorem dX12_init_323 : decode cX12_init 323 = .ok (.iastore, 1) := by decide +kernel
theorem dX12_init_324 : decode cX12_init 324 = .ok (.dup, 1) := by decide +kernel
theorem dX12_init_325 : decode cX12_init 325 = .ok (.iconst 3, 1) := by decide +kernel
theorem dX12_init_326 : decode cX12_init 326 = .ok (.iconst (-1), 1) := by decide +kernel
theorem dX12_init_327 : decode cX12_init 327 = .ok (.iastore, 1) := by decide +kernel
theorem dX12_init_328 : decode cX12_init 328 = .ok (.putfield 41, 3) := by decide +kernel
theorem dX12_init_331 : decode cX12_init 331 = .ok (.aload_n 0, 1) := by decide +kernel
theorem dX12_init_332 : decode cX12_init 332 = .ok (.iconst 4, 1) := by decide +kernel
theorem dX12_init_333 : decode cX12_init 333 = .ok (.newarray .int, 2) := by decide +kernel
theorem dX12_init_335 : decode cX12_init 335 = .ok (.putfield 44, 3) := by decide +kernel
theorem dX12_init_338 : decode cX12_init 338 = .ok (.aload_n 0, 1) := by decide +kernel
theorem dX12_init_339 : decode cX12_init 339 = .ok (.sipush 240, 3) := by decide +kernel
theorem dX12_init_342 : decode cX12_init 342 = .ok (.newarray .int, 2) := by decide +kernel
theorem dX12_init_344 : decode cX12_init 344 = .ok (.putfield 47, 3) := by decide +kernel
theorem dX12_init_347 : decode cX12_init 347 = .ok (.aload_n 0, 1) := by decide +kernel
theorem dX12_init_348 : decode cX12_init 348 = .ok (.bipush 60, 2) := by decide +kernel
theorem dX12_init_350 : decode cX12_init 350 = .ok (.newarray .int, 2) := by decide +kernel
theorem dX12_init_352 : decode cX12_init 352 = .ok (.putfield 202, 3) := by decide +kernel
theorem dX12_init_355 : decode cX12_init 355 = .ok (.aload_n 0, 1) := by decide +kernel
theorem dX12_init_356 : decode cX12_init 356 = .ok (.iconst 1, 1) := by decide +kernel
theorem dX12_init_357 : decode cX12_init 357 = .ok (.iconst 0, 1) := by decide +kernel
theorem dX12_init_358 : decode cX12_init 358 = .ok (.invokevirtual 205, 3) := by decide +kernel
theorem dX12_init_361 : decode cX12_init 361 = .ok (.aload_n 0, 1) := by decide +kernel
theorem dX12_init_362 : decode cX12_init 362 = .ok (.iconst 0, 1) := by decide +kernel
theorem dX12_init_363 : decode cX12_init 363 = .ok (.bipush 30, 2) := by decide +kernel
theorem dX12_init_365 : decode cX12_init 365 = .ok (.invokevirtual 205, 3) := by decide +kernel
theorem dX12_init_368 : decode cX12_init 368 = .ok (.aload_n 0, 1) := by decide +kernel
theorem dX12_init_369 : decode cX12_init 369 = .ok (.bipush 8, 2) := by decide +kernel
theorem dX12_init_371 : decode cX12_init 371 = .ok (.iconst 0, 1) := by decide +kernel
theorem dX12_init_372 : decode cX12_init 372 = .ok (.invokevirtual 205, 3) := by decide +kernel
theorem dX12_init_375 : decode cX12_init 375 = .ok (.aload_n 0, 1) := by decide +kernel
theorem dX12_init_376 : decode cX12_init 376 = .ok (.getfield 122, 3) := by decide +kernel
theorem dX12_init_379 : decode cX12_init 379 = .ok (.iconst 0, 1) := by decide +kernel
theorem dX12_init_380 : decode cX12_init 380 = .ok (.iconst 3, 1) := by decide +kernel
theorem dX12_init_381 : decode cX12_init 381 = .ok (.iastore, 1) := by decide +kernel
theorem dX12_init_382 : decode cX12_init 382 = .ok (.aload_n 0, 1) := by decide +kernel
theorem dX12_init_383 : decode cX12_init 383 = .ok (.sipush 160, 3) := by decide +kernel
theorem dX12_init_386 : decode cX12_init 386 = .ok (.putfield 110, 3) := by decide +kernel
theorem dX12_init_389 : decode cX12_init 389 = .ok (.aload_n 0, 1) := by decide +kernel
theorem dX12_init_390 : decode cX12_init 390 = .ok (.iconst 0, 1) := by decide +kernel
theorem dX12_init_391 : decode cX12_init 391 = .ok (.iconst 1, 1) := by decide +kernel
theorem dX12_init_392 : decode cX12_init 392 = .ok (.invokevirtual 205, 3) := by decide +kernel
theorem dX12_init_395 : decode cX12_init 395 = .ok (.aload_n 0, 1) := by decide +kernel
theorem dX12_init_396 : decode cX12_init 396 = .ok (.getfield 122, 3) := by decide +kernel
theorem dX12_init_399 : decode cX12_init 399 = .ok (.iconst 1, 1) := by decide +kernel
theorem dX12_init_400 : decode cX12_init 400 = .ok (.iconst 1, 1) := by decide +kernel
theorem dX12_init_401 : decode cX12_init 401 = .ok (.iastore, 1) := by decide +kernel
theorem dX12_init_402 : decode cX12_init 402 = .ok (.aload_n 0, 1) := by decide +kernel
theorem dX12_init_403 : decode cX12_init 403 = .ok (.sipush 320, 3) := by decide +kernel
theorem dX12_init_406 : decode cX12_init 406 = .ok (.putfield 110, 3) := by decide +kernel
theorem dX12_init_409 : decode cX12_init 409 = .ok (.aload_n 0, 1) := by decide +kernel
theorem dX12_init_410 : decode cX12_init 410 = .ok (.iconst 0, 1) := by decide +kernel
theorem dX12_init_411 : decode cX12_init 411 = .ok (.iconst 0, 1) := by decide +kernel
theorem dX12_init_412 : decode cX12_init 412 = .ok (.invokevirtual 205, 3) := by decide +kernel
theorem dX12_init_415 : decode cX12_init 415 = .ok (.aload_n 0, 1) := by decide +kernel
theorem dX12_init_416 : decode cX12_init 416 = .ok (.getfield 122, 3) := by decide +kernel
theorem dX12_init_419 : decode cX12_init 419 = .ok (.iconst 2, 1) := by decide +kernel
theorem dX12_init_420 : decode cX12_init 420 = .ok (.iconst 1, 1) := by decide +kernel
theorem dX12_init_421 : decode cX12_init 421 = .ok (.iastore, 1) := by decide +kernel
theorem dX12_init_422 : decode cX12_init 422 = .ok (.aload_n 0, 1) := by decide +kernel
theorem dX12_init_423 : decode cX12_init 423 = .ok (.iconst 1, 1) := by decide +kernel
theorem dX12_init_424 : decode cX12_init 424 = .ok (.putfield 83, 3) := by decide +kernel
theorem dX12_init_427 : decode cX12_init 427 = .ok (.return_, 1) := by decide +kernel
theorem dX12_feed_0 : decode cX12_feed 0 = .ok (.aload_n 0, 1) := by decide +kernel
theorem dX12_feed_1 : decode cX12_feed 1 = .ok (.iload_n 1, 1) := by decide +kernel
theorem dX12_feed_2 : decode cX12_feed 2 = .ok (.iconst 1, 1) := by decide +kernel
theorem dX12_feed_3 : decode cX12_feed 3 = .ok (.bipush 8, 2) := by decide +kernel
theorem dX12_feed_5 : decode cX12_feed 5 = .ok (.invokevirtual 7, 3) := by decide +kernel
theorem dX12_feed_8 : decode cX12_feed 8 = .ok (.ifCond .ne 6, 3) := by decide +kernel
theorem dX12_feed_11 : decode cX12_feed 11 = .ok (.bipush (-2), 2) := by decide +kernel
theorem dX12_feed_13 : decode cX12_feed 13 = .ok (.ireturn, 1) := by decide +kernel
theorem dX12_feed_14 : decode cX12_feed 14 = .ok (.aload_n 0, 1) := by decide +kernel
theorem dX12_feed_15 : decode cX12_feed 15 = .ok (.getfield 89, 3) := by decide +kernel
theorem dX12_feed_18 : decode cX12_feed 18 = .ok (.iload_n 1, 1) := by decide +kernel
theorem dX12_feed_19 : decode cX12_feed 19 = .ok (.iadd, 1) := by decide +kernel
theorem dX12_feed_20 : decode cX12_feed 20 = .ok (.sipush 160, 3) := by decide +kernel
theorem dX12_feed_23 : decode cX12_feed 23 = .ok (.if_icmp .le 6, 3) := by decide +kernel
theorem dX12_feed_26 : decode cX12_feed 26 = .ok (.bipush (-4), 2) := by decide +kernel
theorem dX12_feed_28 : decode cX12_feed 28 = .ok (.ireturn, 1) := by decide +kernel
theorem dX12_feed_29 : decode cX12_feed 29 = .ok (.iconst 0, 1) := by decide +kernel
theorem dX12_feed_30 : decode cX12_feed 30 = .ok (.istore 4, 2) := by decide +kernel
theorem dX12_feed_32 : decode cX12_feed 32 = .ok (.iload 4, 2) := by decide +kernel
theorem dX12_feed_34 : decode cX12_feed 34 = .ok (.iload_n 1, 1) := by decide +kernel
theorem dX12_feed_35 : decode cX12_feed 35 = .ok (.if_icmp .ge 40, 3) := by decide +kernel
theorem dX12_feed_38 : decode cX12_feed 38 = .ok (.aload_n 0, 1) := by decide +kernel
theorem dX12_feed_39 : decode cX12_feed 39 = .ok (.getfield 113, 3) := by decide +kernel
theorem dX12_feed_42 : decode cX12_feed 42 = .ok (.aload_n 0, 1) := by decide +kernel
theorem dX12_feed_43 : decode cX12_feed 43 = .ok (.getfield 89, 3) := by decide +kernel
theorem dX12_feed_46 : decode cX12_feed 46 = .ok (.lload_n 2, 1) := by decide +kernel
theorem dX12_feed_47 : decode cX12_feed 47 = .ok (.bipush 8, 2) := by decide +kernel
theorem dX12_feed_49 : decode cX12_feed 49 = .ok (.iload 4, 2) := by decide +kernel
theorem dX12_feed_51 : decode cX12_feed 51 = .ok (.imul, 1) := by decide +kernel
theorem dX12_feed_52 : decode cX12_feed 52 = .ok (.lshr, 1) := by decide +kernel
theorem dX12_feed_53 : decode cX12_feed 53 = .ok (.ldc2_w 209, 3) := by decide +kernel
theorem dX12_feed_56 : decode cX12_feed 56 = .ok (.land, 1) := by decide +kernel
theorem dX12_feed_57 : decode cX12_feed 57 = .ok (.l2i, 1) := by decide +kernel
theorem dX12_feed_58 : decode cX12_feed 58 = .ok (.iastore, 1) := by decide +kernel
theorem dX12_feed_59 : decode cX12_feed 59 = .ok (.aload_n 0, 1) := by decide +kernel
theorem dX12_feed_60 : decode cX12_feed 60 = .ok (.dup, 1) := by decide +kernel
theorem dX12_feed_61 : decode cX12_feed 61 = .ok (.getfield 89, 3) := by decide +kernel
theorem dX12_feed_64 : decode cX12_feed 64 = .ok (.iconst 1, 1) := by decide +kernel
theorem dX12_feed_65 : decode cX12_feed 65 = .ok (.iadd, 1) := by decide +kernel
theorem dX12_feed_66 : decode cX12_feed 66 = .ok (.putfield 89, 3) := by decide +kernel
theorem dX12_feed_69 : decode cX12_feed 69 = .ok (.iinc 4 1, 3) := by decide +kernel
theorem dX12_feed_72 : decode cX12_feed 72 = .ok (.goto (-40), 3) := by decide +kernel
theorem dX12_feed_75 : decode cX12_feed 75 = .ok (.aload_n 0, 1) := by decide +kernel
theorem dX12_feed_76 : decode cX12_feed 76 = .ok (.getfield 89, 3) := by decide +kernel
theorem dX12_feed_79 : decode cX12_feed 79 = .ok (.ireturn, 1) := by decide +kernel
theorem dX12_byteAt_0 : decode cX12_byteAt 0 = .ok (.iload_n 1, 1) := by decide +kernel
theorem dX12_byteAt_1 : decode cX12_byteAt 1 = .ok (.aload_n 0, 1) := by decide +kernel
theorem dX12_byteAt_2 : decode cX12_byteAt 2 = .ok (.getfield 89, 3) := by decide +kernel
theorem dX12_byteAt_5 : decode cX12_byteAt 5 = .ok (.if_icmp .ge 12, 3) := by decide +kernel
theorem dX12_byteAt_8 : decode cX12_byteAt 8 = .ok (.aload_n 0, 1) := by decide +kernel
theorem dX12_byteAt_9 : decode cX12_byteAt 9 = .ok (.getfield 113, 3) := by decide +kernel
theorem dX12_byteAt_12 : decode cX12_byteAt 12 = .ok (.iload_n 1, 1) := by decide +kernel
theorem dX12_byteAt_13 : decode cX12_byteAt 13 = .ok (.iaload, 1) := by decide +kernel
theorem dX12_byteAt_14 : decode cX12_byteAt 14 = .ok (.goto 4, 3) := by decide +kernel
theorem dX12_byteAt_17 : decode cX12_byteAt 17 = .ok (.iconst (-1), 1) := by decide +kernel
theorem dX12_byteAt_18 : decode cX12_byteAt 18 = .ok (.ireturn, 1) := by decide +kernel
theorem dX12_isLetter_0 : decode cX12_isLetter 0 = .ok (.aload_n 0, 1) := by decide +kernel
theorem dX12_isLetter_1 : decode cX12_isLetter 1 = .ok (.iload_n 1, 1) := by decide +kernel
theorem dX12_isLetter_2 : decode cX12_isLetter 2 = .ok (.bipush 97, 2) := by decide +kernel
theorem dX12_isLetter_4 : decode cX12_isLetter 4 = .ok (.bipush 122, 2) := by decide +kernel
theorem dX12_isLetter_6 : decode cX12_isLetter 6 = .ok (.invokevirtual 7, 3) := by decide +kernel
theorem dX12_isLetter_9 : decode cX12_isLetter 9 = .ok (.ireturn, 1) := by decide +kernel
theorem dX12_isDigit_0 : decode cX12_isDigit 0 = .ok (.aload_n 0, 1) := by decide +kernel
theorem dX12_isDigit_1 : decode cX12_isDigit 1 = .ok (.iload_n 1, 1) := by decide +kernel
theorem dX12_isDigit_2 : decode cX12_isDigit 2 = .ok (.bipush 48, 2) := by decide +kernel
theorem dX12_isDigit_4 : decode cX12_isDigit 4 = .ok (.bipush 57, 2) := by decide +kernel
theorem dX12_isDigit_6 : decode cX12_isDigit 6 = .ok (.invokevirtual 7, 3) := by decide +kernel
theorem dX12_isDigit_9 : decode cX12_isDigit 9 = .ok (.ireturn, 1) := by decide +kernel
theorem dX12_look_0 : decode cX12_look 0 = .ok (.aload_n 0, 1) := by decide +kernel
theorem dX12_look_1 : decode cX12_look 1 = .ok (.aload_n 0, 1) := by decide +kernel
theorem dX12_look_2 : decode cX12_look 2 = .ok (.getfield 92, 3) := by decide +kernel
theorem dX12_look_5 : decode cX12_look 5 = .ok (.invokevirtual 211, 3) := by decide +kernel
theorem dX12_look_8 : decode cX12_look 8 = .ok (.bipush 32, 2) := by decide +kernel
theorem dX12_look_10 : decode cX12_look 10 = .ok (.if_icmp .eq 16, 3) := by decide +kernel
theorem dX12_look_13 : decode cX12_look 13 = .ok (.aload_n 0, 1) := by decide +kernel
theorem dX12_look_14 : decode cX12_look 14 = .ok (.aload_n 0, 1) := by decide +kernel
theorem dX12_look_15 : decode cX12_look 15 = .ok (.getfield 92, 3) := by decide +kernel
theorem dX12_look_18 : decode cX12_look 18 = .ok (.invokevirtual 211, 3) := by decide +kernel
theorem dX12_look_21 : decode cX12_look 21 = .ok (.bipush 10, 2) := by decide +kernel
theorem dX12_look_23 : decode cX12_look 23 = .ok (.if_icmp .ne 16, 3) := by decide +kernel
theorem dX12_look_26 : decode cX12_look 26 = .ok (.aload_n 0, 1) := by decide +kernel
theorem dX12_look_27 : decode cX12_look 27 = .ok (.dup, 1) := by decide +kernel
theorem dX12_look_28 : decode cX12_look 28 = .ok (.getfield 92, 3) := by decide +kernel
theorem dX12_look_31 : decode cX12_look 31 = .ok (.iconst 1, 1) := by decide +kernel
theorem dX12_look_32 : decode cX12_look 32 = .ok (.iadd, 1) := by decide +kernel
theorem dX12_look_33 : decode cX12_look 33 = .ok (.putfield 92, 3) := by decide +kernel
theorem dX12_look_36 : decode cX12_look 36 = .ok (.goto (-36), 3) := by decide +kernel
theorem dX12_look_39 : decode cX12_look 39 = .ok (.aload_n 0, 1) := by decide +kernel
theorem dX12_look_40 : decode cX12_look 40 = .ok (.aload_n 0, 1) := by decide +kernel
theorem dX12_look_41 : decode cX12_look 41 = .ok (.getfield 92, 3) := by decide +kernel
theorem dX12_look_44 : decode cX12_look 44 = .ok (.invokevirtual 211, 3) := by decide +kernel
theorem dX12_look_47 : decode cX12_look 47 = .ok (.istore_n 1, 1) := by decide +kernel
theorem dX12_look_48 : decode cX12_look 48 = .ok (.aload_n 0, 1) := by decide +kernel
theorem dX12_look_49 : decode cX12_look 49 = .ok (.iconst 1, 1) := by decide +kernel
theorem dX12_look_50 : decode cX12_look 50 = .ok (.putfield 101, 3) := by decide +kernel
theorem dX12_look_53 : decode cX12_look 53 = .ok (.aload_n 0, 1) := by decide +kernel
theorem dX12_look_54 : decode cX12_look 54 = .ok (.iconst 0, 1) := by decide +kernel
theorem dX12_look_55 : decode cX12_look 55 = .ok (.putfield 98, 3) := by decide +kernel
theorem dX12_look_58 : decode cX12_look 58 = .ok (.aload_n 0, 1) := by decide +kernel
theorem dX12_look_59 : decode cX12_look 59 = .ok (.iload_n 1, 1) := by decide +kernel
theorem dX12_look_60 : decode cX12_look 60 = .ok (.invokevirtual 214, 3) := by decide +kernel
theorem dX12_look_63 : decode cX12_look 63 = .ok (.ifCond .eq 110, 3) := by decide +kernel
theorem dX12_look_66 : decode cX12_look 66 = .ok (.aload_n 0, 1) := by decide +kernel
theorem dX12_look_67 : decode cX12_look 67 = .ok (.iconst 1, 1) := by decide +kernel
theorem dX12_look_68 : decode cX12_look 68 = .ok (.putfield 95, 3) := by decide +kernel
theorem dX12_look_71 : decode cX12_look 71 = .ok (.aload_n 0, 1) := by decide +kernel
theorem dX12_look_72 : decode cX12_look 72 = .ok (.iconst 0, 1) := by decide +kernel
theorem dX12_look_73 : decode cX12_look 73 = .ok (.putfield 101, 3) := by decide +kernel
theorem dX12_look_76 : decode cX12_look 76 = .ok (.aload_n 0, 1) := by decide +kernel
theorem dX12_look_77 : decode cX12_look 77 = .ok (.aload_n 0, 1) := by decide +kernel
theorem dX12_look_78 : decode cX12_look 78 = .ok (.aload_n 0, 1) := by decide +kernel
theorem dX12_look_79 : decode cX12_look 79 = .ok (.getfield 92, 3) := by decide +kernel
theorem dX12_look_82 : decode cX12_look 82 = .ok (.aload_n 0, 1) := by decide +kernel
theorem dX12_look_83 : decode cX12_look 83 = .ok (.getfield 101, 3) := by decide +kernel
theorem dX12_look_86 : decode cX12_look 86 = .ok (.iadd, 1) := by decide +kernel
theorem dX12_look_87 : decode cX12_look 87 = .ok (.invokevirtual 211, 3) := by decide +kernel
theorem dX12_look_90 : decode cX12_look 90 = .ok (.invokevirtual 214, 3) := by decide +kernel
theorem dX12_look_93 : decode cX12_look 93 = .ok (.ifCond .eq 59, 3) := by decide +kernel
theorem dX12_look_96 : decode cX12_look 96 = .ok (.aload_n 0, 1) := by decide +kernel
theorem dX12_look_97 : decode cX12_look 97 = .ok (.aload_n 0, 1) := by decide +kernel
theorem dX12_look_98 : decode cX12_look 98 = .ok (.getfield 101, 3) := by decide +kernel
theorem dX12_look_101 : decode cX12_look 101 = .ok (.iconst 4, 1) := by decide +kernel
theorem dX12_look_102 : decode cX12_look 102 = .ok (.if_icmp .ge 30, 3) := by decide +kernel
theorem dX12_look_105 : decode cX12_look 105 = .ok (.bipush 10, 2) := by decide +kernel
theorem dX12_look_107 : decode cX12_look 107 = .ok (.aload_n 0, 1) := by decide +kernel
theorem dX12_look_108 : decode cX12_look 108 = .ok (.getfield 98, 3) := by decide +kernel
theorem dX12_look_111 : decode cX12_look 111 = .ok (.imul, 1) := by decide +kernel
theorem dX12_look_112 : decode cX12_look 112 = .ok (.aload_n 0, 1) := by decide +kernel
theorem dX12_look_113 : decode cX12_look 113 = .ok (.aload_n 0, 1) := by decide +kernel
theorem dX12_look_114 : decode cX12_look 114 = .ok (.getfield 92, 3) := by decide +kernel
theorem dX12_look_117 : decode cX12_look 117 = .ok (.aload_n 0, 1) := by decide +kernel
theorem dX12_look_118 : decode cX12_look 118 = .ok (.getfield 101, 3) := by decide +kernel
theorem dX12_look_121 : decode cX12_look 121 = .ok (.iadd, 1) := by decide +kernel
theorem dX12_look_122 : decode cX12_look 122 = .ok (.invokevirtual 211, 3) := by decide +kernel
theorem dX12_look_125 : decode cX12_look 125 = .ok (.iadd, 1) := by decide +kernel
theorem dX12_look_126 : decode cX12_look 126 = .ok (.bipush 48, 2) := by decide +kernel
theorem dX12_look_128 : decode cX12_look 128 = .ok (.isub, 1) := by decide +kernel
theorem dX12_look_129 : decode cX12_look 129 = .ok (.goto 7, 3) := by decide +kernel
theorem dX12_look_132 : decode cX12_look 132 = .ok (.aload_n 0, 1) := by decide +kernel
theorem dX12_look_133 : decode cX12_look 133 = .ok (.getfield 98, 3) := by decide +kernel
theorem dX12_look_136 : decode cX12_look 136 = .ok (.putfield 98, 3) := by decide +kernel
theorem dX12_look_139 : decode cX12_look 139 = .ok (.aload_n 0, 1) := by decide +kernel
theorem dX12_look_140 : decode cX12_look 140 = .ok (.dup, 1) := by decide +kernel
theorem dX12_look_141 : decode cX12_look 141 = .ok (.getfield 101, 3) := by decide +kernel
theorem dX12_look_144 : decode cX12_look 144 = .ok (.iconst 1, 1) := by decide +kernel
theorem dX12_look_145 : decode cX12_look 145 = .ok (.iadd, 1) := by decide +kernel
theorem dX12_look_146 : decode cX12_look 146 = .ok (.putfield 101, 3) := by decide +kernel
theorem dX12_look_149 : decode cX12_look 149 = .ok (.goto (-73), 3) := by decide +kernel
theorem dX12_look_152 : decode cX12_look 152 = .ok (.aload_n 0, 1) := by decide +kernel
theorem dX12_look_153 : decode cX12_look 153 = .ok (.aload_n 0, 1) := by decide +kernel
theorem dX12_look_154 : decode cX12_look 154 = .ok (.getfield 101, 3) := by decide +kernel
theorem dX12_look_157 : decode cX12_look 157 = .ok (.iconst 4, 1) := by decide +kernel
theorem dX12_look_158 : decode cX12_look 158 = .ok (.if_icmp .le 8, 3) := by decide +kernel
theorem dX12_look_161 : decode cX12_look 161 = .ok (.bipush (-2), 2) := by decide +kernel
theorem dX12_look_163 : decode cX12_look 163 = .ok (.goto 4, 3) := by decide +kernel
theorem dX12_look_166 : decode cX12_look 166 = .ok (.iconst 1, 1) := by decide +kernel
theorem dX12_look_167 : decode cX12_look 167 = .ok (.putfield 95, 3) := by decide +kernel
theorem dX12_look_170 : decode cX12_look 170 = .ok (.goto 212, 3) := by decide +kernel
theorem dX12_look_173 : decode cX12_look 173 = .ok (.aload_n 0, 1) := by decide +kernel
theorem dX12_look_174 : decode cX12_look 174 = .ok (.iload_n 1, 1) := by decide +kernel
theorem dX12_look_175 : decode cX12_look 175 = .ok (.invokevirtual 217, 3) := by decide +kernel
theorem dX12_look_178 : decode cX12_look 178 = .ok (.ifCond .eq 138, 3) := by decide +kernel
theorem dX12_look_181 : decode cX12_look 181 = .ok (.aload_n 0, 1) := by decide +kernel
theorem dX12_look_182 : decode cX12_look 182 = .ok (.iconst 0, 1) := by decide +kernel
theorem dX12_look_183 : decode cX12_look 183 = .ok (.putfield 101, 3) := by decide +kernel
theorem dX12_look_186 : decode cX12_look 186 = .ok (.aload_n 0, 1) := by decide +kernel
theorem dX12_look_187 : decode cX12_look 187 = .ok (.aload_n 0, 1) := by decide +kernel
theorem dX12_look_188 : decode cX12_look 188 = .ok (.aload_n 0, 1) := by decide +kernel
theorem dX12_look_189 : decode cX12_look 189 = .ok (.getfield 92, 3) := by decide +kernel
theorem dX12_look_192 : decode cX12_look 192 = .ok (.aload_n 0, 1) := by decide +kernel
theorem dX12_look_193 : decode cX12_look 193 = .ok (.getfield 101, 3) := by decide +kernel
theorem dX12_look_196 : decode cX12_look 196 = .ok (.iadd, 1) := by decide +kernel
theorem dX12_look_197 : decode cX12_look 197 = .ok (.invokevirtual 211, 3) := by decide +kernel
theorem dX12_look_200 : decode cX12_look 200 = .ok (.invokevirtual 217, 3) := by decide +kernel
theorem dX12_look_203 : decode cX12_look 203 = .ok (.ifCond .eq 57, 3) := by decide +kernel
theorem dX12_look_206 : decode cX12_look 206 = .ok (.aload_n 0, 1) := by decide +kernel
theorem dX12_look_207 : decode cX12_look 207 = .ok (.aload_n 0, 1) := by decide +kernel
theorem dX12_look_208 : decode cX12_look 208 = .ok (.getfield 101, 3) := by decide +kernel
theorem dX12_look_211 : decode cX12_look 211 = .ok (.bipush 6, 2) := by decide +kernel
theorem dX12_look_213 : decode cX12_look 213 = .ok (.if_icmp .ge 30, 3) := by decide +kernel
theorem dX12_look_216 : decode cX12_look 216 = .ok (.bipush 32, 2) := by decide +kernel
theorem dX12_look_218 : decode cX12_look 218 = .ok (.aload_n 0, 1) := by decide +kernel
theorem dX12_look_219 : decode cX12_look 219 = .ok (.getfield 98, 3) := by decide +kernel
theorem dX12_look_222 : decode cX12_look 222 = .ok (.imul, 1) := by decide +kernel
theorem dX12_look_223 : decode cX12_look 223 = .ok (.aload_n 0, 1) := by decide +kernel
theorem dX12_look_224 : decode cX12_look 224 = .ok (.aload_n 0, 1) := by decide +kernel
theorem dX12_look_225 : decode cX12_look 225 = .ok (.getfield 92, 3) := by decide +kernel
theorem dX12_look_228 : decode cX12_look 228 = .ok (.aload_n 0, 1) := by decide +kernel
theorem dX12_look_229 : decode cX12_look 229 = .ok (.getfield 101, 3) := by decide +kernel
theorem dX12_look_232 : decode cX12_look 232 = .ok (.iadd, 1) := by decide +kernel
theorem dX12_look_233 : decode cX12_look 233 = .ok (.invokevirtual 211, 3) := by decide +kernel
theorem dX12_look_236 : decode cX12_look 236 = .ok (.iadd, 1) := by decide +kernel
theorem dX12_look_237 : decode cX12_look 237 = .ok (.bipush 96, 2) := by decide +kernel
theorem dX12_look_239 : decode cX12_look 239 = .ok (.isub, 1) := by decide +kernel
theorem dX12_look_240 : decode cX12_look 240 = .ok (.goto 4, 3) := by decide +kernel
theorem dX12_look_243 : decode cX12_look 243 = .ok (.iconst 0, 1) := by decide +kernel
theorem dX12_look_244 : decode cX12_look 244 = .ok (.putfield 98, 3) := by decide +kernel
theorem dX12_look_247 : decode cX12_look 247 = .ok (.aload_n 0, 1) := by decide +kernel
theorem dX12_look_248 : decode cX12_look 248 = .ok (.dup, 1) := by decide +kernel
theorem dX12_look_249 : decode cX12_look 249 = .ok (.getfield 101, 3) := by decide +kernel
theorem dX12_look_252 : decode cX12_look 252 = .ok (.iconst 1, 1) := by decide +kernel
theorem dX12_look_253 : decode cX12_look 253 = .ok (.iadd, 1) := by decide +kernel
theorem dX12_look_254 : decode cX12_look 254 = .ok (.putfield 101, 3) := by decide +kernel
theorem dX12_look_257 : decode cX12_look 257 = .ok (.goto (-71), 3) := by decide +kernel
theorem dX12_look_260 : decode cX12_look 260 = .ok (.aload_n 0, 1) := by decide +kernel
theorem dX12_look_261 : decode cX12_look 261 = .ok (.aload_n 0, 1) := by decide +kernel
theorem dX12_look_262 : decode cX12_look 262 = .ok (.getfield 101, 3) := by decide +kernel
theorem dX12_look_265 : decode cX12_look 265 = .ok (.bipush 6, 2) := by decide +kernel
theorem dX12_look_267 : decode cX12_look 267 = .ok (.if_icmp .le 7, 3) := by decide +kernel
theorem dX12_look_270 : decode cX12_look 270 = .ok (.iconst 0, 1) := by decide +kernel
theorem dX12_look_271 : decode cX12_look 271 = .ok (.goto 7, 3) := by decide +kernel
theorem dX12_look_274 : decode cX12_look 274 = .ok (.aload_n 0, 1) := by decide +kernel
theorem dX12_look_275 : decode cX12_look 275 = .ok (.getfield 98, 3) := by decide +kernel
theorem dX12_look_278 : decode cX12_look 278 = .ok (.putfield 98, 3) := by decide +kernel
theorem dX12_look_281 : decode cX12_look 281 = .ok (.aload_n 0, 1) := by decide +kernel
theorem dX12_look_282 : decode cX12_look 282 = .ok (.aload_n 0, 1) := by decide +kernel
theorem dX12_look_283 : decode cX12_look 283 = .ok (.aload_n 0, 1) := by decide +kernel
theorem dX12_look_284 : decode cX12_look 284 = .ok (.getfield 98, 3) := by decide +kernel
theorem dX12_look_287 : decode cX12_look 287 = .ok (.invokevirtual 220, 3) := by decide +kernel
theorem dX12_look_290 : decode cX12_look 290 = .ok (.ifCond .ge 14, 3) := by decide +kernel
theorem dX12_look_293 : decode cX12_look 293 = .ok (.aload_n 0, 1) := by decide +kernel
theorem dX12_look_294 : decode cX12_look 294 = .ok (.aload_n 0, 1) := by decide +kernel
theorem dX12_look_295 : decode cX12_look 295 = .ok (.getfield 98, 3) := by decide +kernel
theorem dX12_look_298 : decode cX12_look 298 = .ok (.invokevirtual 223, 3) := by decide +kernel
theorem dX12_look_301 : decode cX12_look 301 = .ok (.ifCond .eq 7, 3) := by decide +kernel
theorem dX12_look_304 : decode cX12_look 304 = .ok (.iconst 2, 1) := by decide +kernel
theorem dX12_look_305 : decode cX12_look 305 = .ok (.goto 5, 3) := by decide +kernel
theorem dX12_look_308 : decode cX12_look 308 = .ok (.bipush (-2), 2) := by decide +kernel
theorem dX12_look_310 : decode cX12_look 310 = .ok (.putfield 95, 3) := by decide +kernel
theorem dX12_look_313 : decode cX12_look 313 = .ok (.goto 69, 3) := by decide +kernel
theorem dX12_look_316 : decode cX12_look 316 = .ok (.aload_n 0, 1) := by decide +kernel
theorem dX12_look_317 : decode cX12_look 317 = .ok (.iload_n 1, 1) := by decide +kernel
theorem dX12_look_318 : decode cX12_look 318 = .ok (.bipush 40, 2) := by decide +kernel
theorem dX12_look_320 : decode cX12_look 320 = .ok (.if_icmp .eq 45, 3) := by decide +kernel
theorem dX12_look_323 : decode cX12_look 323 = .ok (.iload_n 1, 1) := by decide +kernel
theorem dX12_look_324 : decode cX12_look 324 = .ok (.bipush 41, 2) := by decide +kernel
theorem dX12_look_326 : decode cX12_look 326 = .ok (.if_icmp .eq 39, 3) := by decide +kernel
theorem dX12_look_329 : decode cX12_look 329 = .ok (.iload_n 1, 1) := by decide +kernel
theorem dX12_look_330 : decode cX12_look 330 = .ok (.bipush 59, 2) := by decide +kernel
theorem dX12_look_332 : decode cX12_look 332 = .ok (.if_icmp .eq 33, 3) := by decide +kernel
theorem dX12_look_335 : decode cX12_look 335 = .ok (.iload_n 1, 1) := by decide +kernel
theorem dX12_look_336 : decode cX12_look 336 = .ok (.bipush 43, 2) := by decide +kernel
theorem dX12_look_338 : decode cX12_look 338 = .ok (.if_icmp .eq 27, 3) := by decide +kernel
theorem dX12_look_341 : decode cX12_look 341 = .ok (.iload_n 1, 1) := by decide +kernel
theorem dX12_look_342 : decode cX12_look 342 = .ok (.bipush 45, 2) := by decide +kernel
theorem dX12_look_344 : decode cX12_look 344 = .ok (.if_icmp .eq 21, 3) := by decide +kernel
theorem dX12_look_347 : decode cX12_look 347 = .ok (.iload_n 1, 1) := by decide +kernel
theorem dX12_look_348 : decode cX12_look 348 = .ok (.bipush 42, 2) := by decide +kernel
theorem dX12_look_350 : decode cX12_look 350 = .ok (.if_icmp .eq 15, 3) := by decide +kernel
theorem dX12_look_353 : decode cX12_look 353 = .ok (.iload_n 1, 1) := by decide +kernel
theorem dX12_look_354 : decode cX12_look 354 = .ok (.bipush 60, 2) := by decide +kernel
theorem dX12_look_356 : decode cX12_look 356 = .ok (.if_icmp .eq 9, 3) := by decide +kernel
theorem dX12_look_359 : decode cX12_look 359 = .ok (.iload_n 1, 1) := by decide +kernel
theorem dX12_look_360 : decode cX12_look 360 = .ok (.bipush 61, 2) := by decide +kernel
theorem dX12_look_362 : decode cX12_look 362 = .ok (.if_icmp .ne 7, 3) := by decide +kernel
theorem dX12_look_365 : decode cX12_look 365 = .ok (.iload_n 1, 1) := by decide +kernel
theorem dX12_look_366 : decode cX12_look 366 = .ok (.goto 13, 3) := by decide +kernel
theorem dX12_look_369 : decode cX12_look 369 = .ok (.iload_n 1, 1) := by decide +kernel
theorem dX12_look_370 : decode cX12_look 370 = .ok (.ifCond .ge 7, 3) := by decide +kernel
theorem dX12_look_373 : decode cX12_look 373 = .ok (.iconst (-1), 1) := by decide +kernel
theorem dX12_look_374 : decode cX12_look 374 = .ok (.goto 5, 3) := by decide +kernel
theorem dX12_look_377 : decode cX12_look 377 = .ok (.bipush (-2), 2) := by decide +kernel
theorem dX12_look_379 : decode cX12_look 379 = .ok (.putfield 95, 3) := by decide +kernel
theorem dX12_look_382 : decode cX12_look 382 = .ok (.return_, 1) := by decide +kernel
theorem dX12_goOn_0 : decode cX12_goOn 0 = .ok (.aload_n 0, 1) := by decide +kernel
theorem dX12_goOn_1 : decode cX12_goOn 1 = .ok (.dup, 1) := by decide +kernel
theorem dX12_goOn_2 : decode cX12_goOn 2 = .ok (.getfield 92, 3) := by decide +kernel
theorem dX12_goOn_5 : decode cX12_goOn 5 = .ok (.aload_n 0, 1) := by decide +kernel
theorem dX12_goOn_6 : decode cX12_goOn 6 = .ok (.getfield 101, 3) := by decide +kernel
theorem dX12_goOn_9 : decode cX12_goOn 9 = .ok (.iadd, 1) := by decide +kernel
theorem dX12_goOn_10 : decode cX12_goOn 10 = .ok (.putfield 92, 3) := by decide +kernel
theorem dX12_goOn_13 : decode cX12_goOn 13 = .ok (.aload_n 0, 1) := by decide +kernel
theorem dX12_goOn_14 : decode cX12_goOn 14 = .ok (.invokevirtual 226, 3) := by decide +kernel
theorem dX12_goOn_17 : decode cX12_goOn 17 = .ok (.return_, 1) := by decide +kernel
theorem dX12_isWord_0 : decode cX12_isWord 0 = .ok (.aload_n 0, 1) := by decide +kernel
theorem dX12_isWord_1 : decode cX12_isWord 1 = .ok (.getfield 95, 3) := by decide +kernel
theorem dX12_isWord_4 : decode cX12_isWord 4 = .ok (.iconst 2, 1) := by decide +kernel
theorem dX12_isWord_5 : decode cX12_isWord 5 = .ok (.if_icmp .ne 15, 3) := by decide +kernel
theorem dX12_isWord_8 : decode cX12_isWord 8 = .ok (.aload_n 0, 1) := by decide +kernel
theorem dX12_isWord_9 : decode cX12_isWord 9 = .ok (.getfield 98, 3) := by decide +kernel
theorem dX12_isWord_12 : decode cX12_isWord 12 = .ok (.iload_n 1, 1) := by decide +kernel
theorem dX12_isWord_13 : decode cX12_isWord 13 = .ok (.if_icmp .ne 7, 3) := by decide +kernel
theorem dX12_isWord_16 : decode cX12_isWord 16 = .ok (.iconst 1, 1) := by decide +kernel
theorem dX12_isWord_17 : decode cX12_isWord 17 = .ok (.goto 4, 3) := by decide +kernel
theorem dX12_isWord_20 : decode cX12_isWord 20 = .ok (.iconst 0, 1) := by decide +kernel
theorem dX12_isWord_21 : decode cX12_isWord 21 = .ok (.ireturn, 1) := by decide +kernel
theorem dX12_isKey_0 : decode cX12_isKey 0 = .ok (.iload_n 1, 1) := by decide +kernel
theorem dX12_isKey_1 : decode cX12_isKey 1 = .ok (.ldc 229, 2) := by decide +kernel
theorem dX12_isKey_3 : decode cX12_isKey 3 = .ok (.if_icmp .eq 36, 3) := by decide +kernel
theorem dX12_isKey_6 : decode cX12_isKey 6 = .ok (.iload_n 1, 1) := by decide +kernel
theorem dX12_isKey_7 : decode cX12_isKey 7 = .ok (.ldc 230, 2) := by decide +kernel
theorem dX12_isKey_9 : decode cX12_isKey 9 = .ok (.if_icmp .eq 30, 3) := by decide +kernel
theorem dX12_isKey_12 : decode cX12_isKey 12 = .ok (.iload_n 1, 1) := by decide +kernel
theorem dX12_isKey_13 : decode cX12_isKey 13 = .ok (.ldc 231, 2) := by decide +kernel
theorem dX12_isKey_15 : decode cX12_isKey 15 = .ok (.if_icmp .eq 24, 3) := by decide +kernel
theorem dX12_isKey_18 : decode cX12_isKey 18 = .ok (.iload_n 1, 1) := by decide +kernel
theorem dX12_isKey_19 : decode cX12_isKey 19 = .ok (.sipush 498, 3) := by decide +kernel
theorem dX12_isKey_22 : decode cX12_isKey 22 = .ok (.if_icmp .eq 17, 3) := by decide +kernel
theorem dX12_isKey_25 : decode cX12_isKey 25 = .ok (.iload_n 1, 1) := by decide +kernel
theorem dX12_isKey_26 : decode cX12_isKey 26 = .ok (.sipush 1476, 3) := by decide +kernel
theorem dX12_isKey_29 : decode cX12_isKey 29 = .ok (.if_icmp .eq 10, 3) := by decide +kernel
theorem dX12_isKey_32 : decode cX12_isKey 32 = .ok (.iload_n 1, 1) := by decide +kernel
theorem dX12_isKey_33 : decode cX12_isKey 33 = .ok (.sipush 14836, 3) := by decide +kernel
theorem dX12_isKey_36 : decode cX12_isKey 36 = .ok (.if_icmp .ne 7, 3) := by decide +kernel
theorem dX12_isKey_39 : decode cX12_isKey 39 = .ok (.iconst 1, 1) := by decide +kernel
theorem dX12_isKey_40 : decode cX12_isKey 40 = .ok (.goto 4, 3) := by decide +kernel
theorem dX12_isKey_43 : decode cX12_isKey 43 = .ok (.iconst 0, 1) := by decide +kernel
theorem dX12_isKey_44 : decode cX12_isKey 44 = .ok (.ireturn, 1) := by decide +kernel
theorem dX12_nameOf_0 : decode cX12_nameOf 0 = .ok (.iload_n 1, 1) := by decide +kernel
theorem dX12_nameOf_1 : decode cX12_nameOf 1 = .ok (.ldc 232, 2) := by decide +kernel
theorem dX12_nameOf_3 : decode cX12_nameOf 3 = .ok (.if_icmp .ne 7, 3) := by decide +kernel
theorem dX12_nameOf_6 : decode cX12_nameOf 6 = .ok (.iconst 0, 1) := by decide +kernel
theorem dX12_nameOf_7 : decode cX12_nameOf 7 = .ok (.goto 55, 3) := by decide +kernel
theorem dX12_nameOf_10 : decode cX12_nameOf 10 = .ok (.iload_n 1, 1) := by decide +kernel
theorem dX12_nameOf_11 : decode cX12_nameOf 11 = .ok (.ldc 233, 2) := by decide +kernel
theorem dX12_nameOf_13 : decode cX12_nameOf 13 = .ok (.if_icmp .ne 7, 3) := by decide +kernel
theorem dX12_nameOf_16 : decode cX12_nameOf 16 = .ok (.iconst 1, 1) := by decide +kernel
theorem dX12_nameOf_17 : decode cX12_nameOf 17 = .ok (.goto 45, 3) := by decide +kernel
theorem dX12_nameOf_20 : decode cX12_nameOf 20 = .ok (.iload_n 1, 1) := by decide +kernel
theorem dX12_nameOf_21 : decode cX12_nameOf 21 = .ok (.ldc 234, 2) := by decide +kernel
theorem dX12_nameOf_23 : decode cX12_nameOf 23 = .ok (.if_icmp .ne 7, 3) := by decide +kernel
theorem dX12_nameOf_26 : decode cX12_nameOf 26 = .ok (.iconst 2, 1) := by decide +kernel
theorem dX12_nameOf_27 : decode cX12_nameOf 27 = .ok (.goto 35, 3) := by decide +kernel
theorem dX12_nameOf_30 : decode cX12_nameOf 30 = .ok (.iload_n 1, 1) := by decide +kernel
theorem dX12_nameOf_31 : decode cX12_nameOf 31 = .ok (.ldc 235, 2) := by decide +kernel
theorem dX12_nameOf_33 : decode cX12_nameOf 33 = .ok (.if_icmp .ne 7, 3) := by decide +kernel
theorem dX12_nameOf_36 : decode cX12_nameOf 36 = .ok (.iconst 3, 1) := by decide +kernel
theorem dX12_nameOf_37 : decode cX12_nameOf 37 = .ok (.goto 25, 3) := by decide +kernel
theorem dX12_nameOf_40 : decode cX12_nameOf 40 = .ok (.iload_n 1, 1) := by decide +kernel
theorem dX12_nameOf_41 : decode cX12_nameOf 41 = .ok (.sipush 2739, 3) := by decide +kernel
theorem dX12_nameOf_44 : decode cX12_nameOf 44 = .ok (.if_icmp .ne 7, 3) := by decide +kernel
theorem dX12_nameOf_47 : decode cX12_nameOf 47 = .ok (.iconst 4, 1) := by decide +kernel
theorem dX12_nameOf_48 : decode cX12_nameOf 48 = .ok (.goto 14, 3) := by decide +kernel
theorem dX12_nameOf_51 : decode cX12_nameOf 51 = .ok (.iload_n 1, 1) := by decide +kernel
theorem dX12_nameOf_52 : decode cX12_nameOf 52 = .ok (.ldc 236, 2) := by decide +kernel
theorem dX12_nameOf_54 : decode cX12_nameOf 54 = .ok (.if_icmp .ne 7, 3) := by decide +kernel
theorem dX12_nameOf_57 : decode cX12_nameOf 57 = .ok (.iconst 5, 1) := by decide +kernel
theorem dX12_nameOf_58 : decode cX12_nameOf 58 = .ok (.goto 4, 3) := by decide +kernel
theorem dX12_nameOf_61 : decode cX12_nameOf 61 = .ok (.iconst (-1), 1) := by decide +kernel
theorem dX12_nameOf_62 : decode cX12_nameOf 62 = .ok (.ireturn, 1) := by decide +kernel
theorem dX12_put_0 : decode cX12_put 0 = .ok (.aload_n 0, 1) := by decide +kernel
theorem dX12_put_1 : decode cX12_put 1 = .ok (.getfield 116, 3) := by decide +kernel
theorem dX12_put_4 : decode cX12_put 4 = .ok (.aload_n 0, 1) := by decide +kernel
theorem dX12_put_5 : decode cX12_put 5 = .ok (.getfield 110, 3) := by decide +kernel
theorem dX12_put_8 : decode cX12_put 8 = .ok (.iload_n 1, 1) := by decide +kernel
theorem dX12_put_9 : decode cX12_put 9 = .ok (.iastore, 1) := by decide +kernel
theorem dX12_put_10 : decode cX12_put 10 = .ok (.aload_n 0, 1) := by decide +kernel
theorem dX12_put_11 : decode cX12_put 11 = .ok (.getfield 119, 3) := by decide +kernel
theorem dX12_put_14 : decode cX12_put 14 = .ok (.aload_n 0, 1) := by decide +kernel
theorem dX12_put_15 : decode cX12_put 15 = .ok (.getfield 110, 3) := by decide +kernel
theorem dX12_put_18 : decode cX12_put 18 = .ok (.iload_n 2, 1) := by decide +kernel
theorem dX12_put_19 : decode cX12_put 19 = .ok (.iastore, 1) := by decide +kernel
theorem dX12_put_20 : decode cX12_put 20 = .ok (.aload_n 0, 1) := by decide +kernel
theorem dX12_put_21 : decode cX12_put 21 = .ok (.dup, 1) := by decide +kernel
theorem dX12_put_22 : decode cX12_put 22 = .ok (.getfield 110, 3) := by decide +kernel
theorem dX12_put_25 : decode cX12_put 25 = .ok (.iconst 1, 1) := by decide +kernel
theorem dX12_put_26 : decode cX12_put 26 = .ok (.iadd, 1) := by decide +kernel
theorem dX12_put_27 : decode cX12_put 27 = .ok (.putfield 110, 3) := by decide +kernel
theorem dX12_put_30 : decode cX12_put 30 = .ok (.return_, 1) := by decide +kernel
theorem dX12_top_0 : decode cX12_top 0 = .ok (.aload_n 0, 1) := by decide +kernel
theorem dX12_top_1 : decode cX12_top 1 = .ok (.getfield 107, 3) := by decide +kernel
theorem dX12_top_4 : decode cX12_top 4 = .ok (.ifCond .le 17, 3) := by decide +kernel
theorem dX12_top_7 : decode cX12_top 7 = .ok (.aload_n 0, 1) := by decide +kernel
theorem dX12_top_8 : decode cX12_top 8 = .ok (.getfield 125, 3) := by decide +kernel
theorem dX12_top_11 : decode cX12_top 11 = .ok (.aload_n 0, 1) := by decide +kernel
theorem dX12_top_12 : decode cX12_top 12 = .ok (.getfield 107, 3) := by decide +kernel
theorem dX12_top_15 : decode cX12_top 15 = .ok (.iconst 1, 1) := by decide +kernel
theorem dX12_top_16 : decode cX12_top 16 = .ok (.isub, 1) := by decide +kernel
theorem dX12_top_17 : decode cX12_top 17 = .ok (.iaload, 1) := by decide +kernel
theorem dX12_top_18 : decode cX12_top 18 = .ok (.goto 4, 3) := by decide +kernel
theorem dX12_top_21 : decode cX12_top 21 = .ok (.iconst (-1), 1) := by decide +kernel
theorem dX12_top_22 : decode cX12_top 22 = .ok (.ireturn, 1) := by decide +kernel
theorem dX12_pushSign_0 : decode cX12_pushSign 0 = .ok (.aload_n 0, 1) := by decide +kernel
theorem dX12_pushSign_1 : decode cX12_pushSign 1 = .ok (.getfield 125, 3) := by decide +kernel
theorem dX12_pushSign_4 : decode cX12_pushSign 4 = .ok (.aload_n 0, 1) := by decide +kernel
theorem dX12_pushSign_5 : decode cX12_pushSign 5 = .ok (.getfield 107, 3) := by decide +kernel
theorem dX12_pushSign_8 : decode cX12_pushSign 8 = .ok (.iload_n 1, 1) := by decide +kernel
theorem dX12_pushSign_9 : decode cX12_pushSign 9 = .ok (.iastore, 1) := by decide +kernel
theorem dX12_pushSign_10 : decode cX12_pushSign 10 = .ok (.aload_n 0, 1) := by decide +kernel
theorem dX12_pushSign_11 : decode cX12_pushSign 11 = .ok (.dup, 1) := by decide +kernel
theorem dX12_pushSign_12 : decode cX12_pushSign 12 = .ok (.getfield 107, 3) := by decide +kernel
theorem dX12_pushSign_15 : decode cX12_pushSign 15 = .ok (.iconst 1, 1) := by decide +kernel
theorem dX12_pushSign_16 : decode cX12_pushSign 16 = .ok (.iadd, 1) := by decide +kernel
theorem dX12_pushSign_17 : decode cX12_pushSign 17 = .ok (.putfield 107, 3) := by decide +kernel
theorem dX12_pushSign_20 : decode cX12_pushSign 20 = .ok (.return_, 1) := by decide +kernel
theorem dX12_strength_0 : decode cX12_strength 0 = .ok (.iload_n 1, 1) := by decide +kernel
theorem dX12_strength_1 : decode cX12_strength 1 = .ok (.iconst 2, 1) := by decide +kernel
theorem dX12_strength_2 : decode cX12_strength 2 = .ok (.if_icmp .ne 7, 3) := by decide +kernel
theorem dX12_strength_5 : decode cX12_strength 5 = .ok (.iconst 1, 1) := by decide +kernel
theorem dX12_strength_6 : decode cX12_strength 6 = .ok (.goto 75, 3) := by decide +kernel
theorem dX12_strength_9 : decode cX12_strength 9 = .ok (.iload_n 1, 1) := by decide +kernel
theorem dX12_strength_10 : decode cX12_strength 10 = .ok (.iconst 3, 1) := by decide +kernel
theorem dX12_strength_11 : decode cX12_strength 11 = .ok (.if_icmp .ne 7, 3) := by decide +kernel
theorem dX12_strength_14 : decode cX12_strength 14 = .ok (.iconst 2, 1) := by decide +kernel
theorem dX12_strength_15 : decode cX12_strength 15 = .ok (.goto 66, 3) := by decide +kernel
theorem dX12_strength_18 : decode cX12_strength 18 = .ok (.iload_n 1, 1) := by decide +kernel
theorem dX12_strength_19 : decode cX12_strength 19 = .ok (.iconst 4, 1) := by decide +kernel
theorem dX12_strength_20 : decode cX12_strength 20 = .ok (.if_icmp .ne 7, 3) := by decide +kernel
theorem dX12_strength_23 : decode cX12_strength 23 = .ok (.iconst 3, 1) := by decide +kernel
theorem dX12_strength_24 : decode cX12_strength 24 = .ok (.goto 57, 3) := by decide +kernel
theorem dX12_strength_27 : decode cX12_strength 27 = .ok (.iload_n 1, 1) := by decide +kernel
theorem dX12_strength_28 : decode cX12_strength 28 = .ok (.iconst 5, 1) := by decide +kernel
theorem dX12_strength_29 : decode cX12_strength 29 = .ok (.if_icmp .eq 9, 3) := by decide +kernel
theorem dX12_strength_32 : decode cX12_strength 32 = .ok (.iload_n 1, 1) := by decide +kernel
theorem dX12_strength_33 : decode cX12_strength 33 = .ok (.bipush 6, 2) := by decide +kernel
theorem dX12_strength_35 : decode cX12_strength 35 = .ok (.if_icmp .ne 7, 3) := by decide +kernel
theorem dX12_strength_38 : decode cX12_strength 38 = .ok (.iconst 4, 1) := by decide +kernel
theorem dX12_strength_39 : decode cX12_strength 39 = .ok (.goto 42, 3) := by decide +kernel
theorem dX12_strength_42 : decode cX12_strength 42 = .ok (.iload_n 1, 1) := by decide +kernel
theorem dX12_strength_43 : decode cX12_strength 43 = .ok (.bipush 7, 2) := by decide +kernel
theorem dX12_strength_45 : decode cX12_strength 45 = .ok (.if_icmp .eq 9, 3) := by decide +kernel
theorem dX12_strength_48 : decode cX12_strength 48 = .ok (.iload_n 1, 1) := by decide +kernel
theorem dX12_strength_49 : decode cX12_strength 49 = .ok (.bipush 8, 2) := by decide +kernel
theorem dX12_strength_51 : decode cX12_strength 51 = .ok (.if_icmp .ne 7, 3) := by decide +kernel
theorem dX12_strength_54 : decode cX12_strength 54 = .ok (.iconst 5, 1) := by decide +kernel
theorem dX12_strength_55 : decode cX12_strength 55 = .ok (.goto 26, 3) := by decide +kernel
theorem dX12_strength_58 : decode cX12_strength 58 = .ok (.iload_n 1, 1) := by decide +kernel
theorem dX12_strength_59 : decode cX12_strength 59 = .ok (.bipush 9, 2) := by decide +kernel
theorem dX12_strength_61 : decode cX12_strength 61 = .ok (.if_icmp .ne 8, 3) := by decide +kernel
theorem dX12_strength_64 : decode cX12_strength 64 = .ok (.bipush 6, 2) := by decide +kernel
theorem dX12_strength_66 : decode cX12_strength 66 = .ok (.goto 15, 3) := by decide +kernel
theorem dX12_strength_69 : decode cX12_strength 69 = .ok (.iload_n 1, 1) := by decide +kernel
theorem dX12_strength_70 : decode cX12_strength 70 = .ok (.bipush 10, 2) := by decide +kernel
theorem dX12_strength_72 : decode cX12_strength 72 = .ok (.if_icmp .ne 8, 3) := by decide +kernel
theorem dX12_strength_75 : decode cX12_strength 75 = .ok (.bipush 7, 2) := by decide +kernel
theorem dX12_strength_77 : decode cX12_strength 77 = .ok (.goto 4, 3) := by decide +kernel
theorem dX12_strength_80 : decode cX12_strength 80 = .ok (.iconst 0, 1) := by decide +kernel
theorem dX12_strength_81 : decode cX12_strength 81 = .ok (.ireturn, 1) := by decide +kernel
theorem dX12_settle_0 : decode cX12_settle 0 = .ok (.aload_n 0, 1) := by decide +kernel
theorem dX12_settle_1 : decode cX12_settle 1 = .ok (.getfield 107, 3) := by decide +kernel
theorem dX12_settle_4 : decode cX12_settle 4 = .ok (.ifCond .le 69, 3) := by decide +kernel
theorem dX12_settle_7 : decode cX12_settle 7 = .ok (.aload_n 0, 1) := by decide +kernel
theorem dX12_settle_8 : decode cX12_settle 8 = .ok (.aload_n 0, 1) := by decide +kernel
theorem dX12_settle_9 : decode cX12_settle 9 = .ok (.invokevirtual 237, 3) := by decide +kernel
theorem dX12_settle_12 : decode cX12_settle 12 = .ok (.invokevirtual 241, 3) := by decide +kernel
theorem dX12_settle_15 : decode cX12_settle 15 = .ok (.iload_n 1, 1) := by decide +kernel
theorem dX12_settle_16 : decode cX12_settle 16 = .ok (.if_icmp .lt 57, 3) := by decide +kernel
theorem dX12_settle_19 : decode cX12_settle 19 = .ok (.aload_n 0, 1) := by decide +kernel
theorem dX12_settle_20 : decode cX12_settle 20 = .ok (.dup, 1) := by decide +kernel
theorem dX12_settle_21 : decode cX12_settle 21 = .ok (.getfield 107, 3) := by decide +kernel
theorem dX12_settle_24 : decode cX12_settle 24 = .ok (.iconst 1, 1) := by decide +kernel
theorem dX12_settle_25 : decode cX12_settle 25 = .ok (.isub, 1) := by decide +kernel
theorem dX12_settle_26 : decode cX12_settle 26 = .ok (.putfield 107, 3) := by decide +kernel
theorem dX12_settle_29 : decode cX12_settle 29 = .ok (.aload_n 0, 1) := by decide +kernel
theorem dX12_settle_30 : decode cX12_settle 30 = .ok (.getfield 125, 3) := by decide +kernel
theorem dX12_settle_33 : decode cX12_settle 33 = .ok (.aload_n 0, 1) := by decide +kernel
theorem dX12_settle_34 : decode cX12_settle 34 = .ok (.getfield 107, 3) := by decide +kernel
theorem dX12_settle_37 : decode cX12_settle 37 = .ok (.iaload, 1) := by decide +kernel
theorem dX12_settle_38 : decode cX12_settle 38 = .ok (.istore_n 2, 1) := by decide +kernel
theorem dX12_settle_39 : decode cX12_settle 39 = .ok (.aload_n 0, 1) := by decide +kernel
theorem dX12_settle_40 : decode cX12_settle 40 = .ok (.dup, 1) := by decide +kernel
theorem dX12_settle_41 : decode cX12_settle 41 = .ok (.getfield 104, 3) := by decide +kernel
theorem dX12_settle_44 : decode cX12_settle 44 = .ok (.iload_n 2, 1) := by decide +kernel
theorem dX12_settle_45 : decode cX12_settle 45 = .ok (.iconst 4, 1) := by decide +kernel
theorem dX12_settle_46 : decode cX12_settle 46 = .ok (.if_icmp .eq 9, 3) := by decide +kernel
theorem dX12_settle_49 : decode cX12_settle 49 = .ok (.iload_n 2, 1) := by decide +kernel
theorem dX12_settle_50 : decode cX12_settle 50 = .ok (.bipush 10, 2) := by decide +kernel
theorem dX12_settle_52 : decode cX12_settle 52 = .ok (.if_icmp .ne 7, 3) := by decide +kernel
theorem dX12_settle_55 : decode cX12_settle 55 = .ok (.iconst 1, 1) := by decide +kernel
theorem dX12_settle_56 : decode cX12_settle 56 = .ok (.goto 4, 3) := by decide +kernel
theorem dX12_settle_59 : decode cX12_settle 59 = .ok (.iconst 0, 1) := by decide +kernel
theorem dX12_settle_60 : decode cX12_settle 60 = .ok (.isub, 1) := by decide +kernel
theorem dX12_settle_61 : decode cX12_settle 61 = .ok (.putfield 104, 3) := by decide +kernel
theorem dX12_settle_64 : decode cX12_settle 64 = .ok (.aload_n 0, 1) := by decide +kernel
theorem dX12_settle_65 : decode cX12_settle 65 = .ok (.iload_n 2, 1) := by decide +kernel
theorem dX12_settle_66 : decode cX12_settle 66 = .ok (.iconst 0, 1) := by decide +kernel
theorem dX12_settle_67 : decode cX12_settle 67 = .ok (.invokevirtual 205, 3) := by decide +kernel
theorem dX12_settle_70 : decode cX12_settle 70 = .ok (.goto (-70), 3) := by decide +kernel
theorem dX12_settle_73 : decode cX12_settle 73 = .ok (.return_, 1) := by decide +kernel
theorem dX12_opens_0 : decode cX12_opens 0 = .ok (.aload_n 0, 1) := by decide +kernel
theorem dX12_opens_1 : decode cX12_opens 1 = .ok (.getfield 104, 3) := by decide +kernel
theorem dX12_opens_4 : decode cX12_opens 4 = .ok (.iconst 5, 1) := by decide +kernel
theorem dX12_opens_5 : decode cX12_opens 5 = .ok (.if_icmp .ne 5, 3) := by decide +kernel
theorem dX12_opens_8 : decode cX12_opens 8 = .ok (.iconst 0, 1) := by decide +kernel
theorem dX12_opens_9 : decode cX12_opens 9 = .ok (.ireturn, 1) := by decide +kernel
theorem dX12_opens_10 : decode cX12_opens 10 = .ok (.aload_n 0, 1) := by decide +kernel
theorem dX12_opens_11 : decode cX12_opens 11 = .ok (.dup, 1) := by decide +kernel
theorem dX12_opens_12 : decode cX12_opens 12 = .ok (.getfield 104, 3) := by decide +kernel
theorem dX12_opens_15 : decode cX12_opens 15 = .ok (.iconst 1, 1) := by decide +kernel
theorem dX12_opens_16 : decode cX12_opens 16 = .ok (.iadd, 1) := by decide +kernel
theorem dX12_opens_17 : decode cX12_opens 17 = .ok (.putfield 104, 3) := by decide +kernel
theorem dX12_opens_20 : decode cX12_opens 20 = .ok (.aload_n 0, 1) := by decide +kernel
theorem dX12_opens_21 : decode cX12_opens 21 = .ok (.iload_n 1, 1) := by decide +kernel
theorem dX12_opens_22 : decode cX12_opens 22 = .ok (.invokevirtual 244, 3) := by decide +kernel
theorem dX12_opens_25 : decode cX12_opens 25 = .ok (.iconst 1, 1) := by decide +kernel
theorem dX12_opens_26 : decode cX12_opens 26 = .ok (.ireturn, 1) := by decide +kernel
theorem dX12_takesOne_0 : decode cX12_takesOne 0 = .ok (.aload_n 0, 1) := by decide +kernel
theorem dX12_takesOne_1 : decode cX12_takesOne 1 = .ok (.getfield 95, 3) := by decide +kernel
theorem dX12_takesOne_4 : decode cX12_takesOne 4 = .ok (.iconst 1, 1) := by decide +kernel
theorem dX12_takesOne_5 : decode cX12_takesOne 5 = .ok (.if_icmp .eq 22, 3) := by decide +kernel
theorem dX12_takesOne_8 : decode cX12_takesOne 8 = .ok (.aload_n 0, 1) := by decide +kernel
theorem dX12_takesOne_9 : decode cX12_takesOne 9 = .ok (.getfield 95, 3) := by decide +kernel
theorem dX12_takesOne_12 : decode cX12_takesOne 12 = .ok (.iconst 2, 1) := by decide +kernel
theorem dX12_takesOne_13 : decode cX12_takesOne 13 = .ok (.if_icmp .ne 62, 3) := by decide +kernel
theorem dX12_takesOne_16 : decode cX12_takesOne 16 = .ok (.aload_n 0, 1) := by decide +kernel
theorem dX12_takesOne_17 : decode cX12_takesOne 17 = .ok (.aload_n 0, 1) := by decide +kernel
theorem dX12_takesOne_18 : decode cX12_takesOne 18 = .ok (.getfield 98, 3) := by decide +kernel
theorem dX12_takesOne_21 : decode cX12_takesOne 21 = .ok (.invokevirtual 220, 3) := by decide +kernel
theorem dX12_takesOne_24 : decode cX12_takesOne 24 = .ok (.ifCond .lt 51, 3) := by decide +kernel
theorem dX12_takesOne_27 : decode cX12_takesOne 27 = .ok (.aload_n 0, 1) := by decide +kernel
theorem dX12_takesOne_28 : decode cX12_takesOne 28 = .ok (.aload_n 0, 1) := by decide +kernel
theorem dX12_takesOne_29 : decode cX12_takesOne 29 = .ok (.getfield 95, 3) := by decide +kernel
theorem dX12_takesOne_32 : decode cX12_takesOne 32 = .ok (.iconst 1, 1) := by decide +kernel
theorem dX12_takesOne_33 : decode cX12_takesOne 33 = .ok (.if_icmp .ne 7, 3) := by decide +kernel
theorem dX12_takesOne_36 : decode cX12_takesOne 36 = .ok (.iconst 0, 1) := by decide +kernel
theorem dX12_takesOne_37 : decode cX12_takesOne 37 = .ok (.goto 4, 3) := by decide +kernel
theorem dX12_takesOne_40 : decode cX12_takesOne 40 = .ok (.iconst 1, 1) := by decide +kernel
theorem dX12_takesOne_41 : decode cX12_takesOne 41 = .ok (.aload_n 0, 1) := by decide +kernel
theorem dX12_takesOne_42 : decode cX12_takesOne 42 = .ok (.getfield 95, 3) := by decide +kernel
theorem dX12_takesOne_45 : decode cX12_takesOne 45 = .ok (.iconst 1, 1) := by decide +kernel
theorem dX12_takesOne_46 : decode cX12_takesOne 46 = .ok (.if_icmp .ne 10, 3) := by decide +kernel
theorem dX12_takesOne_49 : decode cX12_takesOne 49 = .ok (.aload_n 0, 1) := by decide +kernel
theorem dX12_takesOne_50 : decode cX12_takesOne 50 = .ok (.getfield 98, 3) := by decide +kernel
theorem dX12_takesOne_53 : decode cX12_takesOne 53 = .ok (.goto 11, 3) := by decide +kernel
theorem dX12_takesOne_56 : decode cX12_takesOne 56 = .ok (.aload_n 0, 1) := by decide +kernel
theorem dX12_takesOne_57 : decode cX12_takesOne 57 = .ok (.aload_n 0, 1) := by decide +kernel
theorem dX12_takesOne_58 : decode cX12_takesOne 58 = .ok (.getfield 98, 3) := by decide +kernel
theorem dX12_takesOne_61 : decode cX12_takesOne 61 = .ok (.invokevirtual 220, 3) := by decide +kernel
theorem dX12_takesOne_64 : decode cX12_takesOne 64 = .ok (.invokevirtual 205, 3) := by decide +kernel
theorem dX12_takesOne_67 : decode cX12_takesOne 67 = .ok (.aload_n 0, 1) := by decide +kernel
theorem dX12_takesOne_68 : decode cX12_takesOne 68 = .ok (.bipush 7, 2) := by decide +kernel
theorem dX12_takesOne_70 : decode cX12_takesOne 70 = .ok (.invokevirtual 248, 3) := by decide +kernel
theorem dX12_takesOne_73 : decode cX12_takesOne 73 = .ok (.iconst 2, 1) := by decide +kernel
theorem dX12_takesOne_74 : decode cX12_takesOne 74 = .ok (.ireturn, 1) := by decide +kernel
theorem dX12_takesOne_75 : decode cX12_takesOne 75 = .ok (.aload_n 0, 1) := by decide +kernel
theorem dX12_takesOne_76 : decode cX12_takesOne 76 = .ok (.getfield 95, 3) := by decide +kernel
theorem dX12_takesOne_79 : decode cX12_takesOne 79 = .ok (.bipush 45, 2) := by decide +kernel
theorem dX12_takesOne_81 : decode cX12_takesOne 81 = .ok (.if_icmp .ne 18, 3) := by decide +kernel
theorem dX12_takesOne_84 : decode cX12_takesOne 84 = .ok (.aload_n 0, 1) := by decide +kernel
theorem dX12_takesOne_85 : decode cX12_takesOne 85 = .ok (.bipush 10, 2) := by decide +kernel
theorem dX12_takesOne_87 : decode cX12_takesOne 87 = .ok (.invokevirtual 251, 3) := by decide +kernel
theorem dX12_takesOne_90 : decode cX12_takesOne 90 = .ok (.ifCond .eq 7, 3) := by decide +kernel
theorem dX12_takesOne_93 : decode cX12_takesOne 93 = .ok (.iconst 1, 1) := by decide +kernel
theorem dX12_takesOne_94 : decode cX12_takesOne 94 = .ok (.goto 4, 3) := by decide +kernel
theorem dX12_takesOne_97 : decode cX12_takesOne 97 = .ok (.iconst 0, 1) := by decide +kernel
theorem dX12_takesOne_98 : decode cX12_takesOne 98 = .ok (.ireturn, 1) := by decide +kernel
theorem dX12_takesOne_99 : decode cX12_takesOne 99 = .ok (.aload_n 0, 1) := by decide +kernel
theorem dX12_takesOne_100 : decode cX12_takesOne 100 = .ok (.getfield 95, 3) := by decide +kernel
theorem dX12_takesOne_103 : decode cX12_takesOne 103 = .ok (.bipush 40, 2) := by decide +kernel
theorem dX12_takesOne_105 : decode cX12_takesOne 105 = .ok (.if_icmp .ne 18, 3) := by decide +kernel
theorem dX12_takesOne_108 : decode cX12_takesOne 108 = .ok (.aload_n 0, 1) := by decide +kernel
theorem dX12_takesOne_109 : decode cX12_takesOne 109 = .ok (.bipush 20, 2) := by decide +kernel
theorem dX12_takesOne_111 : decode cX12_takesOne 111 = .ok (.invokevirtual 251, 3) := by decide +kernel
theorem dX12_takesOne_114 : decode cX12_takesOne 114 = .ok (.ifCond .eq 7, 3) := by decide +kernel
theorem dX12_takesOne_117 : decode cX12_takesOne 117 = .ok (.iconst 1, 1) := by decide +kernel
theorem dX12_takesOne_118 : decode cX12_takesOne 118 = .ok (.goto 4, 3) := by decide +kernel
theorem dX12_takesOne_121 : decode cX12_takesOne 121 = .ok (.iconst 0, 1) := by decide +kernel
theorem dX12_takesOne_122 : decode cX12_takesOne 122 = .ok (.ireturn, 1) := by decide +kernel
theorem dX12_takesOne_123 : decode cX12_takesOne 123 = .ok (.aload_n 0, 1) := by decide +kernel
theorem dX12_takesOne_124 : decode cX12_takesOne 124 = .ok (.sipush 14836, 3) := by decide +kernel
theorem dX12_takesOne_127 : decode cX12_takesOne 127 = .ok (.invokevirtual 254, 3) := by decide +kernel
theorem dX12_takesOne_130 : decode cX12_takesOne 130 = .ok (.ifCond .eq 19, 3) := by decide +kernel
theorem dX12_takesOne_133 : decode cX12_takesOne 133 = .ok (.iload_n 1, 1) := by decide +kernel
theorem dX12_takesOne_134 : decode cX12_takesOne 134 = .ok (.ifCond .eq 15, 3) := by decide +kernel
theorem dX12_takesOne_137 : decode cX12_takesOne 137 = .ok (.aload_n 0, 1) := by decide +kernel
theorem dX12_takesOne_138 : decode cX12_takesOne 138 = .ok (.iconst 4, 1) := by decide +kernel
theorem dX12_takesOne_139 : decode cX12_takesOne 139 = .ok (.invokevirtual 251, 3) := by decide +kernel
theorem dX12_takesOne_142 : decode cX12_takesOne 142 = .ok (.ifCond .eq 7, 3) := by decide +kernel
theorem dX12_takesOne_145 : decode cX12_takesOne 145 = .ok (.iconst 1, 1) := by decide +kernel
theorem dX12_takesOne_146 : decode cX12_takesOne 146 = .ok (.goto 4, 3) := by decide +kernel
theorem dX12_takesOne_149 : decode cX12_takesOne 149 = .ok (.iconst 0, 1) := by decide +kernel
theorem dX12_takesOne_150 : decode cX12_takesOne 150 = .ok (.ireturn, 1) := by decide +kernel
theorem dX12_takesSign_0 : decode cX12_takesSign 0 = .ok (.aload_n 0, 1) := by decide +kernel
theorem dX12_takesSign_1 : decode cX12_takesSign 1 = .ok (.getfield 95, 3) := by decide +kernel
theorem dX12_takesSign_4 : decode cX12_takesSign 4 = .ok (.bipush 42, 2) := by decide +kernel
theorem dX12_takesSign_6 : decode cX12_takesSign 6 = .ok (.if_icmp .ne 8, 3) := by decide +kernel
theorem dX12_takesSign_9 : decode cX12_takesSign 9 = .ok (.bipush 9, 2) := by decide +kernel
theorem dX12_takesSign_11 : decode cX12_takesSign 11 = .ok (.goto 87, 3) := by decide +kernel
theorem dX12_takesSign_14 : decode cX12_takesSign 14 = .ok (.aload_n 0, 1) := by decide +kernel
theorem dX12_takesSign_15 : decode cX12_takesSign 15 = .ok (.getfield 95, 3) := by decide +kernel
theorem dX12_takesSign_18 : decode cX12_takesSign 18 = .ok (.bipush 43, 2) := by decide +kernel
theorem dX12_takesSign_20 : decode cX12_takesSign 20 = .ok (.if_icmp .ne 8, 3) := by decide +kernel
theorem dX12_takesSign_23 : decode cX12_takesSign 23 = .ok (.bipush 7, 2) := by decide +kernel
theorem dX12_takesSign_25 : decode cX12_takesSign 25 = .ok (.goto 73, 3) := by decide +kernel
theorem dX12_takesSign_28 : decode cX12_takesSign 28 = .ok (.aload_n 0, 1) := by decide +kernel
theorem dX12_takesSign_29 : decode cX12_takesSign 29 = .ok (.getfield 95, 3) := by decide +kernel
theorem dX12_takesSign_32 : decode cX12_takesSign 32 = .ok (.bipush 45, 2) := by decide +kernel
theorem dX12_takesSign_34 : decode cX12_takesSign 34 = .ok (.if_icmp .ne 8, 3) := by decide +kernel
theorem dX12_takesSign_37 : decode cX12_takesSign 37 = .ok (.bipush 8, 2) := by decide +kernel
theorem dX12_takesSign_39 : decode cX12_takesSign 39 = .ok (.goto 59, 3) := by decide +kernel
theorem dX12_takesSign_42 : decode cX12_takesSign 42 = .ok (.aload_n 0, 1) := by decide +kernel
theorem dX12_takesSign_43 : decode cX12_takesSign 43 = .ok (.getfield 95, 3) := by decide +kernel
theorem dX12_takesSign_46 : decode cX12_takesSign 46 = .ok (.bipush 60, 2) := by decide +kernel
theorem dX12_takesSign_48 : decode cX12_takesSign 48 = .ok (.if_icmp .ne 7, 3) := by decide +kernel
theorem dX12_takesSign_51 : decode cX12_takesSign 51 = .ok (.iconst 5, 1) := by decide +kernel
theorem dX12_takesSign_52 : decode cX12_takesSign 52 = .ok (.goto 46, 3) := by decide +kernel
theorem dX12_takesSign_55 : decode cX12_takesSign 55 = .ok (.aload_n 0, 1) := by decide +kernel
theorem dX12_takesSign_56 : decode cX12_takesSign 56 = .ok (.getfield 95, 3) := by decide +kernel
theorem dX12_takesSign_59 : decode cX12_takesSign 59 = .ok (.bipush 61, 2) := by decide +kernel
theorem dX12_takesSign_61 : decode cX12_takesSign 61 = .ok (.if_icmp .ne 8, 3) := by decide +kernel
theorem dX12_takesSign_64 : decode cX12_takesSign 64 = .ok (.bipush 6, 2) := by decide +kernel
theorem dX12_takesSign_66 : decode cX12_takesSign 66 = .ok (.goto 32, 3) := by decide +kernel
theorem dX12_takesSign_69 : decode cX12_takesSign 69 = .ok (.aload_n 0, 1) := by decide +kernel
theorem dX12_takesSign_70 : decode cX12_takesSign 70 = .ok (.sipush 1476, 3) := by decide +kernel
theorem dX12_takesSign_73 : decode cX12_takesSign 73 = .ok (.invokevirtual 254, 3) := by decide +kernel
theorem dX12_takesSign_76 : decode cX12_takesSign 76 = .ok (.ifCond .eq 7, 3) := by decide +kernel
theorem dX12_takesSign_79 : decode cX12_takesSign 79 = .ok (.iconst 3, 1) := by decide +kernel
theorem dX12_takesSign_80 : decode cX12_takesSign 80 = .ok (.goto 18, 3) := by decide +kernel
theorem dX12_takesSign_83 : decode cX12_takesSign 83 = .ok (.aload_n 0, 1) := by decide +kernel
theorem dX12_takesSign_84 : decode cX12_takesSign 84 = .ok (.sipush 498, 3) := by decide +kernel
theorem dX12_takesSign_87 : decode cX12_takesSign 87 = .ok (.invokevirtual 254, 3) := by decide +kernel
theorem dX12_takesSign_90 : decode cX12_takesSign 90 = .ok (.ifCond .eq 7, 3) := by decide +kernel
theorem dX12_takesSign_93 : decode cX12_takesSign 93 = .ok (.iconst 2, 1) := by decide +kernel
theorem dX12_takesSign_94 : decode cX12_takesSign 94 = .ok (.goto 4, 3) := by decide +kernel
theorem dX12_takesSign_97 : decode cX12_takesSign 97 = .ok (.iconst (-1), 1) := by decide +kernel
theorem dX12_takesSign_98 : decode cX12_takesSign 98 = .ok (.istore_n 1, 1) := by decide +kernel
theorem dX12_takesSign_99 : decode cX12_takesSign 99 = .ok (.iload_n 1, 1) := by decide +kernel
theorem dX12_takesSign_100 : decode cX12_takesSign 100 = .ok (.ifCond .lt 59, 3) := by decide +kernel
theorem dX12_takesSign_103 : decode cX12_takesSign 103 = .ok (.aload_n 0, 1) := by decide +kernel
theorem dX12_takesSign_104 : decode cX12_takesSign 104 = .ok (.iload_n 1, 1) := by decide +kernel
theorem dX12_takesSign_105 : decode cX12_takesSign 105 = .ok (.iconst 5, 1) := by decide +kernel
theorem dX12_takesSign_106 : decode cX12_takesSign 106 = .ok (.if_icmp .eq 9, 3) := by decide +kernel
theorem dX12_takesSign_109 : decode cX12_takesSign 109 = .ok (.iload_n 1, 1) := by decide +kernel
theorem dX12_takesSign_110 : decode cX12_takesSign 110 = .ok (.bipush 6, 2) := by decide +kernel
theorem dX12_takesSign_112 : decode cX12_takesSign 112 = .ok (.if_icmp .ne 7, 3) := by decide +kernel
theorem dX12_takesSign_115 : decode cX12_takesSign 115 = .ok (.iconst 5, 1) := by decide +kernel
theorem dX12_takesSign_116 : decode cX12_takesSign 116 = .ok (.goto 8, 3) := by decide +kernel
theorem dX12_takesSign_119 : decode cX12_takesSign 119 = .ok (.aload_n 0, 1) := by decide +kernel
theorem dX12_takesSign_120 : decode cX12_takesSign 120 = .ok (.iload_n 1, 1) := by decide +kernel
theorem dX12_takesSign_121 : decode cX12_takesSign 121 = .ok (.invokevirtual 241, 3) := by decide +kernel
theorem dX12_takesSign_124 : decode cX12_takesSign 124 = .ok (.invokevirtual 248, 3) := by decide +kernel
theorem dX12_takesSign_127 : decode cX12_takesSign 127 = .ok (.iload_n 1, 1) := by decide +kernel
theorem dX12_takesSign_128 : decode cX12_takesSign 128 = .ok (.iconst 5, 1) := by decide +kernel
theorem dX12_takesSign_129 : decode cX12_takesSign 129 = .ok (.if_icmp .eq 9, 3) := by decide +kernel
theorem dX12_takesSign_132 : decode cX12_takesSign 132 = .ok (.iload_n 1, 1) := by decide +kernel
theorem dX12_takesSign_133 : decode cX12_takesSign 133 = .ok (.bipush 6, 2) := by decide +kernel
theorem dX12_takesSign_135 : decode cX12_takesSign 135 = .ok (.if_icmp .ne 17, 3) := by decide +kernel
theorem dX12_takesSign_138 : decode cX12_takesSign 138 = .ok (.aload_n 0, 1) := by decide +kernel
theorem dX12_takesSign_139 : decode cX12_takesSign 139 = .ok (.aload_n 0, 1) := by decide +kernel
theorem dX12_takesSign_140 : decode cX12_takesSign 140 = .ok (.invokevirtual 237, 3) := by decide +kernel
theorem dX12_takesSign_143 : decode cX12_takesSign 143 = .ok (.invokevirtual 241, 3) := by decide +kernel
theorem dX12_takesSign_146 : decode cX12_takesSign 146 = .ok (.iconst 4, 1) := by decide +kernel
theorem dX12_takesSign_147 : decode cX12_takesSign 147 = .ok (.if_icmp .ne 5, 3) := by decide +kernel
theorem dX12_takesSign_150 : decode cX12_takesSign 150 = .ok (.iconst 0, 1) := by decide +kernel
theorem dX12_takesSign_151 : decode cX12_takesSign 151 = .ok (.ireturn, 1) := by decide +kernel
theorem dX12_takesSign_152 : decode cX12_takesSign 152 = .ok (.aload_n 0, 1) := by decide +kernel
theorem dX12_takesSign_153 : decode cX12_takesSign 153 = .ok (.iload_n 1, 1) := by decide +kernel
theorem dX12_takesSign_154 : decode cX12_takesSign 154 = .ok (.invokevirtual 244, 3) := by decide +kernel
theorem dX12_takesSign_157 : decode cX12_takesSign 157 = .ok (.iconst 1, 1) := by decide +kernel
theorem dX12_takesSign_158 : decode cX12_takesSign 158 = .ok (.ireturn, 1) := by decide +kernel
theorem dX12_takesSign_159 : decode cX12_takesSign 159 = .ok (.aload_n 0, 1) := by decide +kernel
theorem dX12_takesSign_160 : decode cX12_takesSign 160 = .ok (.getfield 95, 3) := by decide +kernel
theorem dX12_takesSign_163 : decode cX12_takesSign 163 = .ok (.bipush 41, 2) := by decide +kernel
theorem dX12_takesSign_165 : decode cX12_takesSign 165 = .ok (.if_icmp .eq 5, 3) := by decide +kernel
theorem dX12_takesSign_168 : decode cX12_takesSign 168 = .ok (.iconst 0, 1) := by decide +kernel
theorem dX12_takesSign_169 : decode cX12_takesSign 169 = .ok (.ireturn, 1) := by decide +kernel
theorem dX12_takesSign_170 : decode cX12_takesSign 170 = .ok (.aload_n 0, 1) := by decide +kernel
theorem dX12_takesSign_171 : decode cX12_takesSign 171 = .ok (.iconst 1, 1) := by decide +kernel
theorem dX12_takesSign_172 : decode cX12_takesSign 172 = .ok (.invokevirtual 248, 3) := by decide +kernel
theorem dX12_takesSign_175 : decode cX12_takesSign 175 = .ok (.aload_n 0, 1) := by decide +kernel
theorem dX12_takesSign_176 : decode cX12_takesSign 176 = .ok (.invokevirtual 237, 3) := by decide +kernel
theorem dX12_takesSign_179 : decode cX12_takesSign 179 = .ok (.bipush 20, 2) := by decide +kernel
theorem dX12_takesSign_181 : decode cX12_takesSign 181 = .ok (.if_icmp .eq 5, 3) := by decide +kernel
theorem dX12_takesSign_184 : decode cX12_takesSign 184 = .ok (.iconst 0, 1) := by decide +kernel
theorem dX12_takesSign_185 : decode cX12_takesSign 185 = .ok (.ireturn, 1) := by decide +kernel
theorem dX12_takesSign_186 : decode cX12_takesSign 186 = .ok (.aload_n 0, 1) := by decide +kernel
theorem dX12_takesSign_187 : decode cX12_takesSign 187 = .ok (.dup, 1) := by decide +kernel
theorem dX12_takesSign_188 : decode cX12_takesSign 188 = .ok (.getfield 107, 3) := by decide +kernel
theorem dX12_takesSign_191 : decode cX12_takesSign 191 = .ok (.iconst 1, 1) := by decide +kernel
theorem dX12_takesSign_192 : decode cX12_takesSign 192 = .ok (.isub, 1) := by decide +kernel
theorem dX12_takesSign_193 : decode cX12_takesSign 193 = .ok (.putfield 107, 3) := by decide +kernel
theorem dX12_takesSign_196 : decode cX12_takesSign 196 = .ok (.aload_n 0, 1) := by decide +kernel
theorem dX12_takesSign_197 : decode cX12_takesSign 197 = .ok (.dup, 1) := by decide +kernel
theorem dX12_takesSign_198 : decode cX12_takesSign 198 = .ok (.getfield 104, 3) := by decide +kernel
theorem dX12_takesSign_201 : decode cX12_takesSign 201 = .ok (.iconst 1, 1) := by decide +kernel
theorem dX12_takesSign_202 : decode cX12_takesSign 202 = .ok (.isub, 1) := by decide +kernel
theorem dX12_takesSign_203 : decode cX12_takesSign 203 = .ok (.putfield 104, 3) := by decide +kernel
theorem dX12_takesSign_206 : decode cX12_takesSign 206 = .ok (.aload_n 0, 1) := by decide +kernel
theorem dX12_takesSign_207 : decode cX12_takesSign 207 = .ok (.bipush 7, 2) := by decide +kernel
theorem dX12_takesSign_209 : decode cX12_takesSign 209 = .ok (.invokevirtual 248, 3) := by decide +kernel
theorem dX12_takesSign_212 : decode cX12_takesSign 212 = .ok (.iconst 2, 1) := by decide +kernel
theorem dX12_takesSign_213 : decode cX12_takesSign 213 = .ok (.ireturn, 1) := by decide +kernel
theorem dX12_takesE_0 : decode cX12_takesE 0 = .ok (.aload_n 0, 1) := by decide +kernel
theorem dX12_takesE_1 : decode cX12_takesE 1 = .ok (.iload_n 1, 1) := by decide +kernel
theorem dX12_takesE_2 : decode cX12_takesE 2 = .ok (.putfield 110, 3) := by decide +kernel
theorem dX12_takesE_5 : decode cX12_takesE 5 = .ok (.aload_n 0, 1) := by decide +kernel
theorem dX12_takesE_6 : decode cX12_takesE 6 = .ok (.iconst 0, 1) := by decide +kernel
theorem dX12_takesE_7 : decode cX12_takesE 7 = .ok (.putfield 107, 3) := by decide +kernel
theorem dX12_takesE_10 : decode cX12_takesE 10 = .ok (.aload_n 0, 1) := by decide +kernel
theorem dX12_takesE_11 : decode cX12_takesE 11 = .ok (.iconst 0, 1) := by decide +kernel
theorem dX12_takesE_12 : decode cX12_takesE 12 = .ok (.putfield 104, 3) := by decide +kernel
theorem dX12_takesE_15 : decode cX12_takesE 15 = .ok (.iconst 1, 1) := by decide +kernel
theorem dX12_takesE_16 : decode cX12_takesE 16 = .ok (.istore_n 2, 1) := by decide +kernel
theorem dX12_takesE_17 : decode cX12_takesE 17 = .ok (.iconst 1, 1) := by decide +kernel
theorem dX12_takesE_18 : decode cX12_takesE 18 = .ok (.istore_n 3, 1) := by decide +kernel
theorem dX12_takesE_19 : decode cX12_takesE 19 = .ok (.iload_n 2, 1) := by decide +kernel
theorem dX12_takesE_20 : decode cX12_takesE 20 = .ok (.ifCond .ne 55, 3) := by decide +kernel
theorem dX12_takesE_23 : decode cX12_takesE 23 = .ok (.aload_n 0, 1) := by decide +kernel
theorem dX12_takesE_24 : decode cX12_takesE 24 = .ok (.getfield 95, 3) := by decide +kernel
theorem dX12_takesE_27 : decode cX12_takesE 27 = .ok (.bipush 41, 2) := by decide +kernel
theorem dX12_takesE_29 : decode cX12_takesE 29 = .ok (.if_icmp .eq 46, 3) := by decide +kernel
theorem dX12_takesE_32 : decode cX12_takesE 32 = .ok (.aload_n 0, 1) := by decide +kernel
theorem dX12_takesE_33 : decode cX12_takesE 33 = .ok (.getfield 95, 3) := by decide +kernel
theorem dX12_takesE_36 : decode cX12_takesE 36 = .ok (.bipush 59, 2) := by decide +kernel
theorem dX12_takesE_38 : decode cX12_takesE 38 = .ok (.if_icmp .eq 10, 3) := by decide +kernel
theorem dX12_takesE_41 : decode cX12_takesE 41 = .ok (.aload_n 0, 1) := by decide +kernel
theorem dX12_takesE_42 : decode cX12_takesE 42 = .ok (.getfield 95, 3) := by decide +kernel
theorem dX12_takesE_45 : decode cX12_takesE 45 = .ok (.ifCond .ge 30, 3) := by decide +kernel
theorem dX12_takesE_48 : decode cX12_takesE 48 = .ok (.aload_n 0, 1) := by decide +kernel
theorem dX12_takesE_49 : decode cX12_takesE 49 = .ok (.iconst 1, 1) := by decide +kernel
theorem dX12_takesE_50 : decode cX12_takesE 50 = .ok (.invokevirtual 248, 3) := by decide +kernel
theorem dX12_takesE_53 : decode cX12_takesE 53 = .ok (.aload_n 0, 1) := by decide +kernel
theorem dX12_takesE_54 : decode cX12_takesE 54 = .ok (.getfield 107, 3) := by decide +kernel
theorem dX12_takesE_57 : decode cX12_takesE 57 = .ok (.ifCond .ne 16, 3) := by decide +kernel
theorem dX12_takesE_60 : decode cX12_takesE 60 = .ok (.aload_n 0, 1) := by decide +kernel
theorem dX12_takesE_61 : decode cX12_takesE 61 = .ok (.getfield 95, 3) := by decide +kernel
theorem dX12_takesE_64 : decode cX12_takesE 64 = .ok (.bipush 59, 2) := by decide +kernel
theorem dX12_takesE_66 : decode cX12_takesE 66 = .ok (.if_icmp .ne 7, 3) := by decide +kernel
theorem dX12_takesE_69 : decode cX12_takesE 69 = .ok (.iconst 1, 1) := by decide +kernel
theorem dX12_takesE_70 : decode cX12_takesE 70 = .ok (.goto 4, 3) := by decide +kernel
theorem dX12_takesE_73 : decode cX12_takesE 73 = .ok (.iconst 0, 1) := by decide +kernel
theorem dX12_takesE_74 : decode cX12_takesE 74 = .ok (.ireturn, 1) := by decide +kernel
theorem dX12_takesE_75 : decode cX12_takesE 75 = .ok (.aload_n 0, 1) := by decide +kernel
theorem dX12_takesE_76 : decode cX12_takesE 76 = .ok (.sipush 14836, 3) := by decide +kernel
theorem dX12_takesE_79 : decode cX12_takesE 79 = .ok (.invokevirtual 254, 3) := by decide +kernel
theorem dX12_takesE_82 : decode cX12_takesE 82 = .ok (.istore 4, 2) := by decide +kernel
theorem dX12_takesE_84 : decode cX12_takesE 84 = .ok (.aload_n 0, 1) := by decide +kernel
theorem dX12_takesE_85 : decode cX12_takesE 85 = .ok (.getfield 95, 3) := by decide +kernel
theorem dX12_takesE_88 : decode cX12_takesE 88 = .ok (.bipush 40, 2) := by decide +kernel
theorem dX12_takesE_90 : decode cX12_takesE 90 = .ok (.if_icmp .ne 7, 3) := by decide +kernel
theorem dX12_takesE_93 : decode cX12_takesE 93 = .ok (.iconst 1, 1) := by decide +kernel
theorem dX12_takesE_94 : decode cX12_takesE 94 = .ok (.goto 4, 3) := by decide +kernel
theorem dX12_takesE_97 : decode cX12_takesE 97 = .ok (.iconst 0, 1) := by decide +kernel
theorem dX12_takesE_98 : decode cX12_takesE 98 = .ok (.istore 5, 2) := by decide +kernel
theorem dX12_takesE_100 : decode cX12_takesE 100 = .ok (.aload_n 0, 1) := by decide +kernel
theorem dX12_takesE_101 : decode cX12_takesE 101 = .ok (.getfield 95, 3) := by decide +kernel
theorem dX12_takesE_104 : decode cX12_takesE 104 = .ok (.iconst 2, 1) := by decide +kernel
theorem dX12_takesE_105 : decode cX12_takesE 105 = .ok (.if_icmp .ne 7, 3) := by decide +kernel
theorem dX12_takesE_108 : decode cX12_takesE 108 = .ok (.iconst 1, 1) := by decide +kernel
theorem dX12_takesE_109 : decode cX12_takesE 109 = .ok (.goto 4, 3) := by decide +kernel
theorem dX12_takesE_112 : decode cX12_takesE 112 = .ok (.iconst 0, 1) := by decide +kernel
theorem dX12_takesE_113 : decode cX12_takesE 113 = .ok (.istore 6, 2) := by decide +kernel
theorem dX12_takesE_115 : decode cX12_takesE 115 = .ok (.iload_n 2, 1) := by decide +kernel
theorem dX12_takesE_116 : decode cX12_takesE 116 = .ok (.ifCond .eq 11, 3) := by decide +kernel
theorem dX12_takesE_119 : decode cX12_takesE 119 = .ok (.aload_n 0, 1) := by decide +kernel
theorem dX12_takesE_120 : decode cX12_takesE 120 = .ok (.iload_n 3, 1) := by decide +kernel
theorem dX12_takesE_121 : decode cX12_takesE 121 = .ok (.invokevirtual 257, 3) := by decide +kernel
theorem dX12_takesE_124 : decode cX12_takesE 124 = .ok (.goto 7, 3) := by decide +kernel
theorem dX12_takesE_127 : decode cX12_takesE 127 = .ok (.aload_n 0, 1) := by decide +kernel
theorem dX12_takesE_128 : decode cX12_takesE 128 = .ok (.invokevirtual 261, 3) := by decide +kernel
theorem dX12_takesE_131 : decode cX12_takesE 131 = .ok (.istore 7, 2) := by decide +kernel
theorem dX12_takesE_133 : decode cX12_takesE 133 = .ok (.iload 7, 2) := by decide +kernel
theorem dX12_takesE_135 : decode cX12_takesE 135 = .ok (.ifCond .ne 5, 3) := by decide +kernel
theorem dX12_takesE_138 : decode cX12_takesE 138 = .ok (.iconst 0, 1) := by decide +kernel
theorem dX12_takesE_139 : decode cX12_takesE 139 = .ok (.ireturn, 1) := by decide +kernel
theorem dX12_takesE_140 : decode cX12_takesE 140 = .ok (.iload_n 2, 1) := by decide +kernel
theorem dX12_takesE_141 : decode cX12_takesE 141 = .ok (.ifCond .eq 21, 3) := by decide +kernel
theorem dX12_takesE_144 : decode cX12_takesE 144 = .ok (.iload 4, 2) := by decide +kernel
theorem dX12_takesE_146 : decode cX12_takesE 146 = .ok (.ifCond .ne 8, 3) := by decide +kernel
theorem dX12_takesE_149 : decode cX12_takesE 149 = .ok (.iload 5, 2) := by decide +kernel
theorem dX12_takesE_151 : decode cX12_takesE 151 = .ok (.ifCond .eq 7, 3) := by decide +kernel
theorem dX12_takesE_154 : decode cX12_takesE 154 = .ok (.iconst 1, 1) := by decide +kernel
theorem dX12_takesE_155 : decode cX12_takesE 155 = .ok (.goto 9, 3) := by decide +kernel
theorem dX12_takesE_158 : decode cX12_takesE 158 = .ok (.iconst 0, 1) := by decide +kernel
theorem dX12_takesE_159 : decode cX12_takesE 159 = .ok (.goto 5, 3) := by decide +kernel
theorem dX12_takesE_162 : decode cX12_takesE 162 = .ok (.iload 6, 2) := by decide +kernel
theorem dX12_takesE_164 : decode cX12_takesE 164 = .ok (.istore_n 3, 1) := by decide +kernel
theorem dX12_takesE_165 : decode cX12_takesE 165 = .ok (.iload 7, 2) := by decide +kernel
theorem dX12_takesE_167 : decode cX12_takesE 167 = .ok (.iconst 1, 1) := by decide +kernel
theorem dX12_takesE_168 : decode cX12_takesE 168 = .ok (.if_icmp .ne 7, 3) := by decide +kernel
theorem dX12_takesE_171 : decode cX12_takesE 171 = .ok (.iconst 1, 1) := by decide +kernel
theorem dX12_takesE_172 : decode cX12_takesE 172 = .ok (.goto 4, 3) := by decide +kernel
theorem dX12_takesE_175 : decode cX12_takesE 175 = .ok (.iconst 0, 1) := by decide +kernel
theorem dX12_takesE_176 : decode cX12_takesE 176 = .ok (.istore_n 2, 1) := by decide +kernel
theorem dX12_takesE_177 : decode cX12_takesE 177 = .ok (.aload_n 0, 1) := by decide +kernel
theorem dX12_takesE_178 : decode cX12_takesE 178 = .ok (.invokevirtual 264, 3) := by decide +kernel
theorem dX12_takesE_181 : decode cX12_takesE 181 = .ok (.goto (-162), 3) := by decide +kernel
theorem dX12_takesPart_0 : decode cX12_takesPart 0 = .ok (.aload_n 0, 1) := by decide +kernel
theorem dX12_takesPart_1 : decode cX12_takesPart 1 = .ok (.iload_n 3, 1) := by decide +kernel
theorem dX12_takesPart_2 : decode cX12_takesPart 2 = .ok (.invokevirtual 254, 3) := by decide +kernel
theorem dX12_takesPart_5 : decode cX12_takesPart 5 = .ok (.ifCond .ne 5, 3) := by decide +kernel
theorem dX12_takesPart_8 : decode cX12_takesPart 8 = .ok (.iconst 0, 1) := by decide +kernel
theorem dX12_takesPart_9 : decode cX12_takesPart 9 = .ok (.ireturn, 1) := by decide +kernel
theorem dX12_takesPart_10 : decode cX12_takesPart 10 = .ok (.aload_n 0, 1) := by decide +kernel
theorem dX12_takesPart_11 : decode cX12_takesPart 11 = .ok (.invokevirtual 264, 3) := by decide +kernel
theorem dX12_takesPart_14 : decode cX12_takesPart 14 = .ok (.sipush 480, 3) := by decide +kernel
theorem dX12_takesPart_17 : decode cX12_takesPart 17 = .ok (.iload_n 1, 1) := by decide +kernel
theorem dX12_takesPart_18 : decode cX12_takesPart 18 = .ok (.imul, 1) := by decide +kernel
theorem dX12_takesPart_19 : decode cX12_takesPart 19 = .ok (.sipush 160, 3) := by decide +kernel
theorem dX12_takesPart_22 : decode cX12_takesPart 22 = .ok (.iload_n 2, 1) := by decide +kernel
theorem dX12_takesPart_23 : decode cX12_takesPart 23 = .ok (.imul, 1) := by decide +kernel
theorem dX12_takesPart_24 : decode cX12_takesPart 24 = .ok (.iadd, 1) := by decide +kernel
theorem dX12_takesPart_25 : decode cX12_takesPart 25 = .ok (.istore 4, 2) := by decide +kernel
theorem dX12_takesPart_27 : decode cX12_takesPart 27 = .ok (.aload_n 0, 1) := by decide +kernel
theorem dX12_takesPart_28 : decode cX12_takesPart 28 = .ok (.iload 4, 2) := by decide +kernel
theorem dX12_takesPart_30 : decode cX12_takesPart 30 = .ok (.invokevirtual 267, 3) := by decide +kernel
theorem dX12_takesPart_33 : decode cX12_takesPart 33 = .ok (.ifCond .ne 5, 3) := by decide +kernel
theorem dX12_takesPart_36 : decode cX12_takesPart 36 = .ok (.iconst 0, 1) := by decide +kernel
theorem dX12_takesPart_37 : decode cX12_takesPart 37 = .ok (.ireturn, 1) := by decide +kernel
theorem dX12_takesPart_38 : decode cX12_takesPart 38 = .ok (.aload_n 0, 1) := by decide +kernel
theorem dX12_takesPart_39 : decode cX12_takesPart 39 = .ok (.getfield 122, 3) := by decide +kernel
theorem dX12_takesPart_42 : decode cX12_takesPart 42 = .ok (.iconst 3, 1) := by decide +kernel
theorem dX12_takesPart_43 : decode cX12_takesPart 43 = .ok (.iload_n 1, 1) := by decide +kernel
theorem dX12_takesPart_44 : decode cX12_takesPart 44 = .ok (.imul, 1) := by decide +kernel
theorem dX12_takesPart_45 : decode cX12_takesPart 45 = .ok (.iload_n 2, 1) := by decide +kernel
theorem dX12_takesPart_46 : decode cX12_takesPart 46 = .ok (.iadd, 1) := by decide +kernel
theorem dX12_takesPart_47 : decode cX12_takesPart 47 = .ok (.aload_n 0, 1) := by decide +kernel
theorem dX12_takesPart_48 : decode cX12_takesPart 48 = .ok (.getfield 110, 3) := by decide +kernel
theorem dX12_takesPart_51 : decode cX12_takesPart 51 = .ok (.iload 4, 2) := by decide +kernel
theorem dX12_takesPart_53 : decode cX12_takesPart 53 = .ok (.isub, 1) := by decide +kernel
theorem dX12_takesPart_54 : decode cX12_takesPart 54 = .ok (.iastore, 1) := by decide +kernel
theorem dX12_takesPart_55 : decode cX12_takesPart 55 = .ok (.aload_n 0, 1) := by decide +kernel
theorem dX12_takesPart_56 : decode cX12_takesPart 56 = .ok (.invokevirtual 264, 3) := by decide +kernel
theorem dX12_takesPart_59 : decode cX12_takesPart 59 = .ok (.iconst 1, 1) := by decide +kernel
theorem dX12_takesPart_60 : decode cX12_takesPart 60 = .ok (.ireturn, 1) := by decide +kernel
theorem dX12_text_0 : decode cX12_text 0 = .ok (.aload_n 0, 1) := by decide +kernel
theorem dX12_text_1 : decode cX12_text 1 = .ok (.getfield 83, 3) := by decide +kernel
theorem dX12_text_4 : decode cX12_text 4 = .ok (.bipush 6, 2) := by decide +kernel
theorem dX12_text_6 : decode cX12_text 6 = .ok (.if_icmp .ne 6, 3) := by decide +kernel
theorem dX12_text_9 : decode cX12_text 9 = .ok (.bipush (-4), 2) := by decide +kernel
theorem dX12_text_11 : decode cX12_text 11 = .ok (.ireturn, 1) := by decide +kernel
theorem dX12_text_12 : decode cX12_text 12 = .ok (.aload_n 0, 1) := by decide +kernel
theorem dX12_text_13 : decode cX12_text 13 = .ok (.iconst 0, 1) := by decide +kernel
theorem dX12_text_14 : decode cX12_text 14 = .ok (.putfield 92, 3) := by decide +kernel
theorem dX12_text_17 : decode cX12_text 17 = .ok (.aload_n 0, 1) := by decide +kernel
theorem dX12_text_18 : decode cX12_text 18 = .ok (.invokevirtual 226, 3) := by decide +kernel
theorem dX12_text_21 : decode cX12_text 21 = .ok (.aload_n 0, 1) := by decide +kernel
theorem dX12_text_22 : decode cX12_text 22 = .ok (.aload_n 0, 1) := by decide +kernel
theorem dX12_text_23 : decode cX12_text 23 = .ok (.getfield 83, 3) := by decide +kernel
theorem dX12_text_26 : decode cX12_text 26 = .ok (.iconst 0, 1) := by decide +kernel
theorem dX12_text_27 : decode cX12_text 27 = .ok (.ldc 229, 2) := by decide +kernel
theorem dX12_text_29 : decode cX12_text 29 = .ok (.invokevirtual 270, 3) := by decide +kernel
theorem dX12_text_32 : decode cX12_text 32 = .ok (.ifCond .eq 43, 3) := by decide +kernel
theorem dX12_text_35 : decode cX12_text 35 = .ok (.aload_n 0, 1) := by decide +kernel
theorem dX12_text_36 : decode cX12_text 36 = .ok (.aload_n 0, 1) := by decide +kernel
theorem dX12_text_37 : decode cX12_text 37 = .ok (.getfield 83, 3) := by decide +kernel
theorem dX12_text_40 : decode cX12_text 40 = .ok (.iconst 1, 1) := by decide +kernel
theorem dX12_text_41 : decode cX12_text 41 = .ok (.ldc 230, 2) := by decide +kernel
theorem dX12_text_43 : decode cX12_text 43 = .ok (.invokevirtual 270, 3) := by decide +kernel
theorem dX12_text_46 : decode cX12_text 46 = .ok (.ifCond .eq 29, 3) := by decide +kernel
theorem dX12_text_49 : decode cX12_text 49 = .ok (.aload_n 0, 1) := by decide +kernel
theorem dX12_text_50 : decode cX12_text 50 = .ok (.aload_n 0, 1) := by decide +kernel
theorem dX12_text_51 : decode cX12_text 51 = .ok (.getfield 83, 3) := by decide +kernel
theorem dX12_text_54 : decode cX12_text 54 = .ok (.iconst 2, 1) := by decide +kernel
theorem dX12_text_55 : decode cX12_text 55 = .ok (.ldc 231, 2) := by decide +kernel
theorem dX12_text_57 : decode cX12_text 57 = .ok (.invokevirtual 270, 3) := by decide +kernel
theorem dX12_text_60 : decode cX12_text 60 = .ok (.ifCond .eq 15, 3) := by decide +kernel
theorem dX12_text_63 : decode cX12_text 63 = .ok (.aload_n 0, 1) := by decide +kernel
theorem dX12_text_64 : decode cX12_text 64 = .ok (.getfield 95, 3) := by decide +kernel
theorem dX12_text_67 : decode cX12_text 67 = .ok (.iconst (-1), 1) := by decide +kernel
theorem dX12_text_68 : decode cX12_text 68 = .ok (.if_icmp .ne 7, 3) := by decide +kernel
theorem dX12_text_71 : decode cX12_text 71 = .ok (.iconst 1, 1) := by decide +kernel
theorem dX12_text_72 : decode cX12_text 72 = .ok (.goto 4, 3) := by decide +kernel
theorem dX12_text_75 : decode cX12_text 75 = .ok (.iconst 0, 1) := by decide +kernel
theorem dX12_text_76 : decode cX12_text 76 = .ok (.istore_n 1, 1) := by decide +kernel
theorem dX12_text_77 : decode cX12_text 77 = .ok (.aload_n 0, 1) := by decide +kernel
theorem dX12_text_78 : decode cX12_text 78 = .ok (.iconst 0, 1) := by decide +kernel
theorem dX12_text_79 : decode cX12_text 79 = .ok (.putfield 89, 3) := by decide +kernel
theorem dX12_text_82 : decode cX12_text 82 = .ok (.iload_n 1, 1) := by decide +kernel
theorem dX12_text_83 : decode cX12_text 83 = .ok (.ifCond .ne 11, 3) := by decide +kernel
theorem dX12_text_86 : decode cX12_text 86 = .ok (.bipush (-100), 2) := by decide +kernel
theorem dX12_text_88 : decode cX12_text 88 = .ok (.aload_n 0, 1) := by decide +kernel
theorem dX12_text_89 : decode cX12_text 89 = .ok (.getfield 92, 3) := by decide +kernel
theorem dX12_text_92 : decode cX12_text 92 = .ok (.isub, 1) := by decide +kernel
theorem dX12_text_93 : decode cX12_text 93 = .ok (.ireturn, 1) := by decide +kernel
theorem dX12_text_94 : decode cX12_text 94 = .ok (.aload_n 0, 1) := by decide +kernel
theorem dX12_text_95 : decode cX12_text 95 = .ok (.dup, 1) := by decide +kernel
theorem dX12_text_96 : decode cX12_text 96 = .ok (.getfield 83, 3) := by decide +kernel
theorem dX12_text_99 : decode cX12_text 99 = .ok (.iconst 1, 1) := by decide +kernel
theorem dX12_text_100 : decode cX12_text 100 = .ok (.iadd, 1) := by decide +kernel
theorem dX12_text_101 : decode cX12_text 101 = .ok (.putfield 83, 3) := by decide +kernel
theorem dX12_text_104 : decode cX12_text 104 = .ok (.aload_n 0, 1) := by decide +kernel
theorem dX12_text_105 : decode cX12_text 105 = .ok (.getfield 83, 3) := by decide +kernel
theorem dX12_text_108 : decode cX12_text 108 = .ok (.iconst 1, 1) := by decide +kernel
theorem dX12_text_109 : decode cX12_text 109 = .ok (.isub, 1) := by decide +kernel
theorem dX12_text_110 : decode cX12_text 110 = .ok (.ireturn, 1) := by decide +kernel
theorem dX12_force_0 : decode cX12_force 0 = .ok (.aload_n 0, 1) := by decide +kernel
theorem dX12_force_1 : decode cX12_force 1 = .ok (.iload_n 1, 1) := by decide +kernel
theorem dX12_force_2 : decode cX12_force 2 = .ok (.iconst 0, 1) := by decide +kernel
theorem dX12_force_3 : decode cX12_force 3 = .ok (.aload_n 0, 1) := by decide +kernel
theorem dX12_force_4 : decode cX12_force 4 = .ok (.getfield 83, 3) := by decide +kernel
theorem dX12_force_7 : decode cX12_force 7 = .ok (.iconst 1, 1) := by decide +kernel
theorem dX12_force_8 : decode cX12_force 8 = .ok (.isub, 1) := by decide +kernel
theorem dX12_force_9 : decode cX12_force 9 = .ok (.invokevirtual 7, 3) := by decide +kernel
theorem dX12_force_12 : decode cX12_force 12 = .ok (.ifCond .ne 6, 3) := by decide +kernel
theorem dX12_force_15 : decode cX12_force 15 = .ok (.bipush (-2), 2) := by decide +kernel
theorem dX12_force_17 : decode cX12_force 17 = .ok (.ireturn, 1) := by decide +kernel
theorem dX12_force_18 : decode cX12_force 18 = .ok (.aload_n 0, 1) := by decide +kernel
theorem dX12_force_19 : decode cX12_force 19 = .ok (.getfield 86, 3) := by decide +kernel
theorem dX12_force_22 : decode cX12_force 22 = .ok (.istore_n 2, 1) := by decide +kernel
theorem dX12_force_23 : decode cX12_force 23 = .ok (.aload_n 0, 1) := by decide +kernel
theorem dX12_force_24 : decode cX12_force 24 = .ok (.iload_n 1, 1) := by decide +kernel
theorem dX12_force_25 : decode cX12_force 25 = .ok (.putfield 86, 3) := by decide +kernel
theorem dX12_force_28 : decode cX12_force 28 = .ok (.iload_n 2, 1) := by decide +kernel
theorem dX12_force_29 : decode cX12_force 29 = .ok (.ireturn, 1) := by decide +kernel
theorem dX12_done_0 : decode cX12_done 0 = .ok (.iload_n 1, 1) := by decide +kernel
theorem dX12_done_1 : decode cX12_done 1 = .ok (.tableswitch 101 2 8 #[43, 57, 101, 71, 82, 93, 97], 43) := by decide +kernel
theorem dX12_done_44 : decode cX12_done 44 = .ok (.iload_n 2, 1) := by decide +kernel
theorem dX12_done_45 : decode cX12_done 45 = .ok (.ifCond .ne 7, 3) := by decide +kernel
theorem dX12_done_48 : decode cX12_done 48 = .ok (.iload_n 3, 1) := by decide +kernel
theorem dX12_done_49 : decode cX12_done 49 = .ok (.ifCond .eq 7, 3) := by decide +kernel
theorem dX12_done_52 : decode cX12_done 52 = .ok (.iconst 1, 1) := by decide +kernel
theorem dX12_done_53 : decode cX12_done 53 = .ok (.goto 4, 3) := by decide +kernel
theorem dX12_done_56 : decode cX12_done 56 = .ok (.iconst 0, 1) := by decide +kernel
theorem dX12_done_57 : decode cX12_done 57 = .ok (.ireturn, 1) := by decide +kernel
theorem dX12_done_58 : decode cX12_done 58 = .ok (.iload_n 2, 1) := by decide +kernel
theorem dX12_done_59 : decode cX12_done 59 = .ok (.ifCond .eq 11, 3) := by decide +kernel
theorem dX12_done_62 : decode cX12_done 62 = .ok (.iload_n 3, 1) := by decide +kernel
theorem dX12_done_63 : decode cX12_done 63 = .ok (.ifCond .eq 7, 3) := by decide +kernel
theorem dX12_done_66 : decode cX12_done 66 = .ok (.iconst 1, 1) := by decide +kernel
theorem dX12_done_67 : decode cX12_done 67 = .ok (.goto 4, 3) := by decide +kernel
theorem dX12_done_70 : decode cX12_done 70 = .ok (.iconst 0, 1) := by decide +kernel
theorem dX12_done_71 : decode cX12_done 71 = .ok (.ireturn, 1) := by decide +kernel
theorem dX12_done_72 : decode cX12_done 72 = .ok (.iload_n 2, 1) := by decide +kernel
theorem dX12_done_73 : decode cX12_done 73 = .ok (.iload_n 3, 1) := by decide +kernel
theorem dX12_done_74 : decode cX12_done 74 = .ok (.if_icmp .ge 7, 3) := by decide +kernel
theorem dX12_done_77 : decode cX12_done 77 = .ok (.iconst 1, 1) := by decide +kernel
theorem dX12_done_78 : decode cX12_done 78 = .ok (.goto 4, 3) := by decide +kernel
theorem dX12_done_81 : decode cX12_done 81 = .ok (.iconst 0, 1) := by decide +kernel
theorem dX12_done_82 : decode cX12_done 82 = .ok (.ireturn, 1) := by decide +kernel
theorem dX12_done_83 : decode cX12_done 83 = .ok (.iload_n 2, 1) := by decide +kernel
theorem dX12_done_84 : decode cX12_done 84 = .ok (.iload_n 3, 1) := by decide +kernel
theorem dX12_done_85 : decode cX12_done 85 = .ok (.if_icmp .ne 7, 3) := by decide +kernel
theorem dX12_done_88 : decode cX12_done 88 = .ok (.iconst 1, 1) := by decide +kernel
theorem dX12_done_89 : decode cX12_done 89 = .ok (.goto 4, 3) := by decide +kernel
theorem dX12_done_92 : decode cX12_done 92 = .ok (.iconst 0, 1) := by decide +kernel
theorem dX12_done_93 : decode cX12_done 93 = .ok (.ireturn, 1) := by decide +kernel
theorem dX12_done_94 : decode cX12_done 94 = .ok (.iload_n 2, 1) := by decide +kernel
theorem dX12_done_95 : decode cX12_done 95 = .ok (.iload_n 3, 1) := by decide +kernel
theorem dX12_done_96 : decode cX12_done 96 = .ok (.iadd, 1) := by decide +kernel
theorem dX12_done_97 : decode cX12_done 97 = .ok (.ireturn, 1) := by decide +kernel
theorem dX12_done_98 : decode cX12_done 98 = .ok (.iload_n 2, 1) := by decide +kernel
theorem dX12_done_99 : decode cX12_done 99 = .ok (.iload_n 3, 1) := by decide +kernel
theorem dX12_done_100 : decode cX12_done 100 = .ok (.isub, 1) := by decide +kernel
theorem dX12_done_101 : decode cX12_done 101 = .ok (.ireturn, 1) := by decide +kernel
theorem dX12_done_102 : decode cX12_done 102 = .ok (.iload_n 2, 1) := by decide +kernel
theorem dX12_done_103 : decode cX12_done 103 = .ok (.iload_n 3, 1) := by decide +kernel
theorem dX12_done_104 : decode cX12_done 104 = .ok (.imul, 1) := by decide +kernel
theorem dX12_done_105 : decode cX12_done 105 = .ok (.ireturn, 1) := by decide +kernel
theorem dX12_tellsRule_0 : decode cX12_tellsRule 0 = .ok (.aload_n 0, 1) := by decide +kernel
theorem dX12_tellsRule_1 : decode cX12_tellsRule 1 = .ok (.getfield 131, 3) := by decide +kernel
theorem dX12_tellsRule_4 : decode cX12_tellsRule 4 = .ok (.iconst 0, 1) := by decide +kernel
theorem dX12_tellsRule_5 : decode cX12_tellsRule 5 = .ok (.aload_n 0, 1) := by decide +kernel
theorem dX12_tellsRule_6 : decode cX12_tellsRule 6 = .ok (.getfield 134, 3) := by decide +kernel
theorem dX12_tellsRule_9 : decode cX12_tellsRule 9 = .ok (.iload_n 2, 1) := by decide +kernel
theorem dX12_tellsRule_10 : decode cX12_tellsRule 10 = .ok (.iaload, 1) := by decide +kernel
theorem dX12_tellsRule_11 : decode cX12_tellsRule 11 = .ok (.iastore, 1) := by decide +kernel
theorem dX12_tellsRule_12 : decode cX12_tellsRule 12 = .ok (.aload_n 0, 1) := by decide +kernel
theorem dX12_tellsRule_13 : decode cX12_tellsRule 13 = .ok (.getfield 131, 3) := by decide +kernel
theorem dX12_tellsRule_16 : decode cX12_tellsRule 16 = .ok (.iconst 1, 1) := by decide +kernel
theorem dX12_tellsRule_17 : decode cX12_tellsRule 17 = .ok (.iconst 0, 1) := by decide +kernel
theorem dX12_tellsRule_18 : decode cX12_tellsRule 18 = .ok (.iastore, 1) := by decide +kernel
theorem dX12_tellsRule_19 : decode cX12_tellsRule 19 = .ok (.iconst 0, 1) := by decide +kernel
theorem dX12_tellsRule_20 : decode cX12_tellsRule 20 = .ok (.istore 4, 2) := by decide +kernel
theorem dX12_tellsRule_22 : decode cX12_tellsRule 22 = .ok (.iload 4, 2) := by decide +kernel
theorem dX12_tellsRule_24 : decode cX12_tellsRule 24 = .ok (.aload_n 0, 1) := by decide +kernel
theorem dX12_tellsRule_25 : decode cX12_tellsRule 25 = .ok (.getfield 1, 3) := by decide +kernel
theorem dX12_tellsRule_28 : decode cX12_tellsRule 28 = .ok (.if_icmp .ge 34, 3) := by decide +kernel
theorem dX12_tellsRule_31 : decode cX12_tellsRule 31 = .ok (.aload_n 0, 1) := by decide +kernel
theorem dX12_tellsRule_32 : decode cX12_tellsRule 32 = .ok (.getfield 131, 3) := by decide +kernel
theorem dX12_tellsRule_35 : decode cX12_tellsRule 35 = .ok (.iconst 1, 1) := by decide +kernel
theorem dX12_tellsRule_36 : decode cX12_tellsRule 36 = .ok (.dup2, 1) := by decide +kernel
theorem dX12_tellsRule_37 : decode cX12_tellsRule 37 = .ok (.iaload, 1) := by decide +kernel
theorem dX12_tellsRule_38 : decode cX12_tellsRule 38 = .ok (.aload_n 0, 1) := by decide +kernel
theorem dX12_tellsRule_39 : decode cX12_tellsRule 39 = .ok (.getfield 143, 3) := by decide +kernel
theorem dX12_tellsRule_42 : decode cX12_tellsRule 42 = .ok (.iload 4, 2) := by decide +kernel
theorem dX12_tellsRule_44 : decode cX12_tellsRule 44 = .ok (.iaload, 1) := by decide +kernel
theorem dX12_tellsRule_45 : decode cX12_tellsRule 45 = .ok (.iload_n 2, 1) := by decide +kernel
theorem dX12_tellsRule_46 : decode cX12_tellsRule 46 = .ok (.if_icmp .ne 7, 3) := by decide +kernel
theorem dX12_tellsRule_49 : decode cX12_tellsRule 49 = .ok (.iconst 1, 1) := by decide +kernel
theorem dX12_tellsRule_50 : decode cX12_tellsRule 50 = .ok (.goto 4, 3) := by decide +kernel
theorem dX12_tellsRule_53 : decode cX12_tellsRule 53 = .ok (.iconst 0, 1) := by decide +kernel
theorem dX12_tellsRule_54 : decode cX12_tellsRule 54 = .ok (.iadd, 1) := by decide +kernel
theorem dX12_tellsRule_55 : decode cX12_tellsRule 55 = .ok (.iastore, 1) := by decide +kernel
theorem dX12_tellsRule_56 : decode cX12_tellsRule 56 = .ok (.iinc 4 1, 3) := by decide +kernel
theorem dX12_tellsRule_59 : decode cX12_tellsRule 59 = .ok (.goto (-37), 3) := by decide +kernel
theorem dX12_tellsRule_62 : decode cX12_tellsRule 62 = .ok (.aload_n 0, 1) := by decide +kernel
theorem dX12_tellsRule_63 : decode cX12_tellsRule 63 = .ok (.getfield 131, 3) := by decide +kernel
theorem dX12_tellsRule_66 : decode cX12_tellsRule 66 = .ok (.iconst 2, 1) := by decide +kernel
theorem dX12_tellsRule_67 : decode cX12_tellsRule 67 = .ok (.iload_n 3, 1) := by decide +kernel
theorem dX12_tellsRule_68 : decode cX12_tellsRule 68 = .ok (.iastore, 1) := by decide +kernel
theorem dX12_tellsRule_69 : decode cX12_tellsRule 69 = .ok (.aload_n 0, 1) := by decide +kernel
theorem dX12_tellsRule_70 : decode cX12_tellsRule 70 = .ok (.getfield 131, 3) := by decide +kernel
theorem dX12_tellsRule_73 : decode cX12_tellsRule 73 = .ok (.iconst 3, 1) := by decide +kernel
theorem dX12_tellsRule_74 : decode cX12_tellsRule 74 = .ok (.iload_n 2, 1) := by decide +kernel
theorem dX12_tellsRule_75 : decode cX12_tellsRule 75 = .ok (.iastore, 1) := by decide +kernel
theorem dX12_tellsRule_76 : decode cX12_tellsRule 76 = .ok (.aload_n 0, 1) := by decide +kernel
theorem dX12_tellsRule_77 : decode cX12_tellsRule 77 = .ok (.getfield 131, 3) := by decide +kernel
theorem dX12_tellsRule_80 : decode cX12_tellsRule 80 = .ok (.iconst 4, 1) := by decide +kernel
theorem dX12_tellsRule_81 : decode cX12_tellsRule 81 = .ok (.aload_n 0, 1) := by decide +kernel
theorem dX12_tellsRule_82 : decode cX12_tellsRule 82 = .ok (.getfield 137, 3) := by decide +kernel
theorem dX12_tellsRule_85 : decode cX12_tellsRule 85 = .ok (.iload_n 2, 1) := by decide +kernel
theorem dX12_tellsRule_86 : decode cX12_tellsRule 86 = .ok (.iaload, 1) := by decide +kernel
theorem dX12_tellsRule_87 : decode cX12_tellsRule 87 = .ok (.iastore, 1) := by decide +kernel
theorem dX12_tellsRule_88 : decode cX12_tellsRule 88 = .ok (.aload_n 0, 1) := by decide +kernel
theorem dX12_tellsRule_89 : decode cX12_tellsRule 89 = .ok (.getfield 131, 3) := by decide +kernel
theorem dX12_tellsRule_92 : decode cX12_tellsRule 92 = .ok (.iconst 5, 1) := by decide +kernel
theorem dX12_tellsRule_93 : decode cX12_tellsRule 93 = .ok (.aload_n 0, 1) := by decide +kernel
theorem dX12_tellsRule_94 : decode cX12_tellsRule 94 = .ok (.getfield 28, 3) := by decide +kernel
theorem dX12_tellsRule_97 : decode cX12_tellsRule 97 = .ok (.iastore, 1) := by decide +kernel
theorem dX12_tellsRule_98 : decode cX12_tellsRule 98 = .ok (.sipush 480, 3) := by decide +kernel
theorem dX12_tellsRule_101 : decode cX12_tellsRule 101 = .ok (.aload_n 0, 1) := by decide +kernel
theorem dX12_tellsRule_102 : decode cX12_tellsRule 102 = .ok (.getfield 86, 3) := by decide +kernel
theorem dX12_tellsRule_105 : decode cX12_tellsRule 105 = .ok (.imul, 1) := by decide +kernel
theorem dX12_tellsRule_106 : decode cX12_tellsRule 106 = .ok (.sipush 160, 3) := by decide +kernel
theorem dX12_tellsRule_109 : decode cX12_tellsRule 109 = .ok (.iload_n 1, 1) := by decide +kernel
theorem dX12_tellsRule_110 : decode cX12_tellsRule 110 = .ok (.imul, 1) := by decide +kernel
theorem dX12_tellsRule_111 : decode cX12_tellsRule 111 = .ok (.iadd, 1) := by decide +kernel
theorem dX12_tellsRule_112 : decode cX12_tellsRule 112 = .ok (.istore 4, 2) := by decide +kernel
theorem dX12_tellsRule_114 : decode cX12_tellsRule 114 = .ok (.iconst 0, 1) := by decide +kernel
theorem dX12_tellsRule_115 : decode cX12_tellsRule 115 = .ok (.istore 5, 2) := by decide +kernel
theorem dX12_tellsRule_117 : decode cX12_tellsRule 117 = .ok (.iload 4, 2) := by decide +kernel
theorem dX12_tellsRule_119 : decode cX12_tellsRule 119 = .ok (.istore 6, 2) := by decide +kernel
theorem dX12_tellsRule_121 : decode cX12_tellsRule 121 = .ok (.iload 6, 2) := by decide +kernel
theorem dX12_tellsRule_123 : decode cX12_tellsRule 123 = .ok (.iload 4, 2) := by decide +kernel
theorem dX12_tellsRule_125 : decode cX12_tellsRule 125 = .ok (.aload_n 0, 1) := by decide +kernel
theorem dX12_tellsRule_126 : decode cX12_tellsRule 126 = .ok (.getfield 122, 3) := by decide +kernel
theorem dX12_tellsRule_129 : decode cX12_tellsRule 129 = .ok (.iconst 3, 1) := by decide +kernel
theorem dX12_tellsRule_130 : decode cX12_tellsRule 130 = .ok (.aload_n 0, 1) := by decide +kernel
theorem dX12_tellsRule_131 : decode cX12_tellsRule 131 = .ok (.getfield 86, 3) := by decide +kernel
theorem dX12_tellsRule_134 : decode cX12_tellsRule 134 = .ok (.imul, 1) := by decide +kernel
theorem dX12_tellsRule_135 : decode cX12_tellsRule 135 = .ok (.iload_n 1, 1) := by decide +kernel
theorem dX12_tellsRule_136 : decode cX12_tellsRule 136 = .ok (.iadd, 1) := by decide +kernel
theorem dX12_tellsRule_137 : decode cX12_tellsRule 137 = .ok (.iaload, 1) := by decide +kernel
theorem dX12_tellsRule_138 : decode cX12_tellsRule 138 = .ok (.iadd, 1) := by decide +kernel
theorem dX12_tellsRule_139 : decode cX12_tellsRule 139 = .ok (.if_icmp .ge 165, 3) := by decide +kernel
theorem dX12_tellsRule_142 : decode cX12_tellsRule 142 = .ok (.aload_n 0, 1) := by decide +kernel
theorem dX12_tellsRule_143 : decode cX12_tellsRule 143 = .ok (.getfield 116, 3) := by decide +kernel
theorem dX12_tellsRule_146 : decode cX12_tellsRule 146 = .ok (.iload 6, 2) := by decide +kernel
theorem dX12_tellsRule_148 : decode cX12_tellsRule 148 = .ok (.iaload, 1) := by decide +kernel
theorem dX12_tellsRule_149 : decode cX12_tellsRule 149 = .ok (.istore 7, 2) := by decide +kernel
theorem dX12_tellsRule_151 : decode cX12_tellsRule 151 = .ok (.iload 7, 2) := by decide +kernel
theorem dX12_tellsRule_153 : decode cX12_tellsRule 153 = .ok (.ifCond .eq 9, 3) := by decide +kernel
theorem dX12_tellsRule_156 : decode cX12_tellsRule 156 = .ok (.iload 7, 2) := by decide +kernel
theorem dX12_tellsRule_158 : decode cX12_tellsRule 158 = .ok (.iconst 1, 1) := by decide +kernel
theorem dX12_tellsRule_159 : decode cX12_tellsRule 159 = .ok (.if_icmp .ne 43, 3) := by decide +kernel
theorem dX12_tellsRule_162 : decode cX12_tellsRule 162 = .ok (.aload_n 0, 1) := by decide +kernel
theorem dX12_tellsRule_163 : decode cX12_tellsRule 163 = .ok (.getfield 128, 3) := by decide +kernel
theorem dX12_tellsRule_166 : decode cX12_tellsRule 166 = .ok (.iload 5, 2) := by decide +kernel
theorem dX12_tellsRule_168 : decode cX12_tellsRule 168 = .ok (.iload 7, 2) := by decide +kernel
theorem dX12_tellsRule_170 : decode cX12_tellsRule 170 = .ok (.ifCond .ne 13, 3) := by decide +kernel
theorem dX12_tellsRule_173 : decode cX12_tellsRule 173 = .ok (.aload_n 0, 1) := by decide +kernel
theorem dX12_tellsRule_174 : decode cX12_tellsRule 174 = .ok (.getfield 119, 3) := by decide +kernel
theorem dX12_tellsRule_177 : decode cX12_tellsRule 177 = .ok (.iload 6, 2) := by decide +kernel
theorem dX12_tellsRule_179 : decode cX12_tellsRule 179 = .ok (.iaload, 1) := by decide +kernel
theorem dX12_tellsRule_180 : decode cX12_tellsRule 180 = .ok (.goto 15, 3) := by decide +kernel
theorem dX12_tellsRule_183 : decode cX12_tellsRule 183 = .ok (.aload_n 0, 1) := by decide +kernel
theorem dX12_tellsRule_184 : decode cX12_tellsRule 184 = .ok (.getfield 131, 3) := by decide +kernel
theorem dX12_tellsRule_187 : decode cX12_tellsRule 187 = .ok (.aload_n 0, 1) := by decide +kernel
theorem dX12_tellsRule_188 : decode cX12_tellsRule 188 = .ok (.getfield 119, 3) := by decide +kernel
theorem dX12_tellsRule_191 : decode cX12_tellsRule 191 = .ok (.iload 6, 2) := by decide +kernel
theorem dX12_tellsRule_193 : decode cX12_tellsRule 193 = .ok (.iaload, 1) := by decide +kernel
theorem dX12_tellsRule_194 : decode cX12_tellsRule 194 = .ok (.iaload, 1) := by decide +kernel
theorem dX12_tellsRule_195 : decode cX12_tellsRule 195 = .ok (.iastore, 1) := by decide +kernel
theorem dX12_tellsRule_196 : decode cX12_tellsRule 196 = .ok (.iinc 5 1, 3) := by decide +kernel
theorem dX12_tellsRule_199 : decode cX12_tellsRule 199 = .ok (.goto 99, 3) := by decide +kernel
theorem dX12_tellsRule_202 : decode cX12_tellsRule 202 = .ok (.iload 7, 2) := by decide +kernel
theorem dX12_tellsRule_204 : decode cX12_tellsRule 204 = .ok (.iconst 4, 1) := by decide +kernel
theorem dX12_tellsRule_205 : decode cX12_tellsRule 205 = .ok (.if_icmp .eq 10, 3) := by decide +kernel
theorem dX12_tellsRule_208 : decode cX12_tellsRule 208 = .ok (.iload 7, 2) := by decide +kernel
theorem dX12_tellsRule_210 : decode cX12_tellsRule 210 = .ok (.bipush 10, 2) := by decide +kernel
theorem dX12_tellsRule_212 : decode cX12_tellsRule 212 = .ok (.if_icmp .ne 52, 3) := by decide +kernel
theorem dX12_tellsRule_215 : decode cX12_tellsRule 215 = .ok (.aload_n 0, 1) := by decide +kernel
theorem dX12_tellsRule_216 : decode cX12_tellsRule 216 = .ok (.getfield 128, 3) := by decide +kernel
theorem dX12_tellsRule_219 : decode cX12_tellsRule 219 = .ok (.iload 5, 2) := by decide +kernel
theorem dX12_tellsRule_221 : decode cX12_tellsRule 221 = .ok (.iconst 1, 1) := by decide +kernel
theorem dX12_tellsRule_222 : decode cX12_tellsRule 222 = .ok (.isub, 1) := by decide +kernel
theorem dX12_tellsRule_223 : decode cX12_tellsRule 223 = .ok (.iload 7, 2) := by decide +kernel
theorem dX12_tellsRule_225 : decode cX12_tellsRule 225 = .ok (.bipush 10, 2) := by decide +kernel
theorem dX12_tellsRule_227 : decode cX12_tellsRule 227 = .ok (.if_icmp .ne 16, 3) := by decide +kernel
theorem dX12_tellsRule_230 : decode cX12_tellsRule 230 = .ok (.aload_n 0, 1) := by decide +kernel
theorem dX12_tellsRule_231 : decode cX12_tellsRule 231 = .ok (.getfield 128, 3) := by decide +kernel
theorem dX12_tellsRule_234 : decode cX12_tellsRule 234 = .ok (.iload 5, 2) := by decide +kernel
theorem dX12_tellsRule_236 : decode cX12_tellsRule 236 = .ok (.iconst 1, 1) := by decide +kernel
theorem dX12_tellsRule_237 : decode cX12_tellsRule 237 = .ok (.isub, 1) := by decide +kernel
theorem dX12_tellsRule_238 : decode cX12_tellsRule 238 = .ok (.iaload, 1) := by decide +kernel
theorem dX12_tellsRule_239 : decode cX12_tellsRule 239 = .ok (.ineg, 1) := by decide +kernel
theorem dX12_tellsRule_240 : decode cX12_tellsRule 240 = .ok (.goto 20, 3) := by decide +kernel
theorem dX12_tellsRule_243 : decode cX12_tellsRule 243 = .ok (.aload_n 0, 1) := by decide +kernel
theorem dX12_tellsRule_244 : decode cX12_tellsRule 244 = .ok (.getfield 128, 3) := by decide +kernel
theorem dX12_tellsRule_247 : decode cX12_tellsRule 247 = .ok (.iload 5, 2) := by decide +kernel
theorem dX12_tellsRule_249 : decode cX12_tellsRule 249 = .ok (.iconst 1, 1) := by decide +kernel
theorem dX12_tellsRule_250 : decode cX12_tellsRule 250 = .ok (.isub, 1) := by decide +kernel
theorem dX12_tellsRule_251 : decode cX12_tellsRule 251 = .ok (.iaload, 1) := by decide +kernel
theorem dX12_tellsRule_252 : decode cX12_tellsRule 252 = .ok (.ifCond .ne 7, 3) := by decide +kernel
theorem dX12_tellsRule_255 : decode cX12_tellsRule 255 = .ok (.iconst 1, 1) := by decide +kernel
theorem dX12_tellsRule_256 : decode cX12_tellsRule 256 = .ok (.goto 4, 3) := by decide +kernel
theorem dX12_tellsRule_259 : decode cX12_tellsRule 259 = .ok (.iconst 0, 1) := by decide +kernel
theorem dX12_tellsRule_260 : decode cX12_tellsRule 260 = .ok (.iastore, 1) := by decide +kernel
theorem dX12_tellsRule_261 : decode cX12_tellsRule 261 = .ok (.goto 37, 3) := by decide +kernel
theorem dX12_tellsRule_264 : decode cX12_tellsRule 264 = .ok (.iinc 5 (-1), 3) := by decide +kernel
theorem dX12_tellsRule_267 : decode cX12_tellsRule 267 = .ok (.aload_n 0, 1) := by decide +kernel
theorem dX12_tellsRule_268 : decode cX12_tellsRule 268 = .ok (.getfield 128, 3) := by decide +kernel
theorem dX12_tellsRule_271 : decode cX12_tellsRule 271 = .ok (.iload 5, 2) := by decide +kernel
theorem dX12_tellsRule_273 : decode cX12_tellsRule 273 = .ok (.iconst 1, 1) := by decide +kernel
theorem dX12_tellsRule_274 : decode cX12_tellsRule 274 = .ok (.isub, 1) := by decide +kernel
theorem dX12_tellsRule_275 : decode cX12_tellsRule 275 = .ok (.aload_n 0, 1) := by decide +kernel
theorem dX12_tellsRule_276 : decode cX12_tellsRule 276 = .ok (.iload 7, 2) := by decide +kernel
theorem dX12_tellsRule_278 : decode cX12_tellsRule 278 = .ok (.aload_n 0, 1) := by decide +kernel
theorem dX12_tellsRule_279 : decode cX12_tellsRule 279 = .ok (.getfield 128, 3) := by decide +kernel
theorem dX12_tellsRule_282 : decode cX12_tellsRule 282 = .ok (.iload 5, 2) := by decide +kernel
theorem dX12_tellsRule_284 : decode cX12_tellsRule 284 = .ok (.iconst 1, 1) := by decide +kernel
theorem dX12_tellsRule_285 : decode cX12_tellsRule 285 = .ok (.isub, 1) := by decide +kernel
theorem dX12_tellsRule_286 : decode cX12_tellsRule 286 = .ok (.iaload, 1) := by decide +kernel
theorem dX12_tellsRule_287 : decode cX12_tellsRule 287 = .ok (.aload_n 0, 1) := by decide +kernel
theorem dX12_tellsRule_288 : decode cX12_tellsRule 288 = .ok (.getfield 128, 3) := by decide +kernel
theorem dX12_tellsRule_291 : decode cX12_tellsRule 291 = .ok (.iload 5, 2) := by decide +kernel
theorem dX12_tellsRule_293 : decode cX12_tellsRule 293 = .ok (.iaload, 1) := by decide +kernel
theorem dX12_tellsRule_294 : decode cX12_tellsRule 294 = .ok (.invokevirtual 273, 3) := by decide +kernel
theorem dX12_tellsRule_297 : decode cX12_tellsRule 297 = .ok (.iastore, 1) := by decide +kernel
theorem dX12_tellsRule_298 : decode cX12_tellsRule 298 = .ok (.iinc 6 1, 3) := by decide +kernel
theorem dX12_tellsRule_301 : decode cX12_tellsRule 301 = .ok (.goto (-180), 3) := by decide +kernel
theorem dX12_tellsRule_304 : decode cX12_tellsRule 304 = .ok (.aload_n 0, 1) := by decide +kernel
theorem dX12_tellsRule_305 : decode cX12_tellsRule 305 = .ok (.getfield 128, 3) := by decide +kernel
theorem dX12_tellsRule_308 : decode cX12_tellsRule 308 = .ok (.iconst 0, 1) := by decide +kernel
theorem dX12_tellsRule_309 : decode cX12_tellsRule 309 = .ok (.iaload, 1) := by decide +kernel
theorem dX12_tellsRule_310 : decode cX12_tellsRule 310 = .ok (.ireturn, 1) := by decide +kernel
theorem dX12_comeAll_0 : decode cX12_comeAll 0 = .ok (.aload_n 0, 1) := by decide +kernel
theorem dX12_comeAll_1 : decode cX12_comeAll 1 = .ok (.iconst 2, 1) := by decide +kernel
theorem dX12_comeAll_2 : decode cX12_comeAll 2 = .ok (.iconst 0, 1) := by decide +kernel
theorem dX12_comeAll_3 : decode cX12_comeAll 3 = .ok (.iload_n 1, 1) := by decide +kernel
theorem dX12_comeAll_4 : decode cX12_comeAll 4 = .ok (.invokevirtual 277, 3) := by decide +kernel
theorem dX12_comeAll_7 : decode cX12_comeAll 7 = .ok (.istore_n 2, 1) := by decide +kernel
theorem dX12_comeAll_8 : decode cX12_comeAll 8 = .ok (.aload_n 0, 1) := by decide +kernel
theorem dX12_comeAll_9 : decode cX12_comeAll 9 = .ok (.iconst 2, 1) := by decide +kernel
theorem dX12_comeAll_10 : decode cX12_comeAll 10 = .ok (.iconst 1, 1) := by decide +kernel
theorem dX12_comeAll_11 : decode cX12_comeAll 11 = .ok (.iload_n 1, 1) := by decide +kernel
theorem dX12_comeAll_12 : decode cX12_comeAll 12 = .ok (.invokevirtual 277, 3) := by decide +kernel
theorem dX12_comeAll_15 : decode cX12_comeAll 15 = .ok (.istore_n 3, 1) := by decide +kernel
theorem dX12_comeAll_16 : decode cX12_comeAll 16 = .ok (.iconst 0, 1) := by decide +kernel
theorem dX12_comeAll_17 : decode cX12_comeAll 17 = .ok (.istore 4, 2) := by decide +kernel
theorem dX12_comeAll_19 : decode cX12_comeAll 19 = .ok (.iload 4, 2) := by decide +kernel
theorem dX12_comeAll_21 : decode cX12_comeAll 21 = .ok (.iconst 2, 1) := by decide +kernel
theorem dX12_comeAll_22 : decode cX12_comeAll 22 = .ok (.if_icmp .ge 115, 3) := by decide +kernel
theorem dX12_comeAll_25 : decode cX12_comeAll 25 = .ok (.iload 4, 2) := by decide +kernel
theorem dX12_comeAll_27 : decode cX12_comeAll 27 = .ok (.ifCond .ne 7, 3) := by decide +kernel
theorem dX12_comeAll_30 : decode cX12_comeAll 30 = .ok (.iload_n 2, 1) := by decide +kernel
theorem dX12_comeAll_31 : decode cX12_comeAll 31 = .ok (.goto 4, 3) := by decide +kernel
theorem dX12_comeAll_34 : decode cX12_comeAll 34 = .ok (.iload_n 3, 1) := by decide +kernel
theorem dX12_comeAll_35 : decode cX12_comeAll 35 = .ok (.istore 5, 2) := by decide +kernel
theorem dX12_comeAll_37 : decode cX12_comeAll 37 = .ok (.aload_n 0, 1) := by decide +kernel
theorem dX12_comeAll_38 : decode cX12_comeAll 38 = .ok (.getfield 31, 3) := by decide +kernel
theorem dX12_comeAll_41 : decode cX12_comeAll 41 = .ok (.bipush 60, 2) := by decide +kernel
theorem dX12_comeAll_43 : decode cX12_comeAll 43 = .ok (.iload 4, 2) := by decide +kernel
theorem dX12_comeAll_45 : decode cX12_comeAll 45 = .ok (.imul, 1) := by decide +kernel
theorem dX12_comeAll_46 : decode cX12_comeAll 46 = .ok (.iload_n 1, 1) := by decide +kernel
theorem dX12_comeAll_47 : decode cX12_comeAll 47 = .ok (.iadd, 1) := by decide +kernel
theorem dX12_comeAll_48 : decode cX12_comeAll 48 = .ok (.iaload, 1) := by decide +kernel
theorem dX12_comeAll_49 : decode cX12_comeAll 49 = .ok (.iload 5, 2) := by decide +kernel
theorem dX12_comeAll_51 : decode cX12_comeAll 51 = .ok (.bipush 99, 2) := by decide +kernel
theorem dX12_comeAll_53 : decode cX12_comeAll 53 = .ok (.if_icmp .le 8, 3) := by decide +kernel
theorem dX12_comeAll_56 : decode cX12_comeAll 56 = .ok (.bipush 99, 2) := by decide +kernel
theorem dX12_comeAll_58 : decode cX12_comeAll 58 = .ok (.goto 17, 3) := by decide +kernel
theorem dX12_comeAll_61 : decode cX12_comeAll 61 = .ok (.iload 5, 2) := by decide +kernel
theorem dX12_comeAll_63 : decode cX12_comeAll 63 = .ok (.bipush (-99), 2) := by decide +kernel
theorem dX12_comeAll_65 : decode cX12_comeAll 65 = .ok (.if_icmp .ge 8, 3) := by decide +kernel
theorem dX12_comeAll_68 : decode cX12_comeAll 68 = .ok (.bipush (-99), 2) := by decide +kernel
theorem dX12_comeAll_70 : decode cX12_comeAll 70 = .ok (.goto 5, 3) := by decide +kernel
theorem dX12_comeAll_73 : decode cX12_comeAll 73 = .ok (.iload 5, 2) := by decide +kernel
theorem dX12_comeAll_75 : decode cX12_comeAll 75 = .ok (.iadd, 1) := by decide +kernel
theorem dX12_comeAll_76 : decode cX12_comeAll 76 = .ok (.istore 6, 2) := by decide +kernel
theorem dX12_comeAll_78 : decode cX12_comeAll 78 = .ok (.iload 6, 2) := by decide +kernel
theorem dX12_comeAll_80 : decode cX12_comeAll 80 = .ok (.ifCond .ge 7, 3) := by decide +kernel
theorem dX12_comeAll_83 : decode cX12_comeAll 83 = .ok (.iconst 0, 1) := by decide +kernel
theorem dX12_comeAll_84 : decode cX12_comeAll 84 = .ok (.goto 5, 3) := by decide +kernel
theorem dX12_comeAll_87 : decode cX12_comeAll 87 = .ok (.iload 6, 2) := by decide +kernel
theorem dX12_comeAll_89 : decode cX12_comeAll 89 = .ok (.istore 6, 2) := by decide +kernel
theorem dX12_comeAll_91 : decode cX12_comeAll 91 = .ok (.aload_n 0, 1) := by decide +kernel
theorem dX12_comeAll_92 : decode cX12_comeAll 92 = .ok (.getfield 134, 3) := by decide +kernel
theorem dX12_comeAll_95 : decode cX12_comeAll 95 = .ok (.iload 4, 2) := by decide +kernel
theorem dX12_comeAll_97 : decode cX12_comeAll 97 = .ok (.dup2, 1) := by decide +kernel
theorem dX12_comeAll_98 : decode cX12_comeAll 98 = .ok (.iaload, 1) := by decide +kernel
theorem dX12_comeAll_99 : decode cX12_comeAll 99 = .ok (.iload 6, 2) := by decide +kernel
theorem dX12_comeAll_101 : decode cX12_comeAll 101 = .ok (.iadd, 1) := by decide +kernel
theorem dX12_comeAll_102 : decode cX12_comeAll 102 = .ok (.iastore, 1) := by decide +kernel
theorem dX12_comeAll_103 : decode cX12_comeAll 103 = .ok (.aload_n 0, 1) := by decide +kernel
theorem dX12_comeAll_104 : decode cX12_comeAll 104 = .ok (.getfield 137, 3) := by decide +kernel
theorem dX12_comeAll_107 : decode cX12_comeAll 107 = .ok (.iload 4, 2) := by decide +kernel
theorem dX12_comeAll_109 : decode cX12_comeAll 109 = .ok (.dup2, 1) := by decide +kernel
theorem dX12_comeAll_110 : decode cX12_comeAll 110 = .ok (.iaload, 1) := by decide +kernel
theorem dX12_comeAll_111 : decode cX12_comeAll 111 = .ok (.aload_n 0, 1) := by decide +kernel
theorem dX12_comeAll_112 : decode cX12_comeAll 112 = .ok (.iload 6, 2) := by decide +kernel
theorem dX12_comeAll_114 : decode cX12_comeAll 114 = .ok (.aload_n 0, 1) := by decide +kernel
theorem dX12_comeAll_115 : decode cX12_comeAll 115 = .ok (.getfield 34, 3) := by decide +kernel
theorem dX12_comeAll_118 : decode cX12_comeAll 118 = .ok (.bipush 60, 2) := by decide +kernel
theorem dX12_comeAll_120 : decode cX12_comeAll 120 = .ok (.iload 4, 2) := by decide +kernel
theorem dX12_comeAll_122 : decode cX12_comeAll 122 = .ok (.imul, 1) := by decide +kernel
theorem dX12_comeAll_123 : decode cX12_comeAll 123 = .ok (.iload_n 1, 1) := by decide +kernel
theorem dX12_comeAll_124 : decode cX12_comeAll 124 = .ok (.iadd, 1) := by decide +kernel
theorem dX12_comeAll_125 : decode cX12_comeAll 125 = .ok (.iaload, 1) := by decide +kernel
theorem dX12_comeAll_126 : decode cX12_comeAll 126 = .ok (.invokevirtual 280, 3) := by decide +kernel
theorem dX12_comeAll_129 : decode cX12_comeAll 129 = .ok (.iadd, 1) := by decide +kernel
theorem dX12_comeAll_130 : decode cX12_comeAll 130 = .ok (.iastore, 1) := by decide +kernel
theorem dX12_comeAll_131 : decode cX12_comeAll 131 = .ok (.iinc 4 1, 3) := by decide +kernel
theorem dX12_comeAll_134 : decode cX12_comeAll 134 = .ok (.goto (-115), 3) := by decide +kernel
theorem dX12_comeAll_137 : decode cX12_comeAll 137 = .ok (.return_, 1) := by decide +kernel
theorem dX12_lastOf_0 : decode cX12_lastOf 0 = .ok (.iconst (-1), 1) := by decide +kernel
theorem dX12_lastOf_1 : decode cX12_lastOf 1 = .ok (.istore_n 3, 1) := by decide +kernel
theorem dX12_lastOf_2 : decode cX12_lastOf 2 = .ok (.iconst 0, 1) := by decide +kernel
theorem dX12_lastOf_3 : decode cX12_lastOf 3 = .ok (.istore 4, 2) := by decide +kernel
theorem dX12_lastOf_5 : decode cX12_lastOf 5 = .ok (.iconst 0, 1) := by decide +kernel
theorem dX12_lastOf_6 : decode cX12_lastOf 6 = .ok (.istore 5, 2) := by decide +kernel
theorem dX12_lastOf_8 : decode cX12_lastOf 8 = .ok (.iload 5, 2) := by decide +kernel
theorem dX12_lastOf_10 : decode cX12_lastOf 10 = .ok (.aload_n 0, 1) := by decide +kernel
theorem dX12_lastOf_11 : decode cX12_lastOf 11 = .ok (.getfield 1, 3) := by decide +kernel
theorem dX12_lastOf_14 : decode cX12_lastOf 14 = .ok (.if_icmp .ge 53, 3) := by decide +kernel
theorem dX12_lastOf_17 : decode cX12_lastOf 17 = .ok (.aload_n 0, 1) := by decide +kernel
theorem dX12_lastOf_18 : decode cX12_lastOf 18 = .ok (.getfield 143, 3) := by decide +kernel
theorem dX12_lastOf_21 : decode cX12_lastOf 21 = .ok (.iload 5, 2) := by decide +kernel
theorem dX12_lastOf_23 : decode cX12_lastOf 23 = .ok (.iaload, 1) := by decide +kernel
theorem dX12_lastOf_24 : decode cX12_lastOf 24 = .ok (.iload_n 1, 1) := by decide +kernel
theorem dX12_lastOf_25 : decode cX12_lastOf 25 = .ok (.if_icmp .eq 6, 3) := by decide +kernel
theorem dX12_lastOf_28 : decode cX12_lastOf 28 = .ok (.goto 33, 3) := by decide +kernel
theorem dX12_lastOf_31 : decode cX12_lastOf 31 = .ok (.iinc 4 1, 3) := by decide +kernel
theorem dX12_lastOf_34 : decode cX12_lastOf 34 = .ok (.aload_n 0, 1) := by decide +kernel
theorem dX12_lastOf_35 : decode cX12_lastOf 35 = .ok (.iload 5, 2) := by decide +kernel
theorem dX12_lastOf_37 : decode cX12_lastOf 37 = .ok (.iload_n 2, 1) := by decide +kernel
theorem dX12_lastOf_38 : decode cX12_lastOf 38 = .ok (.invokevirtual 69, 3) := by decide +kernel
theorem dX12_lastOf_41 : decode cX12_lastOf 41 = .ok (.ifCond .eq 18, 3) := by decide +kernel
theorem dX12_lastOf_44 : decode cX12_lastOf 44 = .ok (.aload_n 0, 1) := by decide +kernel
theorem dX12_lastOf_45 : decode cX12_lastOf 45 = .ok (.getfield 146, 3) := by decide +kernel
theorem dX12_lastOf_48 : decode cX12_lastOf 48 = .ok (.iload 5, 2) := by decide +kernel
theorem dX12_lastOf_50 : decode cX12_lastOf 50 = .ok (.iaload, 1) := by decide +kernel
theorem dX12_lastOf_51 : decode cX12_lastOf 51 = .ok (.ifCond .ne 8, 3) := by decide +kernel
theorem dX12_lastOf_54 : decode cX12_lastOf 54 = .ok (.iload 5, 2) := by decide +kernel
theorem dX12_lastOf_56 : decode cX12_lastOf 56 = .ok (.goto 4, 3) := by decide +kernel
theorem dX12_lastOf_59 : decode cX12_lastOf 59 = .ok (.iload_n 3, 1) := by decide +kernel
theorem dX12_lastOf_60 : decode cX12_lastOf 60 = .ok (.istore_n 3, 1) := by decide +kernel
theorem dX12_lastOf_61 : decode cX12_lastOf 61 = .ok (.iinc 5 1, 3) := by decide +kernel
theorem dX12_lastOf_64 : decode cX12_lastOf 64 = .ok (.goto (-56), 3) := by decide +kernel
theorem dX12_lastOf_67 : decode cX12_lastOf 67 = .ok (.iload 4, 2) := by decide +kernel
theorem dX12_lastOf_69 : decode cX12_lastOf 69 = .ok (.iconst 2, 1) := by decide +kernel
theorem dX12_lastOf_70 : decode cX12_lastOf 70 = .ok (.if_icmp .ge 7, 3) := by decide +kernel
theorem dX12_lastOf_73 : decode cX12_lastOf 73 = .ok (.iconst (-1), 1) := by decide +kernel
theorem dX12_lastOf_74 : decode cX12_lastOf 74 = .ok (.goto 4, 3) := by decide +kernel
theorem dX12_lastOf_77 : decode cX12_lastOf 77 = .ok (.iload_n 3, 1) := by decide +kernel
theorem dX12_lastOf_78 : decode cX12_lastOf 78 = .ok (.ireturn, 1) := by decide +kernel
theorem dX12_byRule_0 : decode cX12_byRule 0 = .ok (.aload_n 0, 1) := by decide +kernel
theorem dX12_byRule_1 : decode cX12_byRule 1 = .ok (.iconst 0, 1) := by decide +kernel
theorem dX12_byRule_2 : decode cX12_byRule 2 = .ok (.iconst 0, 1) := by decide +kernel
theorem dX12_byRule_3 : decode cX12_byRule 3 = .ok (.iload_n 1, 1) := by decide +kernel
theorem dX12_byRule_4 : decode cX12_byRule 4 = .ok (.invokevirtual 277, 3) := by decide +kernel
theorem dX12_byRule_7 : decode cX12_byRule 7 = .ok (.istore_n 2, 1) := by decide +kernel
theorem dX12_byRule_8 : decode cX12_byRule 8 = .ok (.aload_n 0, 1) := by decide +kernel
theorem dX12_byRule_9 : decode cX12_byRule 9 = .ok (.iconst 0, 1) := by decide +kernel
theorem dX12_byRule_10 : decode cX12_byRule 10 = .ok (.iconst 1, 1) := by decide +kernel
theorem dX12_byRule_11 : decode cX12_byRule 11 = .ok (.iload_n 1, 1) := by decide +kernel
theorem dX12_byRule_12 : decode cX12_byRule 12 = .ok (.invokevirtual 277, 3) := by decide +kernel
theorem dX12_byRule_15 : decode cX12_byRule 15 = .ok (.istore_n 3, 1) := by decide +kernel
theorem dX12_byRule_16 : decode cX12_byRule 16 = .ok (.iload_n 3, 1) := by decide +kernel
theorem dX12_byRule_17 : decode cX12_byRule 17 = .ok (.iload_n 2, 1) := by decide +kernel
theorem dX12_byRule_18 : decode cX12_byRule 18 = .ok (.if_icmp .le 7, 3) := by decide +kernel
theorem dX12_byRule_21 : decode cX12_byRule 21 = .ok (.iconst 1, 1) := by decide +kernel
theorem dX12_byRule_22 : decode cX12_byRule 22 = .ok (.goto 4, 3) := by decide +kernel
theorem dX12_byRule_25 : decode cX12_byRule 25 = .ok (.iconst 0, 1) := by decide +kernel
theorem dX12_byRule_26 : decode cX12_byRule 26 = .ok (.istore 4, 2) := by decide +kernel
theorem dX12_byRule_28 : decode cX12_byRule 28 = .ok (.iload 4, 2) := by decide +kernel
theorem dX12_byRule_30 : decode cX12_byRule 30 = .ok (.iconst 1, 1) := by decide +kernel
theorem dX12_byRule_31 : decode cX12_byRule 31 = .ok (.if_icmp .ne 7, 3) := by decide +kernel
theorem dX12_byRule_34 : decode cX12_byRule 34 = .ok (.iload_n 3, 1) := by decide +kernel
theorem dX12_byRule_35 : decode cX12_byRule 35 = .ok (.goto 4, 3) := by decide +kernel
theorem dX12_byRule_38 : decode cX12_byRule 38 = .ok (.iload_n 2, 1) := by decide +kernel
theorem dX12_byRule_39 : decode cX12_byRule 39 = .ok (.ifCond .le 15, 3) := by decide +kernel
theorem dX12_byRule_42 : decode cX12_byRule 42 = .ok (.aload_n 0, 1) := by decide +kernel
theorem dX12_byRule_43 : decode cX12_byRule 43 = .ok (.iconst 1, 1) := by decide +kernel
theorem dX12_byRule_44 : decode cX12_byRule 44 = .ok (.iload 4, 2) := by decide +kernel
theorem dX12_byRule_46 : decode cX12_byRule 46 = .ok (.isub, 1) := by decide +kernel
theorem dX12_byRule_47 : decode cX12_byRule 47 = .ok (.iload_n 1, 1) := by decide +kernel
theorem dX12_byRule_48 : decode cX12_byRule 48 = .ok (.invokevirtual 283, 3) := by decide +kernel
theorem dX12_byRule_51 : decode cX12_byRule 51 = .ok (.goto 4, 3) := by decide +kernel
theorem dX12_byRule_54 : decode cX12_byRule 54 = .ok (.iconst (-1), 1) := by decide +kernel
theorem dX12_byRule_55 : decode cX12_byRule 55 = .ok (.ireturn, 1) := by decide +kernel
theorem dX12_toldLane_0 : decode cX12_toldLane 0 = .ok (.iload_n 1, 1) := by decide +kernel
theorem dX12_toldLane_1 : decode cX12_toldLane 1 = .ok (.iconst 4, 1) := by decide +kernel
theorem dX12_toldLane_2 : decode cX12_toldLane 2 = .ok (.if_icmp .ne 9, 3) := by decide +kernel
theorem dX12_toldLane_5 : decode cX12_toldLane 5 = .ok (.aload_n 0, 1) := by decide +kernel
theorem dX12_toldLane_6 : decode cX12_toldLane 6 = .ok (.iload_n 2, 1) := by decide +kernel
theorem dX12_toldLane_7 : decode cX12_toldLane 7 = .ok (.invokevirtual 286, 3) := by decide +kernel
theorem dX12_toldLane_10 : decode cX12_toldLane 10 = .ok (.ireturn, 1) := by decide +kernel
theorem dX12_toldLane_11 : decode cX12_toldLane 11 = .ok (.iload_n 1, 1) := by decide +kernel
theorem dX12_toldLane_12 : decode cX12_toldLane 12 = .ok (.iconst 5, 1) := by decide +kernel
theorem dX12_toldLane_13 : decode cX12_toldLane 13 = .ok (.if_icmp .ne 28, 3) := by decide +kernel
theorem dX12_toldLane_16 : decode cX12_toldLane 16 = .ok (.iload_n 2, 1) := by decide +kernel
theorem dX12_toldLane_17 : decode cX12_toldLane 17 = .ok (.aload_n 0, 1) := by decide +kernel
theorem dX12_toldLane_18 : decode cX12_toldLane 18 = .ok (.getfield 167, 3) := by decide +kernel
theorem dX12_toldLane_21 : decode cX12_toldLane 21 = .ok (.if_icmp .eq 11, 3) := by decide +kernel
theorem dX12_toldLane_24 : decode cX12_toldLane 24 = .ok (.iload_n 2, 1) := by decide +kernel
theorem dX12_toldLane_25 : decode cX12_toldLane 25 = .ok (.aload_n 0, 1) := by decide +kernel
theorem dX12_toldLane_26 : decode cX12_toldLane 26 = .ok (.getfield 170, 3) := by decide +kernel
theorem dX12_toldLane_29 : decode cX12_toldLane 29 = .ok (.if_icmp .ne 10, 3) := by decide +kernel
theorem dX12_toldLane_32 : decode cX12_toldLane 32 = .ok (.aload_n 0, 1) := by decide +kernel
theorem dX12_toldLane_33 : decode cX12_toldLane 33 = .ok (.getfield 164, 3) := by decide +kernel
theorem dX12_toldLane_36 : decode cX12_toldLane 36 = .ok (.goto 4, 3) := by decide +kernel
theorem dX12_toldLane_39 : decode cX12_toldLane 39 = .ok (.iconst (-1), 1) := by decide +kernel
theorem dX12_toldLane_40 : decode cX12_toldLane 40 = .ok (.ireturn, 1) := by decide +kernel
theorem dX12_toldLane_41 : decode cX12_toldLane 41 = .ok (.iload_n 1, 1) := by decide +kernel
theorem dX12_toldLane_42 : decode cX12_toldLane 42 = .ok (.ifCond .lt 13, 3) := by decide +kernel
theorem dX12_toldLane_45 : decode cX12_toldLane 45 = .ok (.iload_n 2, 1) := by decide +kernel
theorem dX12_toldLane_46 : decode cX12_toldLane 46 = .ok (.aload_n 0, 1) := by decide +kernel
theorem dX12_toldLane_47 : decode cX12_toldLane 47 = .ok (.getfield 44, 3) := by decide +kernel
theorem dX12_toldLane_50 : decode cX12_toldLane 50 = .ok (.iload_n 1, 1) := by decide +kernel
theorem dX12_toldLane_51 : decode cX12_toldLane 51 = .ok (.iaload, 1) := by decide +kernel
theorem dX12_toldLane_52 : decode cX12_toldLane 52 = .ok (.if_icmp .lt 7, 3) := by decide +kernel
theorem dX12_toldLane_55 : decode cX12_toldLane 55 = .ok (.iconst (-1), 1) := by decide +kernel
theorem dX12_toldLane_56 : decode cX12_toldLane 56 = .ok (.goto 14, 3) := by decide +kernel
theorem dX12_toldLane_59 : decode cX12_toldLane 59 = .ok (.aload_n 0, 1) := by decide +kernel
theorem dX12_toldLane_60 : decode cX12_toldLane 60 = .ok (.getfield 47, 3) := by decide +kernel
theorem dX12_toldLane_63 : decode cX12_toldLane 63 = .ok (.bipush 60, 2) := by decide +kernel
theorem dX12_toldLane_65 : decode cX12_toldLane 65 = .ok (.iload_n 1, 1) := by decide +kernel
theorem dX12_toldLane_66 : decode cX12_toldLane 66 = .ok (.imul, 1) := by decide +kernel
theorem dX12_toldLane_67 : decode cX12_toldLane 67 = .ok (.iload_n 2, 1) := by decide +kernel
theorem dX12_toldLane_68 : decode cX12_toldLane 68 = .ok (.iadd, 1) := by decide +kernel
theorem dX12_toldLane_69 : decode cX12_toldLane 69 = .ok (.iaload, 1) := by decide +kernel
theorem dX12_toldLane_70 : decode cX12_toldLane 70 = .ok (.ireturn, 1) := by decide +kernel
theorem dX12_turnsNow_0 : decode cX12_turnsNow 0 = .ok (.aload_n 0, 1) := by decide +kernel
theorem dX12_turnsNow_1 : decode cX12_turnsNow 1 = .ok (.iload_n 1, 1) := by decide +kernel
theorem dX12_turnsNow_2 : decode cX12_turnsNow 2 = .ok (.invokevirtual 53, 3) := by decide +kernel
theorem dX12_turnsNow_5 : decode cX12_turnsNow 5 = .ok (.ifCond .eq 21, 3) := by decide +kernel
theorem dX12_turnsNow_8 : decode cX12_turnsNow 8 = .ok (.aload_n 0, 1) := by decide +kernel
theorem dX12_turnsNow_9 : decode cX12_turnsNow 9 = .ok (.iload_n 1, 1) := by decide +kernel
theorem dX12_turnsNow_10 : decode cX12_turnsNow 10 = .ok (.iload_n 2, 1) := by decide +kernel
theorem dX12_turnsNow_11 : decode cX12_turnsNow 11 = .ok (.invokevirtual 69, 3) := by decide +kernel
theorem dX12_turnsNow_14 : decode cX12_turnsNow 14 = .ok (.ifCond .eq 12, 3) := by decide +kernel
theorem dX12_turnsNow_17 : decode cX12_turnsNow 17 = .ok (.aload_n 0, 1) := by decide +kernel
theorem dX12_turnsNow_18 : decode cX12_turnsNow 18 = .ok (.getfield 146, 3) := by decide +kernel
theorem dX12_turnsNow_21 : decode cX12_turnsNow 21 = .ok (.iload_n 1, 1) := by decide +kernel
theorem dX12_turnsNow_22 : decode cX12_turnsNow 22 = .ok (.iaload, 1) := by decide +kernel
theorem dX12_turnsNow_23 : decode cX12_turnsNow 23 = .ok (.ifCond .le 5, 3) := by decide +kernel
theorem dX12_turnsNow_26 : decode cX12_turnsNow 26 = .ok (.iconst 0, 1) := by decide +kernel
theorem dX12_turnsNow_27 : decode cX12_turnsNow 27 = .ok (.ireturn, 1) := by decide +kernel
theorem dX12_turnsNow_28 : decode cX12_turnsNow 28 = .ok (.aload_n 0, 1) := by decide +kernel
theorem dX12_turnsNow_29 : decode cX12_turnsNow 29 = .ok (.getfield 143, 3) := by decide +kernel
theorem dX12_turnsNow_32 : decode cX12_turnsNow 32 = .ok (.iload_n 1, 1) := by decide +kernel
theorem dX12_turnsNow_33 : decode cX12_turnsNow 33 = .ok (.iconst 1, 1) := by decide +kernel
theorem dX12_turnsNow_34 : decode cX12_turnsNow 34 = .ok (.aload_n 0, 1) := by decide +kernel
theorem dX12_turnsNow_35 : decode cX12_turnsNow 35 = .ok (.getfield 143, 3) := by decide +kernel
theorem dX12_turnsNow_38 : decode cX12_turnsNow 38 = .ok (.iload_n 1, 1) := by decide +kernel
theorem dX12_turnsNow_39 : decode cX12_turnsNow 39 = .ok (.iaload, 1) := by decide +kernel
theorem dX12_turnsNow_40 : decode cX12_turnsNow 40 = .ok (.isub, 1) := by decide +kernel
theorem dX12_turnsNow_41 : decode cX12_turnsNow 41 = .ok (.iastore, 1) := by decide +kernel
theorem dX12_turnsNow_42 : decode cX12_turnsNow 42 = .ok (.aload_n 0, 1) := by decide +kernel
theorem dX12_turnsNow_43 : decode cX12_turnsNow 43 = .ok (.getfield 146, 3) := by decide +kernel
theorem dX12_turnsNow_46 : decode cX12_turnsNow 46 = .ok (.iload_n 1, 1) := by decide +kernel
theorem dX12_turnsNow_47 : decode cX12_turnsNow 47 = .ok (.aload_n 0, 1) := by decide +kernel
theorem dX12_turnsNow_48 : decode cX12_turnsNow 48 = .ok (.iload_n 1, 1) := by decide +kernel
theorem dX12_turnsNow_49 : decode cX12_turnsNow 49 = .ok (.invokevirtual 65, 3) := by decide +kernel
theorem dX12_turnsNow_52 : decode cX12_turnsNow 52 = .ok (.iastore, 1) := by decide +kernel
theorem dX12_turnsNow_53 : decode cX12_turnsNow 53 = .ok (.aload_n 0, 1) := by decide +kernel
theorem dX12_turnsNow_54 : decode cX12_turnsNow 54 = .ok (.dup, 1) := by decide +kernel
theorem dX12_turnsNow_55 : decode cX12_turnsNow 55 = .ok (.getfield 149, 3) := by decide +kernel
theorem dX12_turnsNow_58 : decode cX12_turnsNow 58 = .ok (.iconst 1, 1) := by decide +kernel
theorem dX12_turnsNow_59 : decode cX12_turnsNow 59 = .ok (.iadd, 1) := by decide +kernel
theorem dX12_turnsNow_60 : decode cX12_turnsNow 60 = .ok (.putfield 149, 3) := by decide +kernel
theorem dX12_turnsNow_63 : decode cX12_turnsNow 63 = .ok (.iconst 1, 1) := by decide +kernel
theorem dX12_turnsNow_64 : decode cX12_turnsNow 64 = .ok (.ireturn, 1) := by decide +kernel
theorem dX12_take_0 : decode cX12_take 0 = .ok (.aload_n 0, 1) := by decide +kernel
theorem dX12_take_1 : decode cX12_take 1 = .ok (.iload_n 2, 1) := by decide +kernel
theorem dX12_take_2 : decode cX12_take 2 = .ok (.iload_n 3, 1) := by decide +kernel
theorem dX12_take_3 : decode cX12_take 3 = .ok (.ifCond .eq 12, 3) := by decide +kernel
theorem dX12_take_6 : decode cX12_take 6 = .ok (.aload_n 0, 1) := by decide +kernel
theorem dX12_take_7 : decode cX12_take 7 = .ok (.getfield 137, 3) := by decide +kernel
theorem dX12_take_10 : decode cX12_take 10 = .ok (.iload_n 1, 1) := by decide +kernel
theorem dX12_take_11 : decode cX12_take 11 = .ok (.iaload, 1) := by decide +kernel
theorem dX12_take_12 : decode cX12_take 12 = .ok (.goto 9, 3) := by decide +kernel
theorem dX12_take_15 : decode cX12_take 15 = .ok (.aload_n 0, 1) := by decide +kernel
theorem dX12_take_16 : decode cX12_take 16 = .ok (.getfield 134, 3) := by decide +kernel
theorem dX12_take_19 : decode cX12_take 19 = .ok (.iload_n 1, 1) := by decide +kernel
theorem dX12_take_20 : decode cX12_take 20 = .ok (.iaload, 1) := by decide +kernel
theorem dX12_take_21 : decode cX12_take 21 = .ok (.invokevirtual 280, 3) := by decide +kernel
theorem dX12_take_24 : decode cX12_take 24 = .ok (.istore 4, 2) := by decide +kernel
theorem dX12_take_26 : decode cX12_take 26 = .ok (.iload_n 3, 1) := by decide +kernel
theorem dX12_take_27 : decode cX12_take 27 = .ok (.ifCond .eq 7, 3) := by decide +kernel
theorem dX12_take_30 : decode cX12_take 30 = .ok (.iconst 0, 1) := by decide +kernel
theorem dX12_take_31 : decode cX12_take 31 = .ok (.goto 22, 3) := by decide +kernel
theorem dX12_take_34 : decode cX12_take 34 = .ok (.aload_n 0, 1) := by decide +kernel
theorem dX12_take_35 : decode cX12_take 35 = .ok (.iload 4, 2) := by decide +kernel
theorem dX12_take_37 : decode cX12_take 37 = .ok (.aload_n 0, 1) := by decide +kernel
theorem dX12_take_38 : decode cX12_take 38 = .ok (.getfield 134, 3) := by decide +kernel
theorem dX12_take_41 : decode cX12_take 41 = .ok (.iload_n 1, 1) := by decide +kernel
theorem dX12_take_42 : decode cX12_take 42 = .ok (.iaload, 1) := by decide +kernel
theorem dX12_take_43 : decode cX12_take 43 = .ok (.aload_n 0, 1) := by decide +kernel
theorem dX12_take_44 : decode cX12_take 44 = .ok (.getfield 137, 3) := by decide +kernel
theorem dX12_take_47 : decode cX12_take 47 = .ok (.iload_n 1, 1) := by decide +kernel
theorem dX12_take_48 : decode cX12_take 48 = .ok (.iaload, 1) := by decide +kernel
theorem dX12_take_49 : decode cX12_take 49 = .ok (.isub, 1) := by decide +kernel
theorem dX12_take_50 : decode cX12_take 50 = .ok (.invokevirtual 280, 3) := by decide +kernel
theorem dX12_take_53 : decode cX12_take 53 = .ok (.istore 5, 2) := by decide +kernel
theorem dX12_take_55 : decode cX12_take 55 = .ok (.aload_n 0, 1) := by decide +kernel
theorem dX12_take_56 : decode cX12_take 56 = .ok (.getfield 134, 3) := by decide +kernel
theorem dX12_take_59 : decode cX12_take 59 = .ok (.iload_n 1, 1) := by decide +kernel
theorem dX12_take_60 : decode cX12_take 60 = .ok (.dup2, 1) := by decide +kernel
theorem dX12_take_61 : decode cX12_take 61 = .ok (.iaload, 1) := by decide +kernel
theorem dX12_take_62 : decode cX12_take 62 = .ok (.iload 4, 2) := by decide +kernel
theorem dX12_take_64 : decode cX12_take 64 = .ok (.isub, 1) := by decide +kernel
theorem dX12_take_65 : decode cX12_take 65 = .ok (.iastore, 1) := by decide +kernel
theorem dX12_take_66 : decode cX12_take 66 = .ok (.aload_n 0, 1) := by decide +kernel
theorem dX12_take_67 : decode cX12_take 67 = .ok (.getfield 137, 3) := by decide +kernel
theorem dX12_take_70 : decode cX12_take 70 = .ok (.iload_n 1, 1) := by decide +kernel
theorem dX12_take_71 : decode cX12_take 71 = .ok (.dup2, 1) := by decide +kernel
theorem dX12_take_72 : decode cX12_take 72 = .ok (.iaload, 1) := by decide +kernel
theorem dX12_take_73 : decode cX12_take 73 = .ok (.iload 4, 2) := by decide +kernel
theorem dX12_take_75 : decode cX12_take 75 = .ok (.iload 5, 2) := by decide +kernel
theorem dX12_take_77 : decode cX12_take 77 = .ok (.isub, 1) := by decide +kernel
theorem dX12_take_78 : decode cX12_take 78 = .ok (.isub, 1) := by decide +kernel
theorem dX12_take_79 : decode cX12_take 79 = .ok (.iastore, 1) := by decide +kernel
theorem dX12_take_80 : decode cX12_take 80 = .ok (.aload_n 0, 1) := by decide +kernel
theorem dX12_take_81 : decode cX12_take 81 = .ok (.dup, 1) := by decide +kernel
theorem dX12_take_82 : decode cX12_take 82 = .ok (.getfield 152, 3) := by decide +kernel
theorem dX12_take_85 : decode cX12_take 85 = .ok (.iload 4, 2) := by decide +kernel
theorem dX12_take_87 : decode cX12_take 87 = .ok (.iadd, 1) := by decide +kernel
theorem dX12_take_88 : decode cX12_take 88 = .ok (.putfield 152, 3) := by decide +kernel
theorem dX12_take_91 : decode cX12_take 91 = .ok (.return_, 1) := by decide +kernel
theorem dX12_leads_0 : decode cX12_leads 0 = .ok (.aload_n 0, 1) := by decide +kernel
theorem dX12_leads_1 : decode cX12_leads 1 = .ok (.getfield 146, 3) := by decide +kernel
theorem dX12_leads_4 : decode cX12_leads 4 = .ok (.iload_n 1, 1) := by decide +kernel
theorem dX12_leads_5 : decode cX12_leads 5 = .ok (.iaload, 1) := by decide +kernel
theorem dX12_leads_6 : decode cX12_leads 6 = .ok (.ifCond .le 14, 3) := by decide +kernel
theorem dX12_leads_9 : decode cX12_leads 9 = .ok (.aload_n 0, 1) := by decide +kernel
theorem dX12_leads_10 : decode cX12_leads 10 = .ok (.getfield 146, 3) := by decide +kernel
theorem dX12_leads_13 : decode cX12_leads 13 = .ok (.iload_n 1, 1) := by decide +kernel
theorem dX12_leads_14 : decode cX12_leads 14 = .ok (.dup2, 1) := by decide +kernel
theorem dX12_leads_15 : decode cX12_leads 15 = .ok (.iaload, 1) := by decide +kernel
theorem dX12_leads_16 : decode cX12_leads 16 = .ok (.iconst 1, 1) := by decide +kernel
theorem dX12_leads_17 : decode cX12_leads 17 = .ok (.isub, 1) := by decide +kernel
theorem dX12_leads_18 : decode cX12_leads 18 = .ok (.iastore, 1) := by decide +kernel
theorem dX12_leads_19 : decode cX12_leads 19 = .ok (.return_, 1) := by decide +kernel
theorem dX12_leads_20 : decode cX12_leads 20 = .ok (.iload_n 1, 1) := by decide +kernel
theorem dX12_leads_21 : decode cX12_leads 21 = .ok (.aload_n 0, 1) := by decide +kernel
theorem dX12_leads_22 : decode cX12_leads 22 = .ok (.getfield 155, 3) := by decide +kernel
theorem dX12_leads_25 : decode cX12_leads 25 = .ok (.if_icmp .eq 27, 3) := by decide +kernel
theorem dX12_leads_28 : decode cX12_leads 28 = .ok (.iload_n 1, 1) := by decide +kernel
theorem dX12_leads_29 : decode cX12_leads 29 = .ok (.aload_n 0, 1) := by decide +kernel
theorem dX12_leads_30 : decode cX12_leads 30 = .ok (.getfield 50, 3) := by decide +kernel
theorem dX12_leads_33 : decode cX12_leads 33 = .ok (.if_icmp .ne 20, 3) := by decide +kernel
theorem dX12_leads_36 : decode cX12_leads 36 = .ok (.aload_n 0, 1) := by decide +kernel
theorem dX12_leads_37 : decode cX12_leads 37 = .ok (.iload_n 2, 1) := by decide +kernel
theorem dX12_leads_38 : decode cX12_leads 38 = .ok (.aload_n 0, 1) := by decide +kernel
theorem dX12_leads_39 : decode cX12_leads 39 = .ok (.getfield 59, 3) := by decide +kernel
theorem dX12_leads_42 : decode cX12_leads 42 = .ok (.aload_n 0, 1) := by decide +kernel
theorem dX12_leads_43 : decode cX12_leads 43 = .ok (.getfield 62, 3) := by decide +kernel
theorem dX12_leads_46 : decode cX12_leads 46 = .ok (.invokevirtual 7, 3) := by decide +kernel
theorem dX12_leads_49 : decode cX12_leads 49 = .ok (.ifCond .eq 4, 3) := by decide +kernel
theorem dX12_leads_52 : decode cX12_leads 52 = .ok (.return_, 1) := by decide +kernel
theorem dX12_leads_53 : decode cX12_leads 53 = .ok (.aload_n 0, 1) := by decide +kernel
theorem dX12_leads_54 : decode cX12_leads 54 = .ok (.aload_n 0, 1) := by decide +kernel
theorem dX12_leads_55 : decode cX12_leads 55 = .ok (.getfield 143, 3) := by decide +kernel
theorem dX12_leads_58 : decode cX12_leads 58 = .ok (.iload_n 1, 1) := by decide +kernel
theorem dX12_leads_59 : decode cX12_leads 59 = .ok (.iaload, 1) := by decide +kernel
theorem dX12_leads_60 : decode cX12_leads 60 = .ok (.aload_n 0, 1) := by decide +kernel
theorem dX12_leads_61 : decode cX12_leads 61 = .ok (.iload_n 1, 1) := by decide +kernel
theorem dX12_leads_62 : decode cX12_leads 62 = .ok (.aload_n 0, 1) := by decide +kernel
theorem dX12_leads_63 : decode cX12_leads 63 = .ok (.getfield 140, 3) := by decide +kernel
theorem dX12_leads_66 : decode cX12_leads 66 = .ok (.aload_n 0, 1) := by decide +kernel
theorem dX12_leads_67 : decode cX12_leads 67 = .ok (.getfield 143, 3) := by decide +kernel
theorem dX12_leads_70 : decode cX12_leads 70 = .ok (.iload_n 1, 1) := by decide +kernel
theorem dX12_leads_71 : decode cX12_leads 71 = .ok (.iaload, 1) := by decide +kernel
theorem dX12_leads_72 : decode cX12_leads 72 = .ok (.iaload, 1) := by decide +kernel
theorem dX12_leads_73 : decode cX12_leads 73 = .ok (.invokevirtual 73, 3) := by decide +kernel
theorem dX12_leads_76 : decode cX12_leads 76 = .ok (.aload_n 0, 1) := by decide +kernel
theorem dX12_leads_77 : decode cX12_leads 77 = .ok (.getfield 11, 3) := by decide +kernel
theorem dX12_leads_80 : decode cX12_leads 80 = .ok (.iload_n 1, 1) := by decide +kernel
theorem dX12_leads_81 : decode cX12_leads 81 = .ok (.iaload, 1) := by decide +kernel
theorem dX12_leads_82 : decode cX12_leads 82 = .ok (.iconst 2, 1) := by decide +kernel
theorem dX12_leads_83 : decode cX12_leads 83 = .ok (.if_icmp .eq 13, 3) := by decide +kernel
theorem dX12_leads_86 : decode cX12_leads 86 = .ok (.aload_n 0, 1) := by decide +kernel
theorem dX12_leads_87 : decode cX12_leads 87 = .ok (.getfield 11, 3) := by decide +kernel
theorem dX12_leads_90 : decode cX12_leads 90 = .ok (.iload_n 1, 1) := by decide +kernel
theorem dX12_leads_91 : decode cX12_leads 91 = .ok (.iaload, 1) := by decide +kernel
theorem dX12_leads_92 : decode cX12_leads 92 = .ok (.iconst 4, 1) := by decide +kernel
theorem dX12_leads_93 : decode cX12_leads 93 = .ok (.if_icmp .ne 7, 3) := by decide +kernel
theorem dX12_leads_96 : decode cX12_leads 96 = .ok (.iconst 1, 1) := by decide +kernel
theorem dX12_leads_97 : decode cX12_leads 97 = .ok (.goto 4, 3) := by decide +kernel
theorem dX12_leads_100 : decode cX12_leads 100 = .ok (.iconst 0, 1) := by decide +kernel
theorem dX12_leads_101 : decode cX12_leads 101 = .ok (.invokevirtual 289, 3) := by decide +kernel
theorem dX12_leads_104 : decode cX12_leads 104 = .ok (.return_, 1) := by decide +kernel
theorem dX12_goMinute_0 : decode cX12_goMinute 0 = .ok (.aload_n 0, 1) := by decide +kernel
theorem dX12_goMinute_1 : decode cX12_goMinute 1 = .ok (.iload_n 1, 1) := by decide +kernel
theorem dX12_goMinute_2 : decode cX12_goMinute 2 = .ok (.invokevirtual 293, 3) := by decide +kernel
theorem dX12_goMinute_5 : decode cX12_goMinute 5 = .ok (.aload_n 0, 1) := by decide +kernel
theorem dX12_goMinute_6 : decode cX12_goMinute 6 = .ok (.aload_n 0, 1) := by decide +kernel
theorem dX12_goMinute_7 : decode cX12_goMinute 7 = .ok (.iload_n 2, 1) := by decide +kernel
theorem dX12_goMinute_8 : decode cX12_goMinute 8 = .ok (.iload_n 1, 1) := by decide +kernel
theorem dX12_goMinute_9 : decode cX12_goMinute 9 = .ok (.invokevirtual 296, 3) := by decide +kernel
theorem dX12_goMinute_12 : decode cX12_goMinute 12 = .ok (.iload_n 1, 1) := by decide +kernel
theorem dX12_goMinute_13 : decode cX12_goMinute 13 = .ok (.invokevirtual 299, 3) := by decide +kernel
theorem dX12_goMinute_16 : decode cX12_goMinute 16 = .ok (.pop, 1) := by decide +kernel
theorem dX12_goMinute_17 : decode cX12_goMinute 17 = .ok (.iconst 0, 1) := by decide +kernel
theorem dX12_goMinute_18 : decode cX12_goMinute 18 = .ok (.istore_n 3, 1) := by decide +kernel
theorem dX12_goMinute_19 : decode cX12_goMinute 19 = .ok (.iload_n 3, 1) := by decide +kernel
theorem dX12_goMinute_20 : decode cX12_goMinute 20 = .ok (.iconst 2, 1) := by decide +kernel
theorem dX12_goMinute_21 : decode cX12_goMinute 21 = .ok (.if_icmp .ge 21, 3) := by decide +kernel
theorem dX12_goMinute_24 : decode cX12_goMinute 24 = .ok (.aload_n 0, 1) := by decide +kernel
theorem dX12_goMinute_25 : decode cX12_goMinute 25 = .ok (.getfield 140, 3) := by decide +kernel
theorem dX12_goMinute_28 : decode cX12_goMinute 28 = .ok (.iload_n 3, 1) := by decide +kernel
theorem dX12_goMinute_29 : decode cX12_goMinute 29 = .ok (.aload_n 0, 1) := by decide +kernel
theorem dX12_goMinute_30 : decode cX12_goMinute 30 = .ok (.getfield 134, 3) := by decide +kernel
theorem dX12_goMinute_33 : decode cX12_goMinute 33 = .ok (.iload_n 3, 1) := by decide +kernel
theorem dX12_goMinute_34 : decode cX12_goMinute 34 = .ok (.iaload, 1) := by decide +kernel
theorem dX12_goMinute_35 : decode cX12_goMinute 35 = .ok (.iastore, 1) := by decide +kernel
theorem dX12_goMinute_36 : decode cX12_goMinute 36 = .ok (.iinc 3 1, 3) := by decide +kernel
theorem dX12_goMinute_39 : decode cX12_goMinute 39 = .ok (.goto (-20), 3) := by decide +kernel
theorem dX12_goMinute_42 : decode cX12_goMinute 42 = .ok (.iconst 0, 1) := by decide +kernel
theorem dX12_goMinute_43 : decode cX12_goMinute 43 = .ok (.istore_n 3, 1) := by decide +kernel
theorem dX12_goMinute_44 : decode cX12_goMinute 44 = .ok (.iload_n 3, 1) := by decide +kernel
theorem dX12_goMinute_45 : decode cX12_goMinute 45 = .ok (.aload_n 0, 1) := by decide +kernel
theorem dX12_goMinute_46 : decode cX12_goMinute 46 = .ok (.getfield 1, 3) := by decide +kernel
theorem dX12_goMinute_49 : decode cX12_goMinute 49 = .ok (.if_icmp .ge 15, 3) := by decide +kernel
theorem dX12_goMinute_52 : decode cX12_goMinute 52 = .ok (.aload_n 0, 1) := by decide +kernel
theorem dX12_goMinute_53 : decode cX12_goMinute 53 = .ok (.iload_n 3, 1) := by decide +kernel
theorem dX12_goMinute_54 : decode cX12_goMinute 54 = .ok (.iload_n 1, 1) := by decide +kernel
theorem dX12_goMinute_55 : decode cX12_goMinute 55 = .ok (.invokevirtual 302, 3) := by decide +kernel
theorem dX12_goMinute_58 : decode cX12_goMinute 58 = .ok (.iinc 3 1, 3) := by decide +kernel
theorem dX12_goMinute_61 : decode cX12_goMinute 61 = .ok (.goto (-17), 3) := by decide +kernel
theorem dX12_goMinute_64 : decode cX12_goMinute 64 = .ok (.aload_n 0, 1) := by decide +kernel
theorem dX12_goMinute_65 : decode cX12_goMinute 65 = .ok (.getfield 158, 3) := by decide +kernel
theorem dX12_goMinute_68 : decode cX12_goMinute 68 = .ok (.ifCond .lt 18, 3) := by decide +kernel
theorem dX12_goMinute_71 : decode cX12_goMinute 71 = .ok (.aload_n 0, 1) := by decide +kernel
theorem dX12_goMinute_72 : decode cX12_goMinute 72 = .ok (.aload_n 0, 1) := by decide +kernel
theorem dX12_goMinute_73 : decode cX12_goMinute 73 = .ok (.getfield 158, 3) := by decide +kernel
theorem dX12_goMinute_76 : decode cX12_goMinute 76 = .ok (.iconst 5, 1) := by decide +kernel
theorem dX12_goMinute_77 : decode cX12_goMinute 77 = .ok (.aload_n 0, 1) := by decide +kernel
theorem dX12_goMinute_78 : decode cX12_goMinute 78 = .ok (.getfield 161, 3) := by decide +kernel
theorem dX12_goMinute_81 : decode cX12_goMinute 81 = .ok (.imul, 1) := by decide +kernel
theorem dX12_goMinute_82 : decode cX12_goMinute 82 = .ok (.iconst 0, 1) := by decide +kernel
theorem dX12_goMinute_83 : decode cX12_goMinute 83 = .ok (.invokevirtual 289, 3) := by decide +kernel
theorem dX12_goMinute_86 : decode cX12_goMinute 86 = .ok (.iconst 0, 1) := by decide +kernel
theorem dX12_goMinute_87 : decode cX12_goMinute 87 = .ok (.istore_n 3, 1) := by decide +kernel
theorem dX12_goMinute_88 : decode cX12_goMinute 88 = .ok (.iload_n 3, 1) := by decide +kernel
theorem dX12_goMinute_89 : decode cX12_goMinute 89 = .ok (.iconst 2, 1) := by decide +kernel
theorem dX12_goMinute_90 : decode cX12_goMinute 90 = .ok (.if_icmp .ge 59, 3) := by decide +kernel
theorem dX12_goMinute_93 : decode cX12_goMinute 93 = .ok (.aload_n 0, 1) := by decide +kernel
theorem dX12_goMinute_94 : decode cX12_goMinute 94 = .ok (.iconst 1, 1) := by decide +kernel
theorem dX12_goMinute_95 : decode cX12_goMinute 95 = .ok (.iload_n 3, 1) := by decide +kernel
theorem dX12_goMinute_96 : decode cX12_goMinute 96 = .ok (.iload_n 1, 1) := by decide +kernel
theorem dX12_goMinute_97 : decode cX12_goMinute 97 = .ok (.invokevirtual 277, 3) := by decide +kernel
theorem dX12_goMinute_100 : decode cX12_goMinute 100 = .ok (.istore 4, 2) := by decide +kernel
theorem dX12_goMinute_102 : decode cX12_goMinute 102 = .ok (.aload_n 0, 1) := by decide +kernel
theorem dX12_goMinute_103 : decode cX12_goMinute 103 = .ok (.dup, 1) := by decide +kernel
theorem dX12_goMinute_104 : decode cX12_goMinute 104 = .ok (.getfield 173, 3) := by decide +kernel
theorem dX12_goMinute_107 : decode cX12_goMinute 107 = .ok (.iload 4, 2) := by decide +kernel
theorem dX12_goMinute_109 : decode cX12_goMinute 109 = .ok (.ifCond .ge 7, 3) := by decide +kernel
theorem dX12_goMinute_112 : decode cX12_goMinute 112 = .ok (.iconst 0, 1) := by decide +kernel
