section
theorem dX12_passes_0 : decode cX12_passes 0 = .ok (.iconst 0, 1) := by decide +kernel
theorem dX12_passes_1 : decode cX12_passes 1 = .ok (.istore 6, 2) := by decide +kernel
theorem dX12_passes_102 : decode cX12_passes 102 = .ok (.goto 256, 3) := by decide +kernel
theorem dX12_passes_105 : decode cX12_passes 105 = .ok (.aload_n 0, 1) := by decide +kernel
theorem dX12_passes_106 : decode cX12_passes 106 = .ok (.iconst 5, 1) := by decide +kernel
theorem dX12_passes_107 : decode cX12_passes 107 = .ok (.iload_n 1, 1) := by decide +kernel
theorem dX12_passes_108 : decode cX12_passes 108 = .ok (.imul, 1) := by decide +kernel
theorem dX12_passes_109 : decode cX12_passes 109 = .ok (.iconst 1, 1) := by decide +kernel
theorem dX12_passes_110 : decode cX12_passes 110 = .ok (.iadd, 1) := by decide +kernel
theorem dX12_passes_111 : decode cX12_passes 111 = .ok (.invokevirtual 341, 3) := by decide +kernel
theorem dX12_passes_114 : decode cX12_passes 114 = .ok (.istore 10, 2) := by decide +kernel
theorem dX12_passes_116 : decode cX12_passes 116 = .ok (.iconst 0, 1) := by decide +kernel
theorem dX12_passes_117 : decode cX12_passes 117 = .ok (.istore 11, 2) := by decide +kernel
theorem dX12_passes_119 : decode cX12_passes 119 = .ok (.iload 11, 2) := by decide +kernel
theorem dX12_passes_12 : decode cX12_passes 12 = .ok (.iconst 0, 1) := by decide +kernel
theorem dX12_passes_121 : decode cX12_passes 121 = .ok (.aload_n 0, 1) := by decide +kernel
theorem dX12_passes_122 : decode cX12_passes 122 = .ok (.getfield 29, 3) := by decide +kernel
theorem dX12_passes_125 : decode cX12_passes 125 = .ok (.sipush 215, 3) := by decide +kernel
theorem dX12_passes_128 : decode cX12_passes 128 = .ok (.iaload, 1) := by decide +kernel
theorem dX12_passes_129 : decode cX12_passes 129 = .ok (.if_icmp .ge 147, 3) := by decide +kernel
theorem dX12_passes_13 : decode cX12_passes 13 = .ok (.iaload, 1) := by decide +kernel
theorem dX12_passes_132 : decode cX12_passes 132 = .ok (.aload_n 0, 1) := by decide +kernel
theorem dX12_passes_133 : decode cX12_passes 133 = .ok (.getfield 29, 3) := by decide +kernel
theorem dX12_passes_136 : decode cX12_passes 136 = .ok (.sipush 216, 3) := by decide +kernel
theorem dX12_passes_139 : decode cX12_passes 139 = .ok (.iload 11, 2) := by decide +kernel
theorem dX12_passes_14 : decode cX12_passes 14 = .ok (.if_icmp .ge 350, 3) := by decide +kernel
theorem dX12_passes_141 : decode cX12_passes 141 = .ok (.iadd, 1) := by decide +kernel
theorem dX12_passes_142 : decode cX12_passes 142 = .ok (.iaload, 1) := by decide +kernel
theorem dX12_passes_143 : decode cX12_passes 143 = .ok (.iload 7, 2) := by decide +kernel
theorem dX12_passes_145 : decode cX12_passes 145 = .ok (.if_icmp .ne 125, 3) := by decide +kernel
theorem dX12_passes_148 : decode cX12_passes 148 = .ok (.aload_n 0, 1) := by decide +kernel
theorem dX12_passes_149 : decode cX12_passes 149 = .ok (.getfield 29, 3) := by decide +kernel
theorem dX12_passes_152 : decode cX12_passes 152 = .ok (.sipush 225, 3) := by decide +kernel
theorem dX12_passes_155 : decode cX12_passes 155 = .ok (.iload 11, 2) := by decide +kernel
theorem dX12_passes_157 : decode cX12_passes 157 = .ok (.iadd, 1) := by decide +kernel
theorem dX12_passes_158 : decode cX12_passes 158 = .ok (.iaload, 1) := by decide +kernel
theorem dX12_passes_159 : decode cX12_passes 159 = .ok (.aload_n 0, 1) := by decide +kernel
theorem dX12_passes_160 : decode cX12_passes 160 = .ok (.getfield 344, 3) := by decide +kernel
theorem dX12_passes_163 : decode cX12_passes 163 = .ok (.iadd, 1) := by decide +kernel
theorem dX12_passes_164 : decode cX12_passes 164 = .ok (.iload 10, 2) := by decide +kernel
theorem dX12_passes_166 : decode cX12_passes 166 = .ok (.if_icmp .lt 6, 3) := by decide +kernel
theorem dX12_passes_169 : decode cX12_passes 169 = .ok (.goto 101, 3) := by decide +kernel
theorem dX12_passes_17 : decode cX12_passes 17 = .ok (.aload_n 0, 1) := by decide +kernel
theorem dX12_passes_172 : decode cX12_passes 172 = .ok (.aload_n 0, 1) := by decide +kernel
theorem dX12_passes_173 : decode cX12_passes 173 = .ok (.getfield 65, 3) := by decide +kernel
theorem dX12_passes_176 : decode cX12_passes 176 = .ok (.iconst 4, 1) := by decide +kernel
theorem dX12_passes_177 : decode cX12_passes 177 = .ok (.aload_n 0, 1) := by decide +kernel
theorem dX12_passes_178 : decode cX12_passes 178 = .ok (.getfield 29, 3) := by decide +kernel
theorem dX12_passes_18 : decode cX12_passes 18 = .ok (.iload_n 1, 1) := by decide +kernel
theorem dX12_passes_181 : decode cX12_passes 181 = .ok (.sipush 225, 3) := by decide +kernel
theorem dX12_passes_184 : decode cX12_passes 184 = .ok (.iload 11, 2) := by decide +kernel
theorem dX12_passes_186 : decode cX12_passes 186 = .ok (.iadd, 1) := by decide +kernel
theorem dX12_passes_187 : decode cX12_passes 187 = .ok (.iaload, 1) := by decide +kernel
theorem dX12_passes_188 : decode cX12_passes 188 = .ok (.aload_n 0, 1) := by decide +kernel
theorem dX12_passes_189 : decode cX12_passes 189 = .ok (.getfield 344, 3) := by decide +kernel
theorem dX12_passes_19 : decode cX12_passes 19 = .ok (.iload 7, 2) := by decide +kernel
theorem dX12_passes_192 : decode cX12_passes 192 = .ok (.iadd, 1) := by decide +kernel
theorem dX12_passes_193 : decode cX12_passes 193 = .ok (.iastore, 1) := by decide +kernel
theorem dX12_passes_194 : decode cX12_passes 194 = .ok (.aload_n 0, 1) := by decide +kernel
theorem dX12_passes_195 : decode cX12_passes 195 = .ok (.getfield 65, 3) := by decide +kernel
theorem dX12_passes_198 : decode cX12_passes 198 = .ok (.bipush 6, 2) := by decide +kernel
theorem dX12_passes_200 : decode cX12_passes 200 = .ok (.aload_n 0, 1) := by decide +kernel
theorem dX12_passes_201 : decode cX12_passes 201 = .ok (.iload 7, 2) := by decide +kernel
theorem dX12_passes_203 : decode cX12_passes 203 = .ok (.invokevirtual 364, 3) := by decide +kernel
theorem dX12_passes_206 : decode cX12_passes 206 = .ok (.ifCond .eq 7, 3) := by decide +kernel
theorem dX12_passes_209 : decode cX12_passes 209 = .ok (.iconst 1, 1) := by decide +kernel
theorem dX12_passes_21 : decode cX12_passes 21 = .ok (.iload_n 2, 1) := by decide +kernel
theorem dX12_passes_210 : decode cX12_passes 210 = .ok (.goto 4, 3) := by decide +kernel
theorem dX12_passes_213 : decode cX12_passes 213 = .ok (.iconst 0, 1) := by decide +kernel
theorem dX12_passes_214 : decode cX12_passes 214 = .ok (.iastore, 1) := by decide +kernel
theorem dX12_passes_215 : decode cX12_passes 215 = .ok (.aload_n 0, 1) := by decide +kernel
theorem dX12_passes_216 : decode cX12_passes 216 = .ok (.iconst 5, 1) := by decide +kernel
theorem dX12_passes_217 : decode cX12_passes 217 = .ok (.iload_n 1, 1) := by decide +kernel
theorem dX12_passes_218 : decode cX12_passes 218 = .ok (.imul, 1) := by decide +kernel
theorem dX12_passes_219 : decode cX12_passes 219 = .ok (.iconst 2, 1) := by decide +kernel
theorem dX12_passes_22 : decode cX12_passes 22 = .ok (.iload_n 3, 1) := by decide +kernel
theorem dX12_passes_220 : decode cX12_passes 220 = .ok (.iadd, 1) := by decide +kernel
theorem dX12_passes_221 : decode cX12_passes 221 = .ok (.invokevirtual 341, 3) := by decide +kernel
theorem dX12_passes_224 : decode cX12_passes 224 = .ok (.iconst 0, 1) := by decide +kernel
theorem dX12_passes_225 : decode cX12_passes 225 = .ok (.bipush 99, 2) := by decide +kernel
theorem dX12_passes_227 : decode cX12_passes 227 = .ok (.invokestatic 356, 3) := by decide +kernel
theorem dX12_passes_23 : decode cX12_passes 23 = .ok (.iload 4, 2) := by decide +kernel
theorem dX12_passes_230 : decode cX12_passes 230 = .ok (.istore 12, 2) := by decide +kernel
theorem dX12_passes_232 : decode cX12_passes 232 = .ok (.aload_n 0, 1) := by decide +kernel
theorem dX12_passes_233 : decode cX12_passes 233 = .ok (.getfield 29, 3) := by decide +kernel
theorem dX12_passes_236 : decode cX12_passes 236 = .ok (.sipush 234, 3) := by decide +kernel
theorem dX12_passes_239 : decode cX12_passes 239 = .ok (.iload 11, 2) := by decide +kernel
theorem dX12_passes_241 : decode cX12_passes 241 = .ok (.iadd, 1) := by decide +kernel
theorem dX12_passes_242 : decode cX12_passes 242 = .ok (.dup2, 1) := by decide +kernel
theorem dX12_passes_243 : decode cX12_passes 243 = .ok (.iaload, 1) := by decide +kernel
theorem dX12_passes_244 : decode cX12_passes 244 = .ok (.iload 12, 2) := by decide +kernel
theorem dX12_passes_246 : decode cX12_passes 246 = .ok (.iadd, 1) := by decide +kernel
theorem dX12_passes_247 : decode cX12_passes 247 = .ok (.iastore, 1) := by decide +kernel
theorem dX12_passes_248 : decode cX12_passes 248 = .ok (.aload_n 0, 1) := by decide +kernel
theorem dX12_passes_249 : decode cX12_passes 249 = .ok (.getfield 29, 3) := by decide +kernel
theorem dX12_passes_25 : decode cX12_passes 25 = .ok (.iload 5, 2) := by decide +kernel
theorem dX12_passes_252 : decode cX12_passes 252 = .ok (.sipush 243, 3) := by decide +kernel
theorem dX12_passes_255 : decode cX12_passes 255 = .ok (.iload 11, 2) := by decide +kernel
theorem dX12_passes_257 : decode cX12_passes 257 = .ok (.iadd, 1) := by decide +kernel
theorem dX12_passes_258 : decode cX12_passes 258 = .ok (.dup2, 1) := by decide +kernel
theorem dX12_passes_259 : decode cX12_passes 259 = .ok (.iaload, 1) := by decide +kernel
theorem dX12_passes_260 : decode cX12_passes 260 = .ok (.iconst 1, 1) := by decide +kernel
theorem dX12_passes_261 : decode cX12_passes 261 = .ok (.iadd, 1) := by decide +kernel
theorem dX12_passes_262 : decode cX12_passes 262 = .ok (.iastore, 1) := by decide +kernel
theorem dX12_passes_263 : decode cX12_passes 263 = .ok (.iload 6, 2) := by decide +kernel
theorem dX12_passes_265 : decode cX12_passes 265 = .ok (.iload 12, 2) := by decide +kernel
theorem dX12_passes_267 : decode cX12_passes 267 = .ok (.iadd, 1) := by decide +kernel
theorem dX12_passes_268 : decode cX12_passes 268 = .ok (.istore 6, 2) := by decide +kernel
theorem dX12_passes_27 : decode cX12_passes 27 = .ok (.invokevirtual 360, 3) := by decide +kernel
theorem dX12_passes_270 : decode cX12_passes 270 = .ok (.iinc 11 1, 3) := by decide +kernel
theorem dX12_passes_273 : decode cX12_passes 273 = .ok (.goto (-154), 3) := by decide +kernel
theorem dX12_passes_276 : decode cX12_passes 276 = .ok (.aload_n 0, 1) := by decide +kernel
theorem dX12_passes_277 : decode cX12_passes 277 = .ok (.getfield 29, 3) := by decide +kernel
theorem dX12_passes_280 : decode cX12_passes 280 = .ok (.iload 8, 2) := by decide +kernel
theorem dX12_passes_282 : decode cX12_passes 282 = .ok (.dup2, 1) := by decide +kernel
theorem dX12_passes_283 : decode cX12_passes 283 = .ok (.iaload, 1) := by decide +kernel
theorem dX12_passes_284 : decode cX12_passes 284 = .ok (.iload 9, 2) := by decide +kernel
theorem dX12_passes_286 : decode cX12_passes 286 = .ok (.isub, 1) := by decide +kernel
theorem dX12_passes_287 : decode cX12_passes 287 = .ok (.iastore, 1) := by decide +kernel
theorem dX12_passes_288 : decode cX12_passes 288 = .ok (.aload_n 0, 1) := by decide +kernel
theorem dX12_passes_289 : decode cX12_passes 289 = .ok (.getfield 344, 3) := by decide +kernel
theorem dX12_passes_292 : decode cX12_passes 292 = .ok (.iconst 1, 1) := by decide +kernel
theorem dX12_passes_293 : decode cX12_passes 293 = .ok (.iadd, 1) := by decide +kernel
theorem dX12_passes_294 : decode cX12_passes 294 = .ok (.aload_n 0, 1) := by decide +kernel
theorem dX12_passes_295 : decode cX12_passes 295 = .ok (.getfield 23, 3) := by decide +kernel
theorem dX12_passes_298 : decode cX12_passes 298 = .ok (.iconst 1, 1) := by decide +kernel
theorem dX12_passes_299 : decode cX12_passes 299 = .ok (.iaload, 1) := by decide +kernel
theorem dX12_passes_3 : decode cX12_passes 3 = .ok (.iconst 0, 1) := by decide +kernel
theorem dX12_passes_30 : decode cX12_passes 30 = .ok (.bipush 96, 2) := by decide +kernel
theorem dX12_passes_300 : decode cX12_passes 300 = .ok (.if_icmp .ge 10, 3) := by decide +kernel
theorem dX12_passes_303 : decode cX12_passes 303 = .ok (.iload 9, 2) := by decide +kernel
theorem dX12_passes_305 : decode cX12_passes 305 = .ok (.iconst 2, 1) := by decide +kernel
theorem dX12_passes_306 : decode cX12_passes 306 = .ok (.idiv, 1) := by decide +kernel
theorem dX12_passes_307 : decode cX12_passes 307 = .ok (.goto 4, 3) := by decide +kernel
theorem dX12_passes_310 : decode cX12_passes 310 = .ok (.iconst 0, 1) := by decide +kernel
theorem dX12_passes_311 : decode cX12_passes 311 = .ok (.istore 11, 2) := by decide +kernel
theorem dX12_passes_313 : decode cX12_passes 313 = .ok (.iload 11, 2) := by decide +kernel
theorem dX12_passes_315 : decode cX12_passes 315 = .ok (.ifCond .le 27, 3) := by decide +kernel
theorem dX12_passes_318 : decode cX12_passes 318 = .ok (.aload_n 0, 1) := by decide +kernel
theorem dX12_passes_319 : decode cX12_passes 319 = .ok (.getfield 29, 3) := by decide +kernel
theorem dX12_passes_32 : decode cX12_passes 32 = .ok (.iload 7, 2) := by decide +kernel
theorem dX12_passes_322 : decode cX12_passes 322 = .ok (.bipush 96, 2) := by decide +kernel
theorem dX12_passes_324 : decode cX12_passes 324 = .ok (.iload 7, 2) := by decide +kernel
theorem dX12_passes_326 : decode cX12_passes 326 = .ok (.aload_n 0, 1) := by decide +kernel
theorem dX12_passes_327 : decode cX12_passes 327 = .ok (.getfield 344, 3) := by decide +kernel
theorem dX12_passes_330 : decode cX12_passes 330 = .ok (.iconst 1, 1) := by decide +kernel
theorem dX12_passes_331 : decode cX12_passes 331 = .ok (.iadd, 1) := by decide +kernel
theorem dX12_passes_332 : decode cX12_passes 332 = .ok (.invokestatic 289, 3) := by decide +kernel
theorem dX12_passes_335 : decode cX12_passes 335 = .ok (.iadd, 1) := by decide +kernel
theorem dX12_passes_336 : decode cX12_passes 336 = .ok (.dup2, 1) := by decide +kernel
theorem dX12_passes_337 : decode cX12_passes 337 = .ok (.iaload, 1) := by decide +kernel
theorem dX12_passes_338 : decode cX12_passes 338 = .ok (.iload 11, 2) := by decide +kernel
theorem dX12_passes_34 : decode cX12_passes 34 = .ok (.aload_n 0, 1) := by decide +kernel
theorem dX12_passes_340 : decode cX12_passes 340 = .ok (.iadd, 1) := by decide +kernel
theorem dX12_passes_341 : decode cX12_passes 341 = .ok (.iastore, 1) := by decide +kernel
theorem dX12_passes_342 : decode cX12_passes 342 = .ok (.aload_n 0, 1) := by decide +kernel
theorem dX12_passes_343 : decode cX12_passes 343 = .ok (.getfield 29, 3) := by decide +kernel
theorem dX12_passes_346 : decode cX12_passes 346 = .ok (.sipush 387, 3) := by decide +kernel
theorem dX12_passes_349 : decode cX12_passes 349 = .ok (.dup2, 1) := by decide +kernel
theorem dX12_passes_35 : decode cX12_passes 35 = .ok (.getfield 344, 3) := by decide +kernel
theorem dX12_passes_350 : decode cX12_passes 350 = .ok (.iaload, 1) := by decide +kernel
theorem dX12_passes_351 : decode cX12_passes 351 = .ok (.iload 9, 2) := by decide +kernel
theorem dX12_passes_353 : decode cX12_passes 353 = .ok (.iload 11, 2) := by decide +kernel
theorem dX12_passes_355 : decode cX12_passes 355 = .ok (.isub, 1) := by decide +kernel
theorem dX12_passes_356 : decode cX12_passes 356 = .ok (.iadd, 1) := by decide +kernel
theorem dX12_passes_357 : decode cX12_passes 357 = .ok (.iastore, 1) := by decide +kernel
theorem dX12_passes_358 : decode cX12_passes 358 = .ok (.iinc 7 1, 3) := by decide +kernel
theorem dX12_passes_361 : decode cX12_passes 361 = .ok (.goto (-355), 3) := by decide +kernel
theorem dX12_passes_364 : decode cX12_passes 364 = .ok (.iload 6, 2) := by decide +kernel
theorem dX12_passes_366 : decode cX12_passes 366 = .ok (.ireturn, 1) := by decide +kernel
theorem dX12_passes_38 : decode cX12_passes 38 = .ok (.invokestatic 289, 3) := by decide +kernel
theorem dX12_passes_4 : decode cX12_passes 4 = .ok (.istore 7, 2) := by decide +kernel
theorem dX12_passes_41 : decode cX12_passes 41 = .ok (.iadd, 1) := by decide +kernel
theorem dX12_passes_42 : decode cX12_passes 42 = .ok (.istore 8, 2) := by decide +kernel
theorem dX12_passes_44 : decode cX12_passes 44 = .ok (.aload_n 0, 1) := by decide +kernel
theorem dX12_passes_45 : decode cX12_passes 45 = .ok (.aload_n 0, 1) := by decide +kernel
theorem dX12_passes_46 : decode cX12_passes 46 = .ok (.getfield 29, 3) := by decide +kernel
theorem dX12_passes_49 : decode cX12_passes 49 = .ok (.iload 8, 2) := by decide +kernel
theorem dX12_passes_51 : decode cX12_passes 51 = .ok (.iaload, 1) := by decide +kernel
theorem dX12_passes_52 : decode cX12_passes 52 = .ok (.aload_n 0, 1) := by decide +kernel
theorem dX12_passes_53 : decode cX12_passes 53 = .ok (.getfield 353, 3) := by decide +kernel
theorem dX12_passes_56 : decode cX12_passes 56 = .ok (.iload 4, 2) := by decide +kernel
theorem dX12_passes_58 : decode cX12_passes 58 = .ok (.aload_n 0, 1) := by decide +kernel
theorem dX12_passes_59 : decode cX12_passes 59 = .ok (.getfield 344, 3) := by decide +kernel
theorem dX12_passes_6 : decode cX12_passes 6 = .ok (.iload 7, 2) := by decide +kernel
theorem dX12_passes_62 : decode cX12_passes 62 = .ok (.aload_n 0, 1) := by decide +kernel
theorem dX12_passes_63 : decode cX12_passes 63 = .ok (.iload 7, 2) := by decide +kernel
theorem dX12_passes_65 : decode cX12_passes 65 = .ok (.invokevirtual 347, 3) := by decide +kernel
theorem dX12_passes_68 : decode cX12_passes 68 = .ok (.invokevirtual 337, 3) := by decide +kernel
theorem dX12_passes_71 : decode cX12_passes 71 = .ok (.aload_n 0, 1) := by decide +kernel
theorem dX12_passes_72 : decode cX12_passes 72 = .ok (.getfield 29, 3) := by decide +kernel
theorem dX12_passes_75 : decode cX12_passes 75 = .ok (.iload 8, 2) := by decide +kernel
theorem dX12_passes_77 : decode cX12_passes 77 = .ok (.iaload, 1) := by decide +kernel
theorem dX12_passes_78 : decode cX12_passes 78 = .ok (.aload_n 0, 1) := by decide +kernel
theorem dX12_passes_79 : decode cX12_passes 79 = .ok (.iconst 5, 1) := by decide +kernel
theorem dX12_passes_8 : decode cX12_passes 8 = .ok (.aload_n 0, 1) := by decide +kernel
theorem dX12_passes_80 : decode cX12_passes 80 = .ok (.iload_n 1, 1) := by decide +kernel
theorem dX12_passes_81 : decode cX12_passes 81 = .ok (.imul, 1) := by decide +kernel
theorem dX12_passes_82 : decode cX12_passes 82 = .ok (.invokevirtual 341, 3) := by decide +kernel
theorem dX12_passes_85 : decode cX12_passes 85 = .ok (.iconst 0, 1) := by decide +kernel
theorem dX12_passes_86 : decode cX12_passes 86 = .ok (.bipush 16, 2) := by decide +kernel
theorem dX12_passes_88 : decode cX12_passes 88 = .ok (.invokestatic 356, 3) := by decide +kernel
theorem dX12_passes_9 : decode cX12_passes 9 = .ok (.getfield 23, 3) := by decide +kernel
theorem dX12_passes_91 : decode cX12_passes 91 = .ok (.imul, 1) := by decide +kernel
theorem dX12_passes_92 : decode cX12_passes 92 = .ok (.bipush 16, 2) := by decide +kernel
theorem dX12_passes_94 : decode cX12_passes 94 = .ok (.idiv, 1) := by decide +kernel
theorem dX12_passes_95 : decode cX12_passes 95 = .ok (.istore 9, 2) := by decide +kernel
theorem dX12_passes_97 : decode cX12_passes 97 = .ok (.iload 9, 2) := by decide +kernel
theorem dX12_passes_99 : decode cX12_passes 99 = .ok (.ifCond .ne 6, 3) := by decide +kernel
def vs_m_passes : List Cond := .code yX12_passes cX12_passes 13 (some .int) :: (([.fieldLink RX12 23 "KerbSplashModel" "b" "[I", .fieldLink RX12 344 "KerbSplashModel" "itsRow" "I", .fieldLink RX12 29 "KerbSplashModel" "s" "[I", .fieldLink RX12 353 "KerbSplashModel" "itsPace" "I", .fieldLink RX12 65 "KerbSplashModel" "names" "[I"] : List Cond) ++ ((wsX120) ++ ((wsV RX12 360 RX12 yX12_drives vs_m_drives) ++ ((va_wsS RX12 289 yX12_at vs_m_at) ++ ((wsV RX12 347 RX12 yX12_peopleAt vs_m_peopleAt) ++ ((wsV RX12 337 RX12 yX12_name vs_m_name) ++ ((wsV RX12 341 RX12 yX12_worked vs_m_worked) ++ ((va_wsS RX12 356 yX12_held vs_m_held) ++ ((wsV RX12 364 RX12 yX12_isSheltered vs_m_isSheltered) ++ ([]))))))))))
theorem gd_m_passes : vs_m_passes.all goodWord = true := gd_C (by decide +kernel) (gd_A (by decide +kernel) (gd_A (by decide +kernel) (gd_A (gd_V gd_m_drives (by decide +kernel)) (gd_A (gd_S gd_m_at (by decide +kernel)) (gd_A (gd_V gd_m_peopleAt (by decide +kernel)) (gd_A (gd_V gd_m_name (by decide +kernel)) (gd_A (gd_V gd_m_worked (by decide +kernel)) (gd_A (gd_S gd_m_held (by decide +kernel)) (gd_A (gd_V gd_m_isSheltered (by decide +kernel)) rfl)))))))))
set_option maxHeartbeats 4000000 in
set_option maxRecDepth 100000 in
theorem m_passes (l : Launch) (hl : l.stackTraces = false) (D : va_G) (cy : Nat → ClassId) (sa : Nat → Nat) (mm m1 m9 m10 m11 m12 m13 m14 m15 m19 m20 m21 m23 m24 m25 m26 m27 m28 m33 m35 : Nat) (th tp sz_ ap bad bk opn fp im nr nl sp_ wtc wcl ir ip shu sfa swr : Int) (f10 f12 f23 f24 f25 f26 f27 f28 : Nat → Int32) (n p1 p2 p3 p4 : Int) (qs : Nat → Int) (pm : Int) (sz : Nat) (hr_th : (-2147483648) ≤ th ∧ th ≤ 2147483647) (hr_tp : 0 ≤ tp ∧ tp ≤ 600) (hr_sz_ : 0 ≤ sz_ ∧ sz_ ≤ 600) (hr_ap : 0 ≤ ap ∧ ap ≤ 602) (hr_bad : (-1) ≤ bad ∧ bad ≤ 602) (hr_bk : 0 ≤ bk ∧ bk ≤ 4) (hr_opn : 0 ≤ opn ∧ opn ≤ 7) (hr_fp : (-2147483648) ≤ fp ∧ fp ≤ 2147483647) (hr_im : 0 ≤ im ∧ im ≤ 3) (hr_nr : 0 ≤ nr ∧ nr ≤ 4) (hr_nl : 0 ≤ nl ∧ nl ≤ 4) (hr_sp_ : 0 ≤ sp_ ∧ sp_ ≤ 602) (hr_wtc : (-2147483648) ≤ wtc ∧ wtc ≤ 2147483647) (hr_wcl : 0 ≤ wcl ∧ wcl ≤ 95) (hr_ir : 0 ≤ ir ∧ ir ≤ 5) (hr_ip : (-2147483648) ≤ ip ∧ ip ≤ 2147483647) (hr_shu : (-2147483648) ≤ shu ∧ shu ≤ 2147483647) (hr_sfa : (-2147483648) ≤ sfa ∧ sfa ≤ 2147483647) (hr_swr : (-2147483648) ≤ swr ∧ swr ≤ 2147483647) (hr_n : 0 ≤ n ∧ n ≤ 3) (hr_p1 : 0 ≤ p1 ∧ p1 ≤ 5) (hr_p2 : (-2147483648) ≤ p2 ∧ p2 ≤ 2147483647) (hr_p3 : (-2147483648) ≤ p3 ∧ p3 ≤ 2147483647) (hr_p4 : (-2147483648) ≤ p4 ∧ p4 ≤ 2147483647) (hr_pm : 8 ≤ pm ∧ pm ≤ 9) (hp0 : 1 ≤ nz f10 1) (hp1 : n < nl) (hn_li : LI nl f23 f24 f25 f26) (hf10 : BI f10) (hf12 : SQ qs pm f12) : mI9 l yX12_passes vs_m_passes ({ frames := 2, cells := 0, slots := 0, locals := 53 }) D cy sa sz [vR mm, vI n, vI p1, vI p2, vI p3, vI p4] [zO mm 12 [vI th, vR m1, vI tp, vI sz_, vI ap, vI bad, vI bk, vI opn, vI fp, vR m9, vR m10, vR m11, vR m12, vR m13, vR m14, vR m15, vI im, vI nr, vI nl, vR m19, vR m20, vR m21, vI sp_, vR m23, vR m24, vR m25, vR m26, vR m27, vR m28, vI wtc, vI wcl, vI ir, vI ip, vR m33, vI shu, vR m35, vI sfa, vI swr], zI m10 (cy 0) 68 f10, zI m12 (cy 0) 389 f12, zI m23 (cy 0) 2480 f23, zI m24 (cy 0) 2480 f24, zI m25 (cy 0) 20 f25, zI m26 (cy 0) 20 f26, zI m27 (cy 0) 620 f27, zI m28 (cy 0) 7 f28] (fun (r : Int32) (u : SV) => r = iI (u.2.1 0) ∧ (0 ≤ u.2.1 1 ∧ u.2.1 1 ≤ 5) ∧ ((-2147483648) ≤ u.2.1 2 ∧ u.2.1 2 ≤ 2147483647) ∧ ((-2147483648) ≤ u.2.1 0 ∧ u.2.1 0 ≤ 2147483647) ∧ BI f10 ∧ SQ qs pm (u.2.2 0)) (fun u : SV => [zO mm 12 [vI th, vR m1, vI tp, vI sz_, vI ap, vI bad, vI bk, vI opn, vI fp, vR m9, vR m10, vR m11, vR m12, vR m13, vR m14, vR m15, vI im, vI nr, vI nl, vR m19, vR m20, vR m21, vI sp_, vR m23, vR m24, vR m25, vR m26, vR m27, vR m28, vI wtc, vI wcl, vI (u.2.1 1), vI (u.2.1 2), vR m33, vI shu, vR m35, vI sfa, vI swr], zI m10 (cy 0) 68 f10, zI m12 (cy 0) 389 (u.2.2 0), zI m23 (cy 0) 2480 f23, zI m24 (cy 0) 2480 f24, zI m25 (cy 0) 20 f25, zI m26 (cy 0) 20 f26, zI m27 (cy 0) 620 (u.2.2 1), zI m28 (cy 0) 7 (u.2.2 2)]) 0 0 := by
  refine Met.ofW (cc := cX12_passes) (maxL := 13) (ret := (some .int)) (by decide) rfl ?_
  intro p e s m args below meth c s₁ B hml hv
  obtain ⟨rfl, hsz, hP, hG, hD0, hT⟩ := hv
  have hx := B.exec
  have hb := B.bytes
  have hr := B.returns
  have hts := atoms_spec (ws := vs_m_passes) B.pre
  have hown : s.vm.findClass RX12 = some m.cls := findClass_of_methodNamed B.named
  have hlocks := B.notSynchronized
  subst hsz
  have hD := hD0.self (sz := s.heap.size)
  generalize hAe : va_A [zO mm 12 [vI th, vR m1, vI tp, vI sz_, vI ap, vI bad, vI bk, vI opn, vI fp, vR m9, vR m10, vR m11, vR m12, vR m13, vR m14, vR m15, vI im, vI nr, vI nl, vR m19, vR m20, vR m21, vI sp_, vR m23, vR m24, vR m25, vR m26, vR m27, vR m28, vI wtc, vI wcl, vI ir, vI ip, vR m33, vI shu, vR m35, vI sfa, vI swr], zI m10 (cy 0) 68 f10, zI m12 (cy 0) 389 f12, zI m23 (cy 0) 2480 f23, zI m24 (cy 0) 2480 f24, zI m25 (cy 0) 20 f25, zI m26 (cy 0) 20 f26, zI m27 (cy 0) 620 f27, zI m28 (cy 0) 7 f28] s.heap.size = A at hD hT ⊢
  have hA : ∀ q : Nat, s.heap.size ≤ q → A q := fun q h => by rw [← hAe]; exact Or.inr h
  have hS : va_S A s.heap s.heap [] := va_S.rf
  have hl0 := lv_entry ([vR mm, vI n, vI p1, vI p2, vI p3, vI p4]) (n := 13) (Nat.le_of_ble_eq_true rfl)
  rw [lg_entry_eq]
  generalize (lg_sl ([vR mm, vI n, vI p1, vI p2, vI p3, vI p4]) ++ List.replicate (13 - (lg_sl ([vR mm, vI n, vI p1, vI p2, vI p3, vI p4])).length) Slot.unset).toArray = ls at hl0 ⊢
  have hlv : lv_has ls 13 [(0, vR mm), (1, vI n), (2, vI p1), (3, vI p2), (4, vI p3), (5, vI p4)] := hl0
  have lf23 := hts (.fieldLink RX12 23 "KerbSplashModel" "b" "[I") (List.mem_of_getElem? (i := 1) rfl)
  have hi12 : ∀ w ∈ wsX120, w ∈ vs_m_passes := fun w h => List.mem_cons_of_mem _ (List.mem_append_right _ (List.mem_append_left _ h))
  have gg_1 : GoodIn vs_m_passes (wsV RX12 360 RX12 yX12_drives vs_m_drives) := goodIn_sub (fun w h => List.mem_cons_of_mem _ (List.mem_append_right _ (List.mem_append_right _ (List.mem_append_left _ h)))) (gd_V gd_m_drives (by decide +kernel))
  have lf344 := hts (.fieldLink RX12 344 "KerbSplashModel" "itsRow" "I") (List.mem_of_getElem? (i := 2) rfl)
  have gg_2 : GoodIn vs_m_passes (va_wsS RX12 289 yX12_at vs_m_at) := goodIn_sub (fun w h => List.mem_cons_of_mem _ (List.mem_append_right _ (List.mem_append_right _ (List.mem_append_right _ (List.mem_append_left _ h))))) (gd_S gd_m_at (by decide +kernel))
  have lf29 := hts (.fieldLink RX12 29 "KerbSplashModel" "s" "[I") (List.mem_of_getElem? (i := 3) rfl)
  have lf353 := hts (.fieldLink RX12 353 "KerbSplashModel" "itsPace" "I") (List.mem_of_getElem? (i := 4) rfl)
  have gg_3 : GoodIn vs_m_passes (wsV RX12 347 RX12 yX12_peopleAt vs_m_peopleAt) := goodIn_sub (fun w h => List.mem_cons_of_mem _ (List.mem_append_right _ (List.mem_append_right _ (List.mem_append_right _ (List.mem_append_right _ (List.mem_append_left _ h)))))) (gd_V gd_m_peopleAt (by decide +kernel))
  have gg_4 : GoodIn vs_m_passes (wsV RX12 337 RX12 yX12_name vs_m_name) := goodIn_sub (fun w h => List.mem_cons_of_mem _ (List.mem_append_right _ (List.mem_append_right _ (List.mem_append_right _ (List.mem_append_right _ (List.mem_append_right _ (List.mem_append_left _ h))))))) (gd_V gd_m_name (by decide +kernel))
  have gg_5 : GoodIn vs_m_passes (wsV RX12 341 RX12 yX12_worked vs_m_worked) := goodIn_sub (fun w h => List.mem_cons_of_mem _ (List.mem_append_right _ (List.mem_append_right _ (List.mem_append_right _ (List.mem_append_right _ (List.mem_append_right _ (List.mem_append_right _ (List.mem_append_left _ h)))))))) (gd_V gd_m_worked (by decide +kernel))
  have gg_6 : GoodIn vs_m_passes (va_wsS RX12 356 yX12_held vs_m_held) := goodIn_sub (fun w h => List.mem_cons_of_mem _ (List.mem_append_right _ (List.mem_append_right _ (List.mem_append_right _ (List.mem_append_right _ (List.mem_append_right _ (List.mem_append_right _ (List.mem_append_right _ (List.mem_append_left _ h))))))))) (gd_S gd_m_held (by decide +kernel))
  have lf65 := hts (.fieldLink RX12 65 "KerbSplashModel" "names" "[I") (List.mem_of_getElem? (i := 5) rfl)
  have gg_7 : GoodIn vs_m_passes (wsV RX12 364 RX12 yX12_isSheltered vs_m_isSheltered) := goodIn_sub (fun w h => List.mem_cons_of_mem _ (List.mem_append_right _ (List.mem_append_right _ (List.mem_append_right _ (List.mem_append_right _ (List.mem_append_right _ (List.mem_append_right _ (List.mem_append_right _ (List.mem_append_right _ (List.mem_append_left _ h)))))))))) (gd_V gd_m_isSheltered (by decide +kernel))
  refine lv_iconst (v := iI 0) hx hb dX12_passes_0 (by decide) ?_
  refine lv_istore (lv' := [(6, vI 0), (0, vR mm), (1, vI n), (2, vI p1), (3, vI p2), (4, vI p3), (5, vI p4)]) hx hb dX12_passes_1 hlv (by decide) rfl (fun ls hlv => ?_)
  refine lv_iconst (v := iI 0) hx hb dX12_passes_3 (by decide) ?_
  refine lv_istore (lv' := [(7, vI 0), (6, vI 0), (0, vR mm), (1, vI n), (2, vI p1), (3, vI p2), (4, vI p3), (5, vI p4)]) hx hb dX12_passes_4 hlv (by decide) rfl (fun ls hlv => ?_)
  refine (?_ : ∀ (fu : Nat) (q6 : Int) (q7 : Int) (qi : Int) (qp : Int) (wg : Nat → Int32) (kg : Nat → Int32) (ng : Nat → Int32) (H : Heap) (locs : List Loc) (ls : Array Slot), 16 - q7 < (fu : Int) → ((-2147483648) ≤ q6 ∧ q6 ≤ 2147483647) → (0 ≤ q7 ∧ q7 ≤ 16) → (0 ≤ qi ∧ qi ≤ 5) → ((-2147483648) ≤ qp ∧ qp ≤ 2147483647) → SQ qs pm wg → va_P D vwCl [zO mm 12 [vI th, vR m1, vI tp, vI sz_, vI ap, vI bad, vI bk, vI opn, vI fp, vR m9, vR m10, vR m11, vR m12, vR m13, vR m14, vR m15, vI im, vI nr, vI nl, vR m19, vR m20, vR m21, vI sp_, vR m23, vR m24, vR m25, vR m26, vR m27, vR m28, vI wtc, vI wcl, vI qi, vI qp, vR m33, vI shu, vR m35, vI sfa, vI swr], zI m10 (cy 0) 68 f10, zI m12 (cy 0) 389 wg, zI m23 (cy 0) 2480 f23, zI m24 (cy 0) 2480 f24, zI m25 (cy 0) 20 f25, zI m26 (cy 0) 20 f26, zI m27 (cy 0) 620 kg, zI m28 (cy 0) 7 ng] H → va_D A [zO mm 12 [vI th, vR m1, vI tp, vI sz_, vI ap, vI bad, vI bk, vI opn, vI fp, vR m9, vR m10, vR m11, vR m12, vR m13, vR m14, vR m15, vI im, vI nr, vI nl, vR m19, vR m20, vR m21, vI sp_, vR m23, vR m24, vR m25, vR m26, vR m27, vR m28, vI wtc, vI wcl, vI qi, vI qp, vR m33, vI shu, vR m35, vI sfa, vI swr], zI m10 (cy 0) 68 f10, zI m12 (cy 0) 389 wg, zI m23 (cy 0) 2480 f23, zI m24 (cy 0) 2480 f24, zI m25 (cy 0) 20 f25, zI m26 (cy 0) 20 f26, zI m27 (cy 0) 620 kg, zI m28 (cy 0) 7 ng] → va_S A s.heap H locs → lv_has ls 13 [(7, vI q7), (6, vI q6), (0, vR mm), (1, vI n), (2, vI p1), (3, vI p2), (4, vI p3), (5, vI p4)] → W p l e _ s m _ below meth c H locs _ _ _ (F0 m 6 ls [])) (((16 - 0) + 1 : Int)).toNat 0 0 ir ip f12 f27 f28 _ _ _ (by omega) (by show ((-2147483648) : Int) ≤ 0 ∧ (0 : Int) ≤ 2147483647; decide) (by show (0 : Int) ≤ 0 ∧ (0 : Int) ≤ 16; decide) (by first | exact hr_ir | omega) (by first | exact hr_ip | omega) hf12 hP hD hS hlv
  clear hP hD hS hlv
  intro fu
  induction fu with
  | zero => intro q6 q7 qi qp wg kg ng H locs ls hm6 hl6_0 hl6_1 hl6_2 hl6_3 hiwg hP hD hS hlv; omega
  | succ fu ih6 =>
    intro q6 q7 qi qp wg kg ng H locs ls hm6 hl6_0 hl6_1 hl6_2 hl6_3 hiwg hP hD hS hlv
    refine lv_iload hx hb dX12_passes_6 (lv_at hlv 0 rfl) ?_
    refine lv_aload_n hx hb dX12_passes_8 rfl (lv_at hlv 2 rfl) ?_
    refine va_get (D := D) (ci := 12) (v := vR m10) (C := RX12) (T := TX12) (N := 38) hx hb hts hi12 hown hG.1 hP 0 rfl rfl 10 (by decide) lf23 (fun _ h9 => h9) rfl dX12_passes_9 ?_
    refine lv_iconst (v := iI 0) hx hb dX12_passes_12 (by decide) ?_
    refine va_iald hx hb hG.1 hP 1 0 rfl rfl (iI_in (by omega) (by decide)) dX12_passes_13 ?_
    refine lt_nz (i := 0) (by omega) (fun z_1 hz_1 lz_1 uz_1 => ?_)
    have hz_1 : z_1 = nz f10 0 := hz_1
    have hbz_1_7 := hf10.1.1
    have hbz_1_8 := hf10.2.1
    have hbz_1_9 := hf10.2.2
    refine ir_ge (tgt := 364) hx hb dX12_passes_14 (by decide) (by first | exact rgw hl6_1 (by decide) (by decide) | omega) (by omega) (fun c_2 => ?_) (fun c_2 => ?_)
    · refine lv_iload hx hb dX12_passes_364 (lv_at hlv 1 rfl) ?_
      refine W.widen (k := 0) (n := 0) (Nat.le_of_ble_eq_true rfl) (Nat.le_of_ble_eq_true rfl) ?_
      exact W.iret (v := iI q6) hx hb hr (fun t ht hW => ⟨⟨iI q6, ((fun k => ([] : List Nat).getD k 0), (fun k => ([q6, qi, qp] : List Int).getD k 0), (fun k => ([wg, kg, ng] : List (Nat → Int32)).getD k (fun _ => 0))), rfl, ⟨rfl, (by show (0 ≤ qi ∧ qi ≤ 5); first | exact hl6_2 | omega), (by show ((-2147483648) ≤ qp ∧ qp ≤ 2147483647); first | exact hl6_3 | omega), (by show ((-2147483648) ≤ q6 ∧ q6 ≤ 2147483647); first | exact hl6_0 | omega), hf10, hiwg⟩, at9 ht hP hD [0, 1, 2, 3, 4, 5, 6, 7, 8] (by decide +kernel) rfl⟩, hS.F ht⟩) hS.2.2 dX12_passes_366
    · refine lv_aload_n hx hb dX12_passes_17 rfl (lv_at hlv 2 rfl) ?_
      refine lv_iload_n hx hb dX12_passes_18 rfl (lv_at hlv 3 rfl) ?_
      refine lv_iload hx hb dX12_passes_19 (lv_at hlv 0 rfl) ?_
      refine lv_iload_n hx hb dX12_passes_21 rfl (lv_at hlv 4 rfl) ?_
      refine lv_iload_n hx hb dX12_passes_22 rfl (lv_at hlv 5 rfl) ?_
      refine lv_iload hx hb dX12_passes_23 (lv_at hlv 6 rfl) ?_
      refine lv_iload hx hb dX12_passes_25 (lv_at hlv 7 rfl) ?_
      refine cjr_v [false, false, false, false, false, false, false, false, false] (fun pre9 => (va_runV (As := [vI n, vI q7, vI p1, vI p2, vI p3, vI p4]) (rest := []) ⟨hx, hb, hml, hown, hts⟩ (m_drives l hl D cy sa mm m1 m9 m10 m11 m12 m13 m14 m15 m19 m20 m21 m23 m24 m25 m26 m27 m28 m33 m35 th tp sz_ ap bad bk opn fp im nr nl sp_ wtc wcl qi qp shu sfa swr f10 wg f23 f24 f25 f26 kg ng n q7 p1 p2 p3 p4 pm H.size (by first | exact hr_th | omega) (by first | exact hr_tp | omega) (by first | exact hr_sz_ | omega) (by first | exact hr_ap | omega) (by first | exact hr_bad | omega) (by first | exact hr_bk | omega) (by first | exact hr_opn | omega) (by first | exact hr_fp | omega) (by first | exact hr_im | omega) (by first | exact hr_nr | omega) (by first | exact hr_nl | omega) (by first | exact hr_sp_ | omega) (by first | exact hr_wtc | omega) (by first | exact hr_wcl | omega) (by first | exact hl6_2 | omega) (by first | exact hl6_3 | omega) (by first | exact hr_shu | omega) (by first | exact hr_sfa | omega) (by first | exact hr_swr | omega) (by first | exact hr_n | omega) (by omega) (by first | exact hr_p1 | omega) (by first | exact hr_p2 | omega) (by first | exact hr_p3 | omega) (by first | exact hr_p4 | omega) (by first | exact hr_pm | omega) hp0 hp1 hn_li hf10 (hiwg.1)) (cwV 6 hts gg_1 rfl rfl rfl (by decide +kernel) ⟨Nat.le_of_ble_eq_true rfl, Nat.le_of_ble_eq_true rfl⟩) ⟨pcW.blind, (va_recv hG.1 hP (ci := 12) (q0 := 0) rfl rfl), pre9⟩ rfl rfl hlv.1 rfl (lv_room (Nat.le_of_ble_eq_true rfl)) dX12_passes_27 ⟨Nat.le_of_ble_eq_true rfl, Nat.le_of_ble_eq_true rfl⟩)) hP hD hS hA hG hT [0, 1, 2, 3, 4, 5, 6, 7, 8] rfl (by decide +kernel) (fun u1 H locs hw1 hq9 hS => ?_)
      obtain ⟨hq1_0, hq1_1, hq1_2, hq1_3⟩ := hw1
      obtain ⟨hP, hD⟩ := pd9 [zO mm 12 [vI th, vR m1, vI tp, vI sz_, vI ap, vI bad, vI bk, vI opn, vI fp, vR m9, vR m10, vR m11, vR m12, vR m13, vR m14, vR m15, vI im, vI nr, vI nl, vR m19, vR m20, vR m21, vI sp_, vR m23, vR m24, vR m25, vR m26, vR m27, vR m28, vI wtc, vI wcl, vI (u1.2.1 0), vI (u1.2.1 1), vR m33, vI shu, vR m35, vI sfa, vI swr], zI m10 (cy 0) 68 f10, zI m12 (cy 0) 389 wg, zI m23 (cy 0) 2480 f23, zI m24 (cy 0) 2480 f24, zI m25 (cy 0) 20 f25, zI m26 (cy 0) 20 f26, zI m27 (cy 0) 620 (u1.2.2 0), zI m28 (cy 0) 7 (u1.2.2 1)] hq9
      refine lv_bipush (v := iI 96) hx hb dX12_passes_30 (by decide) ?_
      refine lv_iload hx hb dX12_passes_32 (lv_at hlv 0 rfl) ?_
      refine lv_aload_n hx hb dX12_passes_34 rfl (lv_at hlv 2 rfl) ?_
      refine va_get (D := D) (ci := 12) (v := vI (u1.2.1 0)) (C := RX12) (T := TX12) (N := 38) hx hb hts hi12 hown hG.1 hP 0 rfl rfl 31 (by decide) lf344 (fun _ h9 => h9) rfl dX12_passes_35 ?_
      refine cjr_i [true, true, true, true, true, true, true, true, true] (fun pre9 => (va_runS (As := [vI q7, vI (u1.2.1 0)]) (rest := [vI 96]) ⟨hx, hb, hml, hown, hts⟩ (m_at l hl D cy sa q7 (u1.2.1 0) H.size (by omega) (by first | exact hq1_0 | omega)) (va_cwS 2 hts gg_2 rfl rfl rfl (by decide +kernel) ⟨Nat.le_of_ble_eq_true rfl, Nat.le_of_ble_eq_true rfl⟩) ⟨pcW.blind, pre9⟩ rfl rfl hlv.1 rfl (lv_room (Nat.le_of_ble_eq_true rfl)) dX12_passes_38 ⟨Nat.le_of_ble_eq_true rfl, Nat.le_of_ble_eq_true rfl⟩)) hP hD hS hA hG hT [] rfl (by decide +kernel) (fun r2 u2 H locs hw2 hq9 hS => ?_)
      obtain ⟨rfl, hq2_1, hq2_2⟩ := hw2
      obtain ⟨hP, hD⟩ := pd9 [zO mm 12 [vI th, vR m1, vI tp, vI sz_, vI ap, vI bad, vI bk, vI opn, vI fp, vR m9, vR m10, vR m11, vR m12, vR m13, vR m14, vR m15, vI im, vI nr, vI nl, vR m19, vR m20, vR m21, vI sp_, vR m23, vR m24, vR m25, vR m26, vR m27, vR m28, vI wtc, vI wcl, vI (u1.2.1 0), vI (u1.2.1 1), vR m33, vI shu, vR m35, vI sfa, vI swr], zI m10 (cy 0) 68 f10, zI m12 (cy 0) 389 wg, zI m23 (cy 0) 2480 f23, zI m24 (cy 0) 2480 f24, zI m25 (cy 0) 20 f25, zI m26 (cy 0) 20 f26, zI m27 (cy 0) 620 (u1.2.2 0), zI m28 (cy 0) 7 (u1.2.2 1)] hq9
      refine lv_iadd hx hb dX12_passes_41 ?_
      refine lt_e (e0 := 96 + (u2.2.1 0)) (Int32.ofInt_add _ _).symm (fun z_3 hz_3 => ?_)
      refine lv_istore (lv' := [(8, vI z_3), (7, vI q7), (6, vI q6), (0, vR mm), (1, vI n), (2, vI p1), (3, vI p2), (4, vI p3), (5, vI p4)]) hx hb dX12_passes_42 hlv (by decide) rfl (fun ls hlv => ?_)
      refine lv_aload_n hx hb dX12_passes_44 rfl (lv_at hlv 3 rfl) ?_
      refine lv_aload_n hx hb dX12_passes_45 rfl (lv_at hlv 3 rfl) ?_
      refine va_get (D := D) (ci := 12) (v := vR m12) (C := RX12) (T := TX12) (N := 38) hx hb hts hi12 hown hG.1 hP 0 rfl rfl 12 (by decide) lf29 (fun _ h9 => h9) rfl dX12_passes_46 ?_
      refine lv_iload hx hb dX12_passes_49 (lv_at hlv 0 rfl) ?_
      refine va_iald hx hb hG.1 hP 2 0 rfl rfl (iI_in (by omega) (by decide)) dX12_passes_51 ?_
      refine lt_nz (i := z_3) (by omega) (fun z_4 hz_4 lz_4 uz_4 => ?_)
      refine lv_aload_n hx hb dX12_passes_52 rfl (lv_at hlv 3 rfl) ?_
      refine va_get (D := D) (ci := 12) (v := vI (u1.2.1 1)) (C := RX12) (T := TX12) (N := 38) hx hb hts hi12 hown hG.1 hP 0 rfl rfl 32 (by decide) lf353 (fun _ h9 => h9) rfl dX12_passes_53 ?_
      refine lv_iload hx hb dX12_passes_56 (lv_at hlv 7 rfl) ?_
      refine lv_aload_n hx hb dX12_passes_58 rfl (lv_at hlv 3 rfl) ?_
      refine va_get (D := D) (ci := 12) (v := vI (u1.2.1 0)) (C := RX12) (T := TX12) (N := 38) hx hb hts hi12 hown hG.1 hP 0 rfl rfl 31 (by decide) lf344 (fun _ h9 => h9) rfl dX12_passes_59 ?_
      refine lv_aload_n hx hb dX12_passes_62 rfl (lv_at hlv 3 rfl) ?_
      refine lv_iload hx hb dX12_passes_63 (lv_at hlv 1 rfl) ?_
      refine cjr_i [false, true, false, true, true, true, true, true, true] (fun pre9 => (va_runV (As := [vI q7]) (rest := [vI (u1.2.1 0), vI p3, vI (u1.2.1 1), vI z_4, vR mm]) ⟨hx, hb, hml, hown, hts⟩ (m_peopleAt l hl D cy sa mm m1 m9 m10 m11 m12 m13 m14 m15 m19 m20 m21 m23 m24 m25 m26 m27 m28 m33 m35 th tp sz_ ap bad bk opn fp im nr nl sp_ wtc wcl (u1.2.1 0) (u1.2.1 1) shu sfa swr wg q7 pm H.size (by first | exact hr_th | omega) (by first | exact hr_tp | omega) (by first | exact hr_sz_ | omega) (by first | exact hr_ap | omega) (by first | exact hr_bad | omega) (by first | exact hr_bk | omega) (by first | exact hr_opn | omega) (by first | exact hr_fp | omega) (by first | exact hr_im | omega) (by first | exact hr_nr | omega) (by first | exact hr_nl | omega) (by first | exact hr_sp_ | omega) (by first | exact hr_wtc | omega) (by first | exact hr_wcl | omega) (by first | exact hq1_0 | omega) (by first | exact hq1_1 | omega) (by first | exact hr_shu | omega) (by first | exact hr_sfa | omega) (by first | exact hr_swr | omega) (by first | exact rgw hl6_1 (by decide) (by decide) | omega) (by first | exact hr_pm | omega) (hiwg.1)) (cwV 1 hts gg_3 rfl rfl rfl (by decide +kernel) ⟨Nat.le_of_ble_eq_true rfl, Nat.le_of_ble_eq_true rfl⟩) ⟨pcW.blind, (va_recv hG.1 hP (ci := 12) (q0 := 0) rfl rfl), pre9⟩ rfl rfl hlv.1 rfl (lv_room (Nat.le_of_ble_eq_true rfl)) dX12_passes_65 ⟨Nat.le_of_ble_eq_true rfl, Nat.le_of_ble_eq_true rfl⟩)) hP hD hS hA hG hT [0, 2] rfl (by decide +kernel) (fun r3 u3 H locs hw3 hq9 hS => ?_)
      obtain ⟨rfl, hq3_1, hq3_2⟩ := hw3
      obtain ⟨hP, hD⟩ := pd9 [zI m10 (cy 0) 68 f10, zI m23 (cy 0) 2480 f23, zI m24 (cy 0) 2480 f24, zI m25 (cy 0) 20 f25, zI m26 (cy 0) 20 f26, zI m27 (cy 0) 620 (u1.2.2 0), zI m28 (cy 0) 7 (u1.2.2 1), zO mm 12 [vI th, vR m1, vI tp, vI sz_, vI ap, vI bad, vI bk, vI opn, vI fp, vR m9, vR m10, vR m11, vR m12, vR m13, vR m14, vR m15, vI im, vI nr, vI nl, vR m19, vR m20, vR m21, vI sp_, vR m23, vR m24, vR m25, vR m26, vR m27, vR m28, vI wtc, vI wcl, vI (u1.2.1 0), vI (u1.2.1 1), vR m33, vI shu, vR m35, vI sfa, vI swr], zI m12 (cy 0) 389 wg] hq9
      refine cjr_v [true, true, true, true, true, true, false, false, true] (fun pre9 => (va_runV (As := [vI z_4, vI (u1.2.1 1), vI p3, vI (u1.2.1 0), vI (u3.2.1 0)]) (rest := []) ⟨hx, hb, hml, hown, hts⟩ (m_name l hl D cy sa mm m1 m9 m10 m11 m12 m13 m14 m15 m19 m20 m21 m23 m24 m25 m26 m27 m28 m33 m35 th tp sz_ ap bad bk opn fp im nr nl sp_ wtc wcl (u1.2.1 0) (u1.2.1 1) shu sfa swr (u1.2.2 1) z_4 (u1.2.1 1) p3 (u1.2.1 0) (u3.2.1 0) H.size (by first | exact hr_th | omega) (by first | exact hr_tp | omega) (by first | exact hr_sz_ | omega) (by first | exact hr_ap | omega) (by first | exact hr_bad | omega) (by first | exact hr_bk | omega) (by first | exact hr_opn | omega) (by first | exact hr_fp | omega) (by first | exact hr_im | omega) (by first | exact hr_nr | omega) (by first | exact hr_nl | omega) (by first | exact hr_sp_ | omega) (by first | exact hr_wtc | omega) (by first | exact hr_wcl | omega) (by first | exact hq1_0 | omega) (by first | exact hq1_1 | omega) (by first | exact hr_shu | omega) (by first | exact hr_sfa | omega) (by first | exact hr_swr | omega) (by omega) (by first | exact hq1_1 | omega) (by first | exact hr_p3 | omega) (by first | exact rgw hq1_0 (by decide) (by decide) | omega) (by first | exact rgw hq3_1 (by decide) (by decide) | omega)) (cwV 5 hts gg_4 rfl rfl rfl (by decide +kernel) ⟨Nat.le_of_ble_eq_true rfl, Nat.le_of_ble_eq_true rfl⟩) ⟨pcW.blind, (va_recv hG.1 hP (ci := 12) (q0 := 7) rfl rfl), pre9⟩ rfl rfl hlv.1 rfl (lv_room (Nat.le_of_ble_eq_true rfl)) dX12_passes_68 ⟨Nat.le_of_ble_eq_true rfl, Nat.le_of_ble_eq_true rfl⟩)) hP hD hS hA hG hT [7, 6] rfl (by decide +kernel) (fun u4 H locs hw4 hq9 hS => ?_)
      obtain ⟨hP, hD⟩ := pd9 [zI m10 (cy 0) 68 f10, zI m23 (cy 0) 2480 f23, zI m24 (cy 0) 2480 f24, zI m25 (cy 0) 20 f25, zI m26 (cy 0) 20 f26, zI m27 (cy 0) 620 (u1.2.2 0), zI m12 (cy 0) 389 wg, zO mm 12 [vI th, vR m1, vI tp, vI sz_, vI ap, vI bad, vI bk, vI opn, vI fp, vR m9, vR m10, vR m11, vR m12, vR m13, vR m14, vR m15, vI im, vI nr, vI nl, vR m19, vR m20, vR m21, vI sp_, vR m23, vR m24, vR m25, vR m26, vR m27, vR m28, vI wtc, vI wcl, vI (u1.2.1 0), vI (u1.2.1 1), vR m33, vI shu, vR m35, vI sfa, vI swr], zI m28 (cy 0) 7 (u4.2.2 0)] hq9
      refine lv_aload_n hx hb dX12_passes_71 rfl (lv_at hlv 3 rfl) ?_
      refine va_get (D := D) (ci := 12) (v := vR m12) (C := RX12) (T := TX12) (N := 38) hx hb hts hi12 hown hG.1 hP 7 rfl rfl 12 (by decide) lf29 (fun _ h9 => h9) rfl dX12_passes_72 ?_
      refine lv_iload hx hb dX12_passes_75 (lv_at hlv 0 rfl) ?_
      refine va_iald hx hb hG.1 hP 6 0 rfl rfl (iI_in (by omega) (by decide)) dX12_passes_77 ?_
      refine lt_nz (i := z_3) (by omega) (fun z_5 hz_5 lz_5 uz_5 => ?_)
      refine lv_aload_n hx hb dX12_passes_78 rfl (lv_at hlv 3 rfl) ?_
      refine lv_iconst (v := iI 5) hx hb dX12_passes_79 (by decide) ?_
      refine lv_iload_n hx hb dX12_passes_80 rfl (lv_at hlv 4 rfl) ?_
      refine lv_imul hx hb dX12_passes_81 ?_
      refine lt_e (e0 := 5 * n) (Int32.ofInt_mul _ _).symm (fun z_6 hz_6 => ?_)
      refine cjr_i [true, false, false, false, false, false, true, false, false] (fun pre9 => (va_runV (As := [vI z_6]) (rest := [vI z_5]) ⟨hx, hb, hml, hown, hts⟩ (m_worked l hl D cy sa mm m1 m9 m10 m11 m12 m13 m14 m15 m19 m20 m21 m23 m24 m25 m26 m27 m28 m33 m35 th tp sz_ ap bad bk opn fp im nr nl sp_ wtc wcl (u1.2.1 0) (u1.2.1 1) shu sfa swr f23 f24 f25 f26 (u1.2.2 0) (u4.2.2 0) z_6 H.size (by first | exact hr_th | omega) (by first | exact hr_tp | omega) (by first | exact hr_sz_ | omega) (by first | exact hr_ap | omega) (by first | exact hr_bad | omega) (by first | exact hr_bk | omega) (by first | exact hr_opn | omega) (by first | exact hr_fp | omega) (by first | exact hr_im | omega) (by first | exact hr_nr | omega) (by first | exact hr_nl | omega) (by first | exact hr_sp_ | omega) (by first | exact hr_wtc | omega) (by first | exact hr_wcl | omega) (by first | exact hq1_0 | omega) (by first | exact hq1_1 | omega) (by first | exact hr_shu | omega) (by first | exact hr_sfa | omega) (by first | exact hr_swr | omega) (by omega) (by omega) hn_li) (cwV 1 hts gg_5 rfl rfl rfl (by decide +kernel) ⟨Nat.le_of_ble_eq_true rfl, Nat.le_of_ble_eq_true rfl⟩) ⟨pcW.blind, (va_recv hG.1 hP (ci := 12) (q0 := 7) rfl rfl), pre9⟩ rfl rfl hlv.1 rfl (lv_room (Nat.le_of_ble_eq_true rfl)) dX12_passes_82 ⟨Nat.le_of_ble_eq_true rfl, Nat.le_of_ble_eq_true rfl⟩)) hP hD hS hA hG hT [7, 1, 2, 3, 4, 5, 8] rfl (by decide +kernel) (fun r5 u5 H locs hw5 hq9 hS => ?_)
      obtain ⟨rfl, hq5_1⟩ := hw5
      obtain ⟨hP, hD⟩ := pd9 [zI m10 (cy 0) 68 f10, zI m12 (cy 0) 389 wg, zO mm 12 [vI th, vR m1, vI tp, vI sz_, vI ap, vI bad, vI bk, vI opn, vI fp, vR m9, vR m10, vR m11, vR m12, vR m13, vR m14, vR m15, vI im, vI nr, vI nl, vR m19, vR m20, vR m21, vI sp_, vR m23, vR m24, vR m25, vR m26, vR m27, vR m28, vI wtc, vI wcl, vI (u1.2.1 0), vI (u1.2.1 1), vR m33, vI shu, vR m35, vI sfa, vI swr], zI m23 (cy 0) 2480 f23, zI m24 (cy 0) 2480 f24, zI m25 (cy 0) 20 f25, zI m26 (cy 0) 20 f26, zI m27 (cy 0) 620 (u5.2.2 0), zI m28 (cy 0) 7 (u4.2.2 0)] hq9
      refine lv_iconst (v := iI 0) hx hb dX12_passes_85 (by decide) ?_
      refine lv_bipush (v := iI 16) hx hb dX12_passes_86 (by decide) ?_
      refine cjr_i [true, true, true, true, true, true, true, true, true] (fun pre9 => (va_runS (As := [vI (u5.2.1 0), vI 0, vI 16]) (rest := [vI z_5]) ⟨hx, hb, hml, hown, hts⟩ (m_held l hl D cy sa (u5.2.1 0) 0 16 H.size (by first | exact hq5_1 | omega) (by show ((-2147483648) : Int) ≤ 0 ∧ (0 : Int) ≤ 2147483647; decide) (by show ((-2147483648) : Int) ≤ 16 ∧ (16 : Int) ≤ 2147483647; decide)) (va_cwS 3 hts gg_6 rfl rfl rfl (by decide +kernel) ⟨Nat.le_of_ble_eq_true rfl, Nat.le_of_ble_eq_true rfl⟩) ⟨pcW.blind, pre9⟩ rfl rfl hlv.1 rfl (lv_room (Nat.le_of_ble_eq_true rfl)) dX12_passes_88 ⟨Nat.le_of_ble_eq_true rfl, Nat.le_of_ble_eq_true rfl⟩)) hP hD hS hA hG hT [] rfl (by decide +kernel) (fun r6 u6 H locs hw6 hq9 hS => ?_)
      obtain ⟨rfl, hq6_1, hq6_2⟩ := hw6
      obtain ⟨hP, hD⟩ := pd9 [zI m10 (cy 0) 68 f10, zI m12 (cy 0) 389 wg, zO mm 12 [vI th, vR m1, vI tp, vI sz_, vI ap, vI bad, vI bk, vI opn, vI fp, vR m9, vR m10, vR m11, vR m12, vR m13, vR m14, vR m15, vI im, vI nr, vI nl, vR m19, vR m20, vR m21, vI sp_, vR m23, vR m24, vR m25, vR m26, vR m27, vR m28, vI wtc, vI wcl, vI (u1.2.1 0), vI (u1.2.1 1), vR m33, vI shu, vR m35, vI sfa, vI swr], zI m23 (cy 0) 2480 f23, zI m24 (cy 0) 2480 f24, zI m25 (cy 0) 20 f25, zI m26 (cy 0) 20 f26, zI m27 (cy 0) 620 (u5.2.2 0), zI m28 (cy 0) 7 (u4.2.2 0)] hq9
      refine lv_imul hx hb dX12_passes_91 ?_
      refine lt_z (fun z_7 ez_7 lz_7 hz_7 => ?_)
      refine lv_bipush (v := iI 16) hx hb dX12_passes_92 (by decide) ?_
      refine lv_idiv hx hb dX12_passes_94 (fun q => absurd ((iI_eq (a := 16) (b := 0) (by omega) (by omega)).mp q) (by omega)) ?_
      refine lt_z (fun z_8 ez_8 lz_8 hz_8 => ?_)
      refine lv_istore (lv' := [(9, vI z_8), (8, vI z_3), (7, vI q7), (6, vI q6), (0, vR mm), (1, vI n), (2, vI p1), (3, vI p2), (4, vI p3), (5, vI p4)]) hx hb dX12_passes_95 hlv (by decide) rfl (fun ls hlv => ?_)
      refine lv_iload hx hb dX12_passes_97 (lv_at hlv 0 rfl) ?_
      refine iz_ne (tgt := 105) hx hb dX12_passes_99 (by decide) (by omega) (fun c_9 => ?_) (fun c_9 => ?_)
      · refine lv_aload_n hx hb dX12_passes_105 rfl (lv_at hlv 4 rfl) ?_
        refine lv_iconst (v := iI 5) hx hb dX12_passes_106 (by decide) ?_
        refine lv_iload_n hx hb dX12_passes_107 rfl (lv_at hlv 5 rfl) ?_
        refine lv_imul hx hb dX12_passes_108 ?_
        refine lt_e (e0 := 5 * n) (Int32.ofInt_mul _ _).symm (fun z_10 hz_10 => ?_)
        refine lv_iconst (v := iI 1) hx hb dX12_passes_109 (by decide) ?_
        refine lv_iadd hx hb dX12_passes_110 ?_
        refine lt_e (e0 := z_10 + 1) (Int32.ofInt_add _ _).symm (fun z_11 hz_11 => ?_)
        refine cjr_i [true, true, false, false, false, false, false, false, false] (fun pre9 => (va_runV (As := [vI z_11]) (rest := []) ⟨hx, hb, hml, hown, hts⟩ (m_worked l hl D cy sa mm m1 m9 m10 m11 m12 m13 m14 m15 m19 m20 m21 m23 m24 m25 m26 m27 m28 m33 m35 th tp sz_ ap bad bk opn fp im nr nl sp_ wtc wcl (u1.2.1 0) (u1.2.1 1) shu sfa swr f23 f24 f25 f26 (u5.2.2 0) (u4.2.2 0) z_11 H.size (by first | exact hr_th | omega) (by first | exact hr_tp | omega) (by first | exact hr_sz_ | omega) (by first | exact hr_ap | omega) (by first | exact hr_bad | omega) (by first | exact hr_bk | omega) (by first | exact hr_opn | omega) (by first | exact hr_fp | omega) (by first | exact hr_im | omega) (by first | exact hr_nr | omega) (by first | exact hr_nl | omega) (by first | exact hr_sp_ | omega) (by first | exact hr_wtc | omega) (by first | exact hr_wcl | omega) (by first | exact hq1_0 | omega) (by first | exact hq1_1 | omega) (by first | exact hr_shu | omega) (by first | exact hr_sfa | omega) (by first | exact hr_swr | omega) (by omega) (by omega) hn_li) (cwV 1 hts gg_5 rfl rfl rfl (by decide +kernel) ⟨Nat.le_of_ble_eq_true rfl, Nat.le_of_ble_eq_true rfl⟩) ⟨pcW.blind, (va_recv hG.1 hP (ci := 12) (q0 := 2) rfl rfl), pre9⟩ rfl rfl hlv.1 rfl (lv_room (Nat.le_of_ble_eq_true rfl)) dX12_passes_111 ⟨Nat.le_of_ble_eq_true rfl, Nat.le_of_ble_eq_true rfl⟩)) hP hD hS hA hG hT [2, 3, 4, 5, 6, 7, 8] rfl (by decide +kernel) (fun r7 u7 H locs hw7 hq9 hS => ?_)
        obtain ⟨rfl, hq7_1⟩ := hw7
        obtain ⟨hP, hD⟩ := pd9 [zI m10 (cy 0) 68 f10, zI m12 (cy 0) 389 wg, zO mm 12 [vI th, vR m1, vI tp, vI sz_, vI ap, vI bad, vI bk, vI opn, vI fp, vR m9, vR m10, vR m11, vR m12, vR m13, vR m14, vR m15, vI im, vI nr, vI nl, vR m19, vR m20, vR m21, vI sp_, vR m23, vR m24, vR m25, vR m26, vR m27, vR m28, vI wtc, vI wcl, vI (u1.2.1 0), vI (u1.2.1 1), vR m33, vI shu, vR m35, vI sfa, vI swr], zI m23 (cy 0) 2480 f23, zI m24 (cy 0) 2480 f24, zI m25 (cy 0) 20 f25, zI m26 (cy 0) 20 f26, zI m27 (cy 0) 620 (u7.2.2 0), zI m28 (cy 0) 7 (u4.2.2 0)] hq9
        refine lv_istore (lv' := [(10, vI (u7.2.1 0)), (9, vI z_8), (8, vI z_3), (7, vI q7), (6, vI q6), (0, vR mm), (1, vI n), (2, vI p1), (3, vI p2), (4, vI p3), (5, vI p4)]) hx hb dX12_passes_114 hlv (by decide) rfl (fun ls hlv => ?_)
        refine lv_iconst (v := iI 0) hx hb dX12_passes_116 (by decide) ?_
        refine lv_istore (lv' := [(11, vI 0), (10, vI (u7.2.1 0)), (9, vI z_8), (8, vI z_3), (7, vI q7), (6, vI q6), (0, vR mm), (1, vI n), (2, vI p1), (3, vI p2), (4, vI p3), (5, vI p4)]) hx hb dX12_passes_117 hlv (by decide) rfl (fun ls hlv => ?_)
        refine (?_ : ∀ (fu : Nat) (r6 : Int) (r11 : Int) (wh : Nat → Int32) (kh : Nat → Int32) (nh : Nat → Int32) (H : Heap) (locs : List Loc) (ls : Array Slot), 9 - r11 < (fu : Int) → ((-2147483648) ≤ r6 ∧ r6 ≤ 2147483647) → (0 ≤ r11 ∧ r11 ≤ 9) → SQ qs pm wh → va_P D vwCl [zI m10 (cy 0) 68 f10, zI m12 (cy 0) 389 wh, zO mm 12 [vI th, vR m1, vI tp, vI sz_, vI ap, vI bad, vI bk, vI opn, vI fp, vR m9, vR m10, vR m11, vR m12, vR m13, vR m14, vR m15, vI im, vI nr, vI nl, vR m19, vR m20, vR m21, vI sp_, vR m23, vR m24, vR m25, vR m26, vR m27, vR m28, vI wtc, vI wcl, vI (u1.2.1 0), vI (u1.2.1 1), vR m33, vI shu, vR m35, vI sfa, vI swr], zI m23 (cy 0) 2480 f23, zI m24 (cy 0) 2480 f24, zI m25 (cy 0) 20 f25, zI m26 (cy 0) 20 f26, zI m27 (cy 0) 620 kh, zI m28 (cy 0) 7 nh] H → va_D A [zI m10 (cy 0) 68 f10, zI m12 (cy 0) 389 wh, zO mm 12 [vI th, vR m1, vI tp, vI sz_, vI ap, vI bad, vI bk, vI opn, vI fp, vR m9, vR m10, vR m11, vR m12, vR m13, vR m14, vR m15, vI im, vI nr, vI nl, vR m19, vR m20, vR m21, vI sp_, vR m23, vR m24, vR m25, vR m26, vR m27, vR m28, vI wtc, vI wcl, vI (u1.2.1 0), vI (u1.2.1 1), vR m33, vI shu, vR m35, vI sfa, vI swr], zI m23 (cy 0) 2480 f23, zI m24 (cy 0) 2480 f24, zI m25 (cy 0) 20 f25, zI m26 (cy 0) 20 f26, zI m27 (cy 0) 620 kh, zI m28 (cy 0) 7 nh] → va_S A s.heap H locs → lv_has ls 13 [(11, vI r11), (10, vI (u7.2.1 0)), (9, vI z_8), (8, vI z_3), (7, vI q7), (6, vI r6), (0, vR mm), (1, vI n), (2, vI p1), (3, vI p2), (4, vI p3), (5, vI p4)] → W p l e _ s m _ below meth c H locs _ _ _ (F0 m 119 ls [])) (((9 - 0) + 1 : Int)).toNat q6 0 wg (u7.2.2 0) (u4.2.2 0) _ _ _ (by omega) (by first | exact hl6_0 | omega) (by show (0 : Int) ≤ 0 ∧ (0 : Int) ≤ 9; decide) hiwg hP hD hS hlv
        clear hP hD hS hlv
        intro fu
        induction fu with
        | zero => intro r6 r11 wh kh nh H locs ls hm119 hl119_0 hl119_1 hiwh hP hD hS hlv; omega
        | succ fu ih119 =>
          intro r6 r11 wh kh nh H locs ls hm119 hl119_0 hl119_1 hiwh hP hD hS hlv
          refine lv_iload hx hb dX12_passes_119 (lv_at hlv 0 rfl) ?_
          refine lv_aload_n hx hb dX12_passes_121 rfl (lv_at hlv 6 rfl) ?_
          refine va_get (D := D) (ci := 12) (v := vR m12) (C := RX12) (T := TX12) (N := 38) hx hb hts hi12 hown hG.1 hP 2 rfl rfl 12 (by decide) lf29 (fun _ h9 => h9) rfl dX12_passes_122 ?_
          refine lv_sipush (v := iI 215) hx hb dX12_passes_125 (by decide) ?_
          refine va_iald hx hb hG.1 hP 1 0 rfl rfl (iI_in (by omega) (by decide)) dX12_passes_128 ?_
          refine lt_nz (i := 215) (by omega) (fun z_12 hz_12 lz_12 uz_12 => ?_)
          have hz_12 : z_12 = nz wh 215 := hz_12
          have hbz_12_7 := (hiwh.1).2.2.1
          refine ir_ge (tgt := 276) hx hb dX12_passes_129 (by decide) (by first | exact rgw hl119_1 (by decide) (by decide) | omega) (by omega) (fun c_13 => ?_) (fun c_13 => ?_)
          · refine lv_aload_n hx hb dX12_passes_276 rfl (lv_at hlv 6 rfl) ?_
            refine va_get (D := D) (ci := 12) (v := vR m12) (C := RX12) (T := TX12) (N := 38) hx hb hts hi12 hown hG.1 hP 2 rfl rfl 12 (by decide) lf29 (fun _ h9 => h9) rfl dX12_passes_277 ?_
            refine lv_iload hx hb dX12_passes_280 (lv_at hlv 3 rfl) ?_
            refine lv_dup2_11 hx hb dX12_passes_282 rfl rfl ?_
            refine va_iald hx hb hG.1 hP 1 0 rfl rfl (iI_in (by omega) (by decide)) dX12_passes_283 ?_
            refine lt_nz (i := z_3) (by omega) (fun z_14 hz_14 lz_14 uz_14 => ?_)
            refine lv_iload hx hb dX12_passes_284 (lv_at hlv 2 rfl) ?_
            refine lv_isub hx hb dX12_passes_286 ?_
            refine lt_z (fun z_15 ez_15 lz_15 hz_15 => ?_)
            refine va_iast hx hb hG.1 hP hD hS 1 0 rfl rfl (iI_in (by omega) (by decide)) dX12_passes_287 (fun H locs hP hD hS => ?_)
            obtain ⟨f_16, hdf_16, hP, hD⟩ := pe9e (fun f_16 => [zI m10 (cy 0) 68 f10, zI m12 (cy 0) 389 f_16, zO mm 12 [vI th, vR m1, vI tp, vI sz_, vI ap, vI bad, vI bk, vI opn, vI fp, vR m9, vR m10, vR m11, vR m12, vR m13, vR m14, vR m15, vI im, vI nr, vI nl, vR m19, vR m20, vR m21, vI sp_, vR m23, vR m24, vR m25, vR m26, vR m27, vR m28, vI wtc, vI wcl, vI (u1.2.1 0), vI (u1.2.1 1), vR m33, vI shu, vR m35, vI sfa, vI swr], zI m23 (cy 0) 2480 f23, zI m24 (cy 0) 2480 f24, zI m25 (cy 0) 20 f25, zI m26 (cy 0) 20 f26, zI m27 (cy 0) 620 kh, zI m28 (cy 0) 7 nh]) (upd wh (iI z_3).toNatClampNeg (iI z_15)) hP hD
            have hif_16 : SQ qs pm f_16 := ⟨SI.wo (hiwh.1) hdf_16 (by omega) (by omega) (by omega) (by omega), (SQ.fr hiwh.2 hdf_16 (by omega) (by omega))⟩
            refine lv_aload_n hx hb dX12_passes_288 rfl (lv_at hlv 6 rfl) ?_
            refine va_get (D := D) (ci := 12) (v := vI (u1.2.1 0)) (C := RX12) (T := TX12) (N := 38) hx hb hts hi12 hown hG.1 hP 2 rfl rfl 31 (by decide) lf344 (fun _ h9 => h9) rfl dX12_passes_289 ?_
            refine lv_iconst (v := iI 1) hx hb dX12_passes_292 (by decide) ?_
            refine lv_iadd hx hb dX12_passes_293 ?_
            refine lt_e (e0 := (u1.2.1 0) + 1) (Int32.ofInt_add _ _).symm (fun z_17 hz_17 => ?_)
            refine lv_aload_n hx hb dX12_passes_294 rfl (lv_at hlv 6 rfl) ?_
            refine va_get (D := D) (ci := 12) (v := vR m10) (C := RX12) (T := TX12) (N := 38) hx hb hts hi12 hown hG.1 hP 2 rfl rfl 10 (by decide) lf23 (fun _ h9 => h9) rfl dX12_passes_295 ?_
            refine lv_iconst (v := iI 1) hx hb dX12_passes_298 (by decide) ?_
            refine va_iald hx hb hG.1 hP 0 0 rfl rfl (iI_in (by omega) (by decide)) dX12_passes_299 ?_
            refine lt_nz (i := 1) (by omega) (fun z_18 hz_18 lz_18 uz_18 => ?_)
            have hz_18 : z_18 = nz f10 1 := hz_18
            have hbz_18_23 := hq1_2.1.2.1
            have hbz_18_24 := hq1_2.2.1
            have hbz_18_25 := hq1_2.2.2
            refine ir_ge (tgt := 310) hx hb dX12_passes_300 (by decide) (by omega) (by omega) (fun c_19 => ?_) (fun c_19 => ?_)
            · refine lv_iconst (v := iI 0) hx hb dX12_passes_310 (by decide) ?_
              refine lv_istore (lv' := [(11, vI 0), (10, vI (u7.2.1 0)), (9, vI z_8), (8, vI z_3), (7, vI q7), (6, vI r6), (0, vR mm), (1, vI n), (2, vI p1), (3, vI p2), (4, vI p3), (5, vI p4)]) hx hb dX12_passes_311 hlv (by decide) rfl (fun ls hlv => ?_)
              refine lv_iload hx hb dX12_passes_313 (lv_at hlv 0 rfl) ?_
              refine iz_le (tgt := 342) hx hb dX12_passes_315 (by decide) (by show ((-2147483648) : Int) ≤ 0 ∧ (0 : Int) ≤ 2147483647; decide) (fun c_20 => ?_) (fun c_20 => by exfalso; omega)
              refine lv_aload_n hx hb dX12_passes_342 rfl (lv_at hlv 6 rfl) ?_
              refine va_get (D := D) (ci := 12) (v := vR m12) (C := RX12) (T := TX12) (N := 38) hx hb hts hi12 hown hG.1 hP 2 rfl rfl 12 (by decide) lf29 (fun _ h9 => h9) rfl dX12_passes_343 ?_
              refine lv_sipush (v := iI 387) hx hb dX12_passes_346 (by decide) ?_
              refine lv_dup2_11 hx hb dX12_passes_349 rfl rfl ?_
              refine va_iald hx hb hG.1 hP 1 0 rfl rfl (iI_in (by omega) (by decide)) dX12_passes_350 ?_
              refine lt_nz (i := 387) (by omega) (fun z_21 hz_21 lz_21 uz_21 => ?_)
              have hz_21 : z_21 = nz f_16 387 := hz_21
              refine lv_iload hx hb dX12_passes_351 (lv_at hlv 2 rfl) ?_
              refine lv_iload hx hb dX12_passes_353 (lv_at hlv 0 rfl) ?_
              refine lv_isub hx hb dX12_passes_355 ?_
              refine lt_e (e0 := z_8 - 0) (Int32.ofInt_sub _ _).symm (fun z_22 hz_22 => ?_)
              refine lv_iadd hx hb dX12_passes_356 ?_
              refine lt_z (fun z_23 ez_23 lz_23 hz_23 => ?_)
              refine va_iast hx hb hG.1 hP hD hS 1 0 rfl rfl (iI_in (by omega) (by decide)) dX12_passes_357 (fun H locs hP hD hS => ?_)
              obtain ⟨f_24, hdf_24, hP, hD⟩ := pe9e (fun f_24 => [zI m10 (cy 0) 68 f10, zI m12 (cy 0) 389 f_24, zO mm 12 [vI th, vR m1, vI tp, vI sz_, vI ap, vI bad, vI bk, vI opn, vI fp, vR m9, vR m10, vR m11, vR m12, vR m13, vR m14, vR m15, vI im, vI nr, vI nl, vR m19, vR m20, vR m21, vI sp_, vR m23, vR m24, vR m25, vR m26, vR m27, vR m28, vI wtc, vI wcl, vI (u1.2.1 0), vI (u1.2.1 1), vR m33, vI shu, vR m35, vI sfa, vI swr], zI m23 (cy 0) 2480 f23, zI m24 (cy 0) 2480 f24, zI m25 (cy 0) 20 f25, zI m26 (cy 0) 20 f26, zI m27 (cy 0) 620 kh, zI m28 (cy 0) 7 nh]) (upd f_16 (iI 387).toNatClampNeg (iI z_23)) hP hD
              have hif_24 : SQ qs pm f_24 := ⟨SI.wo (hif_16.1) hdf_24 (by omega) (by omega) (by omega) (by omega), (SQ.fr hif_16.2 hdf_24 (by omega) (by omega))⟩
              obtain ⟨z_25, hz_25⟩ : ∃ z : Int, z = q7 + 1 := ⟨_, rfl⟩
              refine lv_iinc (v := iI z_25) (lv' := [(7, vI z_25), (11, vI 0), (10, vI (u7.2.1 0)), (9, vI z_8), (8, vI z_3), (6, vI r6), (0, vR mm), (1, vI n), (2, vI p1), (3, vI p2), (4, vI p3), (5, vI p4)]) hx hb dX12_passes_358 hlv (k := 4) rfl (by rw [hz_25]; exact (Int32.ofInt_add _ _).symm) (by decide) rfl (fun ls hlv => ?_)
              refine lv_goto (tgt := 6) hx hb dX12_passes_361 (by decide) ?_
              exact ih6 r6 z_25 (u1.2.1 0) (u1.2.1 1) f_24 kh nh H locs ls (by omega) (by first | exact hl119_0 | omega) (by omega) (by first | exact hq1_0 | omega) (by first | exact hq1_1 | omega) hif_24 (hP.sub [2, 0, 1, 3, 4, 5, 6, 7, 8] rfl) (hD.sub [2, 0, 1, 3, 4, 5, 6, 7, 8] (by decide) rfl) hS (lv_sub hlv [0, 5, 6, 7, 8, 9, 10, 11] rfl)
            · refine lv_iload hx hb dX12_passes_303 (lv_at hlv 2 rfl) ?_
              refine lv_iconst (v := iI 2) hx hb dX12_passes_305 (by decide) ?_
              refine lv_idiv hx hb dX12_passes_306 (fun q => absurd ((iI_eq (a := 2) (b := 0) (by omega) (by omega)).mp q) (by omega)) ?_
              refine lt_z (fun z_26 ez_26 lz_26 hz_26 => ?_)
              refine lv_goto (tgt := 311) hx hb dX12_passes_307 (by decide) ?_
              refine lv_istore (lv' := [(11, vI z_26), (10, vI (u7.2.1 0)), (9, vI z_8), (8, vI z_3), (7, vI q7), (6, vI r6), (0, vR mm), (1, vI n), (2, vI p1), (3, vI p2), (4, vI p3), (5, vI p4)]) hx hb dX12_passes_311 hlv (by decide) rfl (fun ls hlv => ?_)
              refine lv_iload hx hb dX12_passes_313 (lv_at hlv 0 rfl) ?_
              refine iz_le (tgt := 342) hx hb dX12_passes_315 (by decide) (by omega) (fun c_27 => ?_) (fun c_27 => ?_)
              · refine lv_aload_n hx hb dX12_passes_342 rfl (lv_at hlv 6 rfl) ?_
                refine va_get (D := D) (ci := 12) (v := vR m12) (C := RX12) (T := TX12) (N := 38) hx hb hts hi12 hown hG.1 hP 2 rfl rfl 12 (by decide) lf29 (fun _ h9 => h9) rfl dX12_passes_343 ?_
                refine lv_sipush (v := iI 387) hx hb dX12_passes_346 (by decide) ?_
                refine lv_dup2_11 hx hb dX12_passes_349 rfl rfl ?_
                refine va_iald hx hb hG.1 hP 1 0 rfl rfl (iI_in (by omega) (by decide)) dX12_passes_350 ?_
                refine lt_nz (i := 387) (by omega) (fun z_28 hz_28 lz_28 uz_28 => ?_)
                have hz_28 : z_28 = nz f_16 387 := hz_28
                refine lv_iload hx hb dX12_passes_351 (lv_at hlv 2 rfl) ?_
                refine lv_iload hx hb dX12_passes_353 (lv_at hlv 0 rfl) ?_
                refine lv_isub hx hb dX12_passes_355 ?_
                refine lt_z (fun z_29 ez_29 lz_29 hz_29 => ?_)
                refine lv_iadd hx hb dX12_passes_356 ?_
                refine lt_z (fun z_30 ez_30 lz_30 hz_30 => ?_)
                refine va_iast hx hb hG.1 hP hD hS 1 0 rfl rfl (iI_in (by omega) (by decide)) dX12_passes_357 (fun H locs hP hD hS => ?_)
                obtain ⟨f_31, hdf_31, hP, hD⟩ := pe9e (fun f_31 => [zI m10 (cy 0) 68 f10, zI m12 (cy 0) 389 f_31, zO mm 12 [vI th, vR m1, vI tp, vI sz_, vI ap, vI bad, vI bk, vI opn, vI fp, vR m9, vR m10, vR m11, vR m12, vR m13, vR m14, vR m15, vI im, vI nr, vI nl, vR m19, vR m20, vR m21, vI sp_, vR m23, vR m24, vR m25, vR m26, vR m27, vR m28, vI wtc, vI wcl, vI (u1.2.1 0), vI (u1.2.1 1), vR m33, vI shu, vR m35, vI sfa, vI swr], zI m23 (cy 0) 2480 f23, zI m24 (cy 0) 2480 f24, zI m25 (cy 0) 20 f25, zI m26 (cy 0) 20 f26, zI m27 (cy 0) 620 kh, zI m28 (cy 0) 7 nh]) (upd f_16 (iI 387).toNatClampNeg (iI z_30)) hP hD
                have hif_31 : SQ qs pm f_31 := ⟨SI.wo (hif_16.1) hdf_31 (by omega) (by omega) (by omega) (by omega), (SQ.fr hif_16.2 hdf_31 (by omega) (by omega))⟩
                obtain ⟨z_32, hz_32⟩ : ∃ z : Int, z = q7 + 1 := ⟨_, rfl⟩
                refine lv_iinc (v := iI z_32) (lv' := [(7, vI z_32), (11, vI z_26), (10, vI (u7.2.1 0)), (9, vI z_8), (8, vI z_3), (6, vI r6), (0, vR mm), (1, vI n), (2, vI p1), (3, vI p2), (4, vI p3), (5, vI p4)]) hx hb dX12_passes_358 hlv (k := 4) rfl (by rw [hz_32]; exact (Int32.ofInt_add _ _).symm) (by decide) rfl (fun ls hlv => ?_)
                refine lv_goto (tgt := 6) hx hb dX12_passes_361 (by decide) ?_
                exact ih6 r6 z_32 (u1.2.1 0) (u1.2.1 1) f_31 kh nh H locs ls (by omega) (by first | exact hl119_0 | omega) (by omega) (by first | exact hq1_0 | omega) (by first | exact hq1_1 | omega) hif_31 (hP.sub [2, 0, 1, 3, 4, 5, 6, 7, 8] rfl) (hD.sub [2, 0, 1, 3, 4, 5, 6, 7, 8] (by decide) rfl) hS (lv_sub hlv [0, 5, 6, 7, 8, 9, 10, 11] rfl)
              · refine lv_aload_n hx hb dX12_passes_318 rfl (lv_at hlv 6 rfl) ?_
                refine va_get (D := D) (ci := 12) (v := vR m12) (C := RX12) (T := TX12) (N := 38) hx hb hts hi12 hown hG.1 hP 2 rfl rfl 12 (by decide) lf29 (fun _ h9 => h9) rfl dX12_passes_319 ?_
                refine lv_bipush (v := iI 96) hx hb dX12_passes_322 (by decide) ?_
                refine lv_iload hx hb dX12_passes_324 (lv_at hlv 4 rfl) ?_
                refine lv_aload_n hx hb dX12_passes_326 rfl (lv_at hlv 6 rfl) ?_
                refine va_get (D := D) (ci := 12) (v := vI (u1.2.1 0)) (C := RX12) (T := TX12) (N := 38) hx hb hts hi12 hown hG.1 hP 2 rfl rfl 31 (by decide) lf344 (fun _ h9 => h9) rfl dX12_passes_327 ?_
                refine lv_iconst (v := iI 1) hx hb dX12_passes_330 (by decide) ?_
                refine lv_iadd hx hb dX12_passes_331 ?_
                refine lt_e (e0 := (u1.2.1 0) + 1) (Int32.ofInt_add _ _).symm (fun z_33 hz_33 => ?_)
                refine cjr_i [true, true, true, true, true, true, true, true, true] (fun pre9 => (va_runS (As := [vI q7, vI z_33]) (rest := [vI 96, vR m12]) ⟨hx, hb, hml, hown, hts⟩ (m_at l hl D cy sa q7 z_33 H.size (by omega) (by omega)) (va_cwS 2 hts gg_2 rfl rfl rfl (by decide +kernel) ⟨Nat.le_of_ble_eq_true rfl, Nat.le_of_ble_eq_true rfl⟩) ⟨pcW.blind, pre9⟩ rfl rfl hlv.1 rfl (lv_room (Nat.le_of_ble_eq_true rfl)) dX12_passes_332 ⟨Nat.le_of_ble_eq_true rfl, Nat.le_of_ble_eq_true rfl⟩)) hP hD hS hA hG hT [] rfl (by decide +kernel) (fun r8 u8 H locs hw8 hq9 hS => ?_)
                obtain ⟨rfl, hq8_1, hq8_2⟩ := hw8
                obtain ⟨hP, hD⟩ := pd9 [zI m10 (cy 0) 68 f10, zI m12 (cy 0) 389 f_16, zO mm 12 [vI th, vR m1, vI tp, vI sz_, vI ap, vI bad, vI bk, vI opn, vI fp, vR m9, vR m10, vR m11, vR m12, vR m13, vR m14, vR m15, vI im, vI nr, vI nl, vR m19, vR m20, vR m21, vI sp_, vR m23, vR m24, vR m25, vR m26, vR m27, vR m28, vI wtc, vI wcl, vI (u1.2.1 0), vI (u1.2.1 1), vR m33, vI shu, vR m35, vI sfa, vI swr], zI m23 (cy 0) 2480 f23, zI m24 (cy 0) 2480 f24, zI m25 (cy 0) 20 f25, zI m26 (cy 0) 20 f26, zI m27 (cy 0) 620 kh, zI m28 (cy 0) 7 nh] hq9
                refine lv_iadd hx hb dX12_passes_335 ?_
                refine lt_e (e0 := 96 + (u8.2.1 0)) (Int32.ofInt_add _ _).symm (fun z_34 hz_34 => ?_)
                refine lv_dup2_11 hx hb dX12_passes_336 rfl rfl ?_
                refine va_iald hx hb hG.1 hP 1 0 rfl rfl (iI_in (by omega) (by decide)) dX12_passes_337 ?_
                refine lt_nz (i := z_34) (by omega) (fun z_35 hz_35 lz_35 uz_35 => ?_)
                refine lv_iload hx hb dX12_passes_338 (lv_at hlv 0 rfl) ?_
                refine lv_iadd hx hb dX12_passes_340 ?_
                refine lt_z (fun z_36 ez_36 lz_36 hz_36 => ?_)
                refine va_iast hx hb hG.1 hP hD hS 1 0 rfl rfl (iI_in (by omega) (by decide)) dX12_passes_341 (fun H locs hP hD hS => ?_)
                obtain ⟨f_37, hdf_37, hP, hD⟩ := pe9e (fun f_37 => [zI m10 (cy 0) 68 f10, zI m12 (cy 0) 389 f_37, zO mm 12 [vI th, vR m1, vI tp, vI sz_, vI ap, vI bad, vI bk, vI opn, vI fp, vR m9, vR m10, vR m11, vR m12, vR m13, vR m14, vR m15, vI im, vI nr, vI nl, vR m19, vR m20, vR m21, vI sp_, vR m23, vR m24, vR m25, vR m26, vR m27, vR m28, vI wtc, vI wcl, vI (u1.2.1 0), vI (u1.2.1 1), vR m33, vI shu, vR m35, vI sfa, vI swr], zI m23 (cy 0) 2480 f23, zI m24 (cy 0) 2480 f24, zI m25 (cy 0) 20 f25, zI m26 (cy 0) 20 f26, zI m27 (cy 0) 620 kh, zI m28 (cy 0) 7 nh]) (upd f_16 (iI z_34).toNatClampNeg (iI z_36)) hP hD
                have hif_37 : SQ qs pm f_37 := ⟨SI.wo (hif_16.1) hdf_37 (by omega) (by omega) (by omega) (by omega), (SQ.fr hif_16.2 hdf_37 (by omega) (by omega))⟩
                refine lv_aload_n hx hb dX12_passes_342 rfl (lv_at hlv 6 rfl) ?_
                refine va_get (D := D) (ci := 12) (v := vR m12) (C := RX12) (T := TX12) (N := 38) hx hb hts hi12 hown hG.1 hP 2 rfl rfl 12 (by decide) lf29 (fun _ h9 => h9) rfl dX12_passes_343 ?_
                refine lv_sipush (v := iI 387) hx hb dX12_passes_346 (by decide) ?_
                refine lv_dup2_11 hx hb dX12_passes_349 rfl rfl ?_
                refine va_iald hx hb hG.1 hP 1 0 rfl rfl (iI_in (by omega) (by decide)) dX12_passes_350 ?_
                refine lt_nz (i := 387) (by omega) (fun z_38 hz_38 lz_38 uz_38 => ?_)
                have hz_38 : z_38 = nz f_37 387 := hz_38
                refine lv_iload hx hb dX12_passes_351 (lv_at hlv 2 rfl) ?_
                refine lv_iload hx hb dX12_passes_353 (lv_at hlv 0 rfl) ?_
                refine lv_isub hx hb dX12_passes_355 ?_
                refine lt_z (fun z_39 ez_39 lz_39 hz_39 => ?_)
                refine lv_iadd hx hb dX12_passes_356 ?_
                refine lt_z (fun z_40 ez_40 lz_40 hz_40 => ?_)
                refine va_iast hx hb hG.1 hP hD hS 1 0 rfl rfl (iI_in (by omega) (by decide)) dX12_passes_357 (fun H locs hP hD hS => ?_)
                obtain ⟨f_41, hdf_41, hP, hD⟩ := pe9e (fun f_41 => [zI m10 (cy 0) 68 f10, zI m12 (cy 0) 389 f_41, zO mm 12 [vI th, vR m1, vI tp, vI sz_, vI ap, vI bad, vI bk, vI opn, vI fp, vR m9, vR m10, vR m11, vR m12, vR m13, vR m14, vR m15, vI im, vI nr, vI nl, vR m19, vR m20, vR m21, vI sp_, vR m23, vR m24, vR m25, vR m26, vR m27, vR m28, vI wtc, vI wcl, vI (u1.2.1 0), vI (u1.2.1 1), vR m33, vI shu, vR m35, vI sfa, vI swr], zI m23 (cy 0) 2480 f23, zI m24 (cy 0) 2480 f24, zI m25 (cy 0) 20 f25, zI m26 (cy 0) 20 f26, zI m27 (cy 0) 620 kh, zI m28 (cy 0) 7 nh]) (upd f_37 (iI 387).toNatClampNeg (iI z_40)) hP hD
                have hif_41 : SQ qs pm f_41 := ⟨SI.wo (hif_37.1) hdf_41 (by omega) (by omega) (by omega) (by omega), (SQ.fr hif_37.2 hdf_41 (by omega) (by omega))⟩
                obtain ⟨z_42, hz_42⟩ : ∃ z : Int, z = q7 + 1 := ⟨_, rfl⟩
                refine lv_iinc (v := iI z_42) (lv' := [(7, vI z_42), (11, vI z_26), (10, vI (u7.2.1 0)), (9, vI z_8), (8, vI z_3), (6, vI r6), (0, vR mm), (1, vI n), (2, vI p1), (3, vI p2), (4, vI p3), (5, vI p4)]) hx hb dX12_passes_358 hlv (k := 4) rfl (by rw [hz_42]; exact (Int32.ofInt_add _ _).symm) (by decide) rfl (fun ls hlv => ?_)
                refine lv_goto (tgt := 6) hx hb dX12_passes_361 (by decide) ?_
                exact ih6 r6 z_42 (u1.2.1 0) (u1.2.1 1) f_41 kh nh H locs ls (by omega) (by first | exact hl119_0 | omega) (by omega) (by first | exact hq1_0 | omega) (by first | exact hq1_1 | omega) hif_41 (hP.sub [2, 0, 1, 3, 4, 5, 6, 7, 8] rfl) (hD.sub [2, 0, 1, 3, 4, 5, 6, 7, 8] (by decide) rfl) hS (lv_sub hlv [0, 5, 6, 7, 8, 9, 10, 11] rfl)
          · refine lv_aload_n hx hb dX12_passes_132 rfl (lv_at hlv 6 rfl) ?_
            refine va_get (D := D) (ci := 12) (v := vR m12) (C := RX12) (T := TX12) (N := 38) hx hb hts hi12 hown hG.1 hP 2 rfl rfl 12 (by decide) lf29 (fun _ h9 => h9) rfl dX12_passes_133 ?_
            refine lv_sipush (v := iI 216) hx hb dX12_passes_136 (by decide) ?_
            refine lv_iload hx hb dX12_passes_139 (lv_at hlv 0 rfl) ?_
            refine lv_iadd hx hb dX12_passes_141 ?_
            refine lt_e (e0 := 216 + r11) (Int32.ofInt_add _ _).symm (fun z_43 hz_43 => ?_)
            refine va_iald hx hb hG.1 hP 1 0 rfl rfl (iI_in (by omega) (by decide)) dX12_passes_142 ?_
            refine lt_nz (i := z_43) (by omega) (fun z_44 hz_44 lz_44 uz_44 => ?_)
            refine lv_iload hx hb dX12_passes_143 (lv_at hlv 4 rfl) ?_
            refine ir_ne (tgt := 270) hx hb dX12_passes_145 (by decide) (by omega) (by first | exact rgw hl6_1 (by decide) (by decide) | omega) (fun c_45 => ?_) (fun c_45 => ?_)
            · obtain ⟨z_46, hz_46⟩ : ∃ z : Int, z = r11 + 1 := ⟨_, rfl⟩
              refine lv_iinc (v := iI z_46) (lv' := [(11, vI z_46), (10, vI (u7.2.1 0)), (9, vI z_8), (8, vI z_3), (7, vI q7), (6, vI r6), (0, vR mm), (1, vI n), (2, vI p1), (3, vI p2), (4, vI p3), (5, vI p4)]) hx hb dX12_passes_270 hlv (k := 0) rfl (by rw [hz_46]; exact (Int32.ofInt_add _ _).symm) (by decide) rfl (fun ls hlv => ?_)
              refine lv_goto (tgt := 119) hx hb dX12_passes_273 (by decide) ?_
              exact ih119 r6 z_46 wh kh nh H locs ls (by omega) (by first | exact hl119_0 | omega) (by omega) hiwh (hP.sub [0, 1, 2, 3, 4, 5, 6, 7, 8] rfl) (hD.sub [0, 1, 2, 3, 4, 5, 6, 7, 8] (by decide) rfl) hS (lv_sub hlv [0, 1, 2, 3, 4, 5, 6, 7, 8, 9, 10, 11] rfl)
            · refine lv_aload_n hx hb dX12_passes_148 rfl (lv_at hlv 6 rfl) ?_
              refine va_get (D := D) (ci := 12) (v := vR m12) (C := RX12) (T := TX12) (N := 38) hx hb hts hi12 hown hG.1 hP 2 rfl rfl 12 (by decide) lf29 (fun _ h9 => h9) rfl dX12_passes_149 ?_
              refine lv_sipush (v := iI 225) hx hb dX12_passes_152 (by decide) ?_
              refine lv_iload hx hb dX12_passes_155 (lv_at hlv 0 rfl) ?_
              refine lv_iadd hx hb dX12_passes_157 ?_
              refine lt_e (e0 := 225 + r11) (Int32.ofInt_add _ _).symm (fun z_47 hz_47 => ?_)
              refine va_iald hx hb hG.1 hP 1 0 rfl rfl (iI_in (by omega) (by decide)) dX12_passes_158 ?_
              refine lt_nz (i := z_47) (by omega) (fun z_48 hz_48 lz_48 uz_48 => ?_)
              refine lv_aload_n hx hb dX12_passes_159 rfl (lv_at hlv 6 rfl) ?_
              refine va_get (D := D) (ci := 12) (v := vI (u1.2.1 0)) (C := RX12) (T := TX12) (N := 38) hx hb hts hi12 hown hG.1 hP 2 rfl rfl 31 (by decide) lf344 (fun _ h9 => h9) rfl dX12_passes_160 ?_
              refine lv_iadd hx hb dX12_passes_163 ?_
              refine lt_z (fun z_49 ez_49 lz_49 hz_49 => ?_)
              refine lv_iload hx hb dX12_passes_164 (lv_at hlv 1 rfl) ?_
              refine ir_lt (tgt := 172) hx hb dX12_passes_166 (by decide) (by omega) (by first | exact hq7_1 | omega) (fun c_50 => ?_) (fun c_50 => ?_)
              · refine lv_aload_n hx hb dX12_passes_172 rfl (lv_at hlv 6 rfl) ?_
                refine va_get (D := D) (ci := 12) (v := vR m28) (C := RX12) (T := TX12) (N := 38) hx hb hts hi12 hown hG.1 hP 2 rfl rfl 28 (by decide) lf65 (fun _ h9 => h9) rfl dX12_passes_173 ?_
                refine lv_iconst (v := iI 4) hx hb dX12_passes_176 (by decide) ?_
                refine lv_aload_n hx hb dX12_passes_177 rfl (lv_at hlv 6 rfl) ?_
                refine va_get (D := D) (ci := 12) (v := vR m12) (C := RX12) (T := TX12) (N := 38) hx hb hts hi12 hown hG.1 hP 2 rfl rfl 12 (by decide) lf29 (fun _ h9 => h9) rfl dX12_passes_178 ?_
                refine lv_sipush (v := iI 225) hx hb dX12_passes_181 (by decide) ?_
                refine lv_iload hx hb dX12_passes_184 (lv_at hlv 0 rfl) ?_
                refine lv_iadd hx hb dX12_passes_186 ?_
                refine lt_e (e0 := 225 + r11) (Int32.ofInt_add _ _).symm (fun z_51 hz_51 => ?_)
                refine va_iald hx hb hG.1 hP 1 0 rfl rfl (iI_in (by omega) (by decide)) dX12_passes_187 ?_
                refine lt_nz (i := z_51) (by omega) (fun z_52 hz_52 lz_52 uz_52 => ?_)
                refine lv_aload_n hx hb dX12_passes_188 rfl (lv_at hlv 6 rfl) ?_
                refine va_get (D := D) (ci := 12) (v := vI (u1.2.1 0)) (C := RX12) (T := TX12) (N := 38) hx hb hts hi12 hown hG.1 hP 2 rfl rfl 31 (by decide) lf344 (fun _ h9 => h9) rfl dX12_passes_189 ?_
                refine lv_iadd hx hb dX12_passes_192 ?_
                refine lt_z (fun z_53 ez_53 lz_53 hz_53 => ?_)
                refine va_iast hx hb hG.1 hP hD hS 8 0 rfl rfl (iI_in (by omega) (by decide)) dX12_passes_193 (fun H locs hP hD hS => ?_)
                obtain ⟨f_54, hP, hD⟩ := pe9 (fun f_54 => [zI m10 (cy 0) 68 f10, zI m12 (cy 0) 389 wh, zO mm 12 [vI th, vR m1, vI tp, vI sz_, vI ap, vI bad, vI bk, vI opn, vI fp, vR m9, vR m10, vR m11, vR m12, vR m13, vR m14, vR m15, vI im, vI nr, vI nl, vR m19, vR m20, vR m21, vI sp_, vR m23, vR m24, vR m25, vR m26, vR m27, vR m28, vI wtc, vI wcl, vI (u1.2.1 0), vI (u1.2.1 1), vR m33, vI shu, vR m35, vI sfa, vI swr], zI m23 (cy 0) 2480 f23, zI m24 (cy 0) 2480 f24, zI m25 (cy 0) 20 f25, zI m26 (cy 0) 20 f26, zI m27 (cy 0) 620 kh, zI m28 (cy 0) 7 f_54]) _ hP hD
                refine lv_aload_n hx hb dX12_passes_194 rfl (lv_at hlv 6 rfl) ?_
                refine va_get (D := D) (ci := 12) (v := vR m28) (C := RX12) (T := TX12) (N := 38) hx hb hts hi12 hown hG.1 hP 2 rfl rfl 28 (by decide) lf65 (fun _ h9 => h9) rfl dX12_passes_195 ?_
                refine lv_bipush (v := iI 6) hx hb dX12_passes_198 (by decide) ?_
                refine lv_aload_n hx hb dX12_passes_200 rfl (lv_at hlv 6 rfl) ?_
                refine lv_iload hx hb dX12_passes_201 (lv_at hlv 4 rfl) ?_
                refine cjr_i [false, true, false, true, true, true, true, true, true] (fun pre9 => (va_runV (As := [vI q7]) (rest := [vI 6, vR m28]) ⟨hx, hb, hml, hown, hts⟩ (m_isSheltered l hl D cy sa mm m1 m9 m10 m11 m12 m13 m14 m15 m19 m20 m21 m23 m24 m25 m26 m27 m28 m33 m35 th tp sz_ ap bad bk opn fp im nr nl sp_ wtc wcl (u1.2.1 0) (u1.2.1 1) shu sfa swr f10 q7 H.size (by first | exact hr_th | omega) (by first | exact hr_tp | omega) (by first | exact hr_sz_ | omega) (by first | exact hr_ap | omega) (by first | exact hr_bad | omega) (by first | exact hr_bk | omega) (by first | exact hr_opn | omega) (by first | exact hr_fp | omega) (by first | exact hr_im | omega) (by first | exact hr_nr | omega) (by first | exact hr_nl | omega) (by first | exact hr_sp_ | omega) (by first | exact hr_wtc | omega) (by first | exact hr_wcl | omega) (by first | exact hq1_0 | omega) (by first | exact hq1_1 | omega) (by first | exact hr_shu | omega) (by first | exact hr_sfa | omega) (by first | exact hr_swr | omega) (by first | exact rgw hl6_1 (by decide) (by decide) | omega) hq1_2) (cwV 1 hts gg_7 rfl rfl rfl (by decide +kernel) ⟨Nat.le_of_ble_eq_true rfl, Nat.le_of_ble_eq_true rfl⟩) ⟨pcW.blind, (va_recv hG.1 hP (ci := 12) (q0 := 2) rfl rfl), pre9⟩ rfl rfl hlv.1 rfl (lv_room (Nat.le_of_ble_eq_true rfl)) dX12_passes_203 ⟨Nat.le_of_ble_eq_true rfl, Nat.le_of_ble_eq_true rfl⟩)) hP hD hS hA hG hT [2, 0] rfl (by decide +kernel) (fun r9 u9 H locs hw9 hq9 hS => ?_)
                obtain ⟨rfl, hq9_1, hq9_2⟩ := hw9
                obtain ⟨hP, hD⟩ := pd9 [zI m12 (cy 0) 389 wh, zI m23 (cy 0) 2480 f23, zI m24 (cy 0) 2480 f24, zI m25 (cy 0) 20 f25, zI m26 (cy 0) 20 f26, zI m27 (cy 0) 620 kh, zI m28 (cy 0) 7 f_54, zO mm 12 [vI th, vR m1, vI tp, vI sz_, vI ap, vI bad, vI bk, vI opn, vI fp, vR m9, vR m10, vR m11, vR m12, vR m13, vR m14, vR m15, vI im, vI nr, vI nl, vR m19, vR m20, vR m21, vI sp_, vR m23, vR m24, vR m25, vR m26, vR m27, vR m28, vI wtc, vI wcl, vI (u1.2.1 0), vI (u1.2.1 1), vR m33, vI shu, vR m35, vI sfa, vI swr], zI m10 (cy 0) 68 f10] hq9
                refine iz_eq (tgt := 213) hx hb dX12_passes_206 (by decide) (by first | exact rgw hq9_1 (by decide) (by decide) | omega) (fun c_55 => ?_) (fun c_55 => ?_)
                · refine lv_iconst (v := iI 0) hx hb dX12_passes_213 (by decide) ?_
                  refine va_iast hx hb hG.1 hP hD hS 6 0 rfl rfl (iI_in (by omega) (by decide)) dX12_passes_214 (fun H locs hP hD hS => ?_)
                  obtain ⟨f_56, hP, hD⟩ := pe9 (fun f_56 => [zI m12 (cy 0) 389 wh, zI m23 (cy 0) 2480 f23, zI m24 (cy 0) 2480 f24, zI m25 (cy 0) 20 f25, zI m26 (cy 0) 20 f26, zI m27 (cy 0) 620 kh, zI m28 (cy 0) 7 f_56, zO mm 12 [vI th, vR m1, vI tp, vI sz_, vI ap, vI bad, vI bk, vI opn, vI fp, vR m9, vR m10, vR m11, vR m12, vR m13, vR m14, vR m15, vI im, vI nr, vI nl, vR m19, vR m20, vR m21, vI sp_, vR m23, vR m24, vR m25, vR m26, vR m27, vR m28, vI wtc, vI wcl, vI (u1.2.1 0), vI (u1.2.1 1), vR m33, vI shu, vR m35, vI sfa, vI swr], zI m10 (cy 0) 68 f10]) _ hP hD
                  refine lv_aload_n hx hb dX12_passes_215 rfl (lv_at hlv 6 rfl) ?_
                  refine lv_iconst (v := iI 5) hx hb dX12_passes_216 (by decide) ?_
                  refine lv_iload_n hx hb dX12_passes_217 rfl (lv_at hlv 7 rfl) ?_
                  refine lv_imul hx hb dX12_passes_218 ?_
                  refine lt_e (e0 := 5 * n) (Int32.ofInt_mul _ _).symm (fun z_57 hz_57 => ?_)
                  refine lv_iconst (v := iI 2) hx hb dX12_passes_219 (by decide) ?_
                  refine lv_iadd hx hb dX12_passes_220 ?_
                  refine lt_e (e0 := z_57 + 2) (Int32.ofInt_add _ _).symm (fun z_58 hz_58 => ?_)
                  refine cjr_i [true, false, false, false, false, false, false, false, true] (fun pre9 => (va_runV (As := [vI z_58]) (rest := []) ⟨hx, hb, hml, hown, hts⟩ (m_worked l hl D cy sa mm m1 m9 m10 m11 m12 m13 m14 m15 m19 m20 m21 m23 m24 m25 m26 m27 m28 m33 m35 th tp sz_ ap bad bk opn fp im nr nl sp_ wtc wcl (u1.2.1 0) (u1.2.1 1) shu sfa swr f23 f24 f25 f26 kh f_56 z_58 H.size (by first | exact hr_th | omega) (by first | exact hr_tp | omega) (by first | exact hr_sz_ | omega) (by first | exact hr_ap | omega) (by first | exact hr_bad | omega) (by first | exact hr_bk | omega) (by first | exact hr_opn | omega) (by first | exact hr_fp | omega) (by first | exact hr_im | omega) (by first | exact hr_nr | omega) (by first | exact hr_nl | omega) (by first | exact hr_sp_ | omega) (by first | exact hr_wtc | omega) (by first | exact hr_wcl | omega) (by first | exact hq1_0 | omega) (by first | exact hq1_1 | omega) (by first | exact hr_shu | omega) (by first | exact hr_sfa | omega) (by first | exact hr_swr | omega) (by omega) (by omega) hn_li) (cwV 1 hts gg_5 rfl rfl rfl (by decide +kernel) ⟨Nat.le_of_ble_eq_true rfl, Nat.le_of_ble_eq_true rfl⟩) ⟨pcW.blind, (va_recv hG.1 hP (ci := 12) (q0 := 7) rfl rfl), pre9⟩ rfl rfl hlv.1 rfl (lv_room (Nat.le_of_ble_eq_true rfl)) dX12_passes_221 ⟨Nat.le_of_ble_eq_true rfl, Nat.le_of_ble_eq_true rfl⟩)) hP hD hS hA hG hT [7, 1, 2, 3, 4, 5, 6] rfl (by decide +kernel) (fun r10 u10 H locs hw10 hq9 hS => ?_)
                  obtain ⟨rfl, hq10_1⟩ := hw10
                  obtain ⟨hP, hD⟩ := pd9 [zI m12 (cy 0) 389 wh, zI m10 (cy 0) 68 f10, zO mm 12 [vI th, vR m1, vI tp, vI sz_, vI ap, vI bad, vI bk, vI opn, vI fp, vR m9, vR m10, vR m11, vR m12, vR m13, vR m14, vR m15, vI im, vI nr, vI nl, vR m19, vR m20, vR m21, vI sp_, vR m23, vR m24, vR m25, vR m26, vR m27, vR m28, vI wtc, vI wcl, vI (u1.2.1 0), vI (u1.2.1 1), vR m33, vI shu, vR m35, vI sfa, vI swr], zI m23 (cy 0) 2480 f23, zI m24 (cy 0) 2480 f24, zI m25 (cy 0) 20 f25, zI m26 (cy 0) 20 f26, zI m27 (cy 0) 620 (u10.2.2 0), zI m28 (cy 0) 7 f_56] hq9
                  refine lv_iconst (v := iI 0) hx hb dX12_passes_224 (by decide) ?_
                  refine lv_bipush (v := iI 99) hx hb dX12_passes_225 (by decide) ?_
                  refine cjr_i [true, true, true, true, true, true, true, true, true] (fun pre9 => (va_runS (As := [vI (u10.2.1 0), vI 0, vI 99]) (rest := []) ⟨hx, hb, hml, hown, hts⟩ (m_held l hl D cy sa (u10.2.1 0) 0 99 H.size (by first | exact hq10_1 | omega) (by show ((-2147483648) : Int) ≤ 0 ∧ (0 : Int) ≤ 2147483647; decide) (by show ((-2147483648) : Int) ≤ 99 ∧ (99 : Int) ≤ 2147483647; decide)) (va_cwS 3 hts gg_6 rfl rfl rfl (by decide +kernel) ⟨Nat.le_of_ble_eq_true rfl, Nat.le_of_ble_eq_true rfl⟩) ⟨pcW.blind, pre9⟩ rfl rfl hlv.1 rfl (lv_room (Nat.le_of_ble_eq_true rfl)) dX12_passes_227 ⟨Nat.le_of_ble_eq_true rfl, Nat.le_of_ble_eq_true rfl⟩)) hP hD hS hA hG hT [] rfl (by decide +kernel) (fun r11 u11 H locs hw11 hq9 hS => ?_)
                  obtain ⟨rfl, hq11_1, hq11_2⟩ := hw11
                  obtain ⟨hP, hD⟩ := pd9 [zI m12 (cy 0) 389 wh, zI m10 (cy 0) 68 f10, zO mm 12 [vI th, vR m1, vI tp, vI sz_, vI ap, vI bad, vI bk, vI opn, vI fp, vR m9, vR m10, vR m11, vR m12, vR m13, vR m14, vR m15, vI im, vI nr, vI nl, vR m19, vR m20, vR m21, vI sp_, vR m23, vR m24, vR m25, vR m26, vR m27, vR m28, vI wtc, vI wcl, vI (u1.2.1 0), vI (u1.2.1 1), vR m33, vI shu, vR m35, vI sfa, vI swr], zI m23 (cy 0) 2480 f23, zI m24 (cy 0) 2480 f24, zI m25 (cy 0) 20 f25, zI m26 (cy 0) 20 f26, zI m27 (cy 0) 620 (u10.2.2 0), zI m28 (cy 0) 7 f_56] hq9
                  refine lv_istore (lv' := [(12, vI (u11.2.1 0)), (11, vI r11), (10, vI (u7.2.1 0)), (9, vI z_8), (8, vI z_3), (7, vI q7), (6, vI r6), (0, vR mm), (1, vI n), (2, vI p1), (3, vI p2), (4, vI p3), (5, vI p4)]) hx hb dX12_passes_230 hlv (by decide) rfl (fun ls hlv => ?_)
                  refine lv_aload_n hx hb dX12_passes_232 rfl (lv_at hlv 7 rfl) ?_
                  refine va_get (D := D) (ci := 12) (v := vR m12) (C := RX12) (T := TX12) (N := 38) hx hb hts hi12 hown hG.1 hP 2 rfl rfl 12 (by decide) lf29 (fun _ h9 => h9) rfl dX12_passes_233 ?_
                  refine lv_sipush (v := iI 234) hx hb dX12_passes_236 (by decide) ?_
                  refine lv_iload hx hb dX12_passes_239 (lv_at hlv 1 rfl) ?_
                  refine lv_iadd hx hb dX12_passes_241 ?_
                  refine lt_e (e0 := 234 + r11) (Int32.ofInt_add _ _).symm (fun z_59 hz_59 => ?_)
                  refine lv_dup2_11 hx hb dX12_passes_242 rfl rfl ?_
                  refine va_iald hx hb hG.1 hP 0 0 rfl rfl (iI_in (by omega) (by decide)) dX12_passes_243 ?_
                  refine lt_nz (i := z_59) (by omega) (fun z_60 hz_60 lz_60 uz_60 => ?_)
                  refine lv_iload hx hb dX12_passes_244 (lv_at hlv 0 rfl) ?_
                  refine lv_iadd hx hb dX12_passes_246 ?_
                  refine lt_z (fun z_61 ez_61 lz_61 hz_61 => ?_)
                  refine va_iast hx hb hG.1 hP hD hS 0 0 rfl rfl (iI_in (by omega) (by decide)) dX12_passes_247 (fun H locs hP hD hS => ?_)
                  obtain ⟨f_62, hdf_62, hP, hD⟩ := pe9e (fun f_62 => [zI m12 (cy 0) 389 f_62, zI m10 (cy 0) 68 f10, zO mm 12 [vI th, vR m1, vI tp, vI sz_, vI ap, vI bad, vI bk, vI opn, vI fp, vR m9, vR m10, vR m11, vR m12, vR m13, vR m14, vR m15, vI im, vI nr, vI nl, vR m19, vR m20, vR m21, vI sp_, vR m23, vR m24, vR m25, vR m26, vR m27, vR m28, vI wtc, vI wcl, vI (u1.2.1 0), vI (u1.2.1 1), vR m33, vI shu, vR m35, vI sfa, vI swr], zI m23 (cy 0) 2480 f23, zI m24 (cy 0) 2480 f24, zI m25 (cy 0) 20 f25, zI m26 (cy 0) 20 f26, zI m27 (cy 0) 620 (u10.2.2 0), zI m28 (cy 0) 7 f_56]) (upd wh (iI z_59).toNatClampNeg (iI z_61)) hP hD
                  have hif_62 : SQ qs pm f_62 := ⟨SI.wo (hiwh.1) hdf_62 (by omega) (by omega) (by omega) (by omega), (SQ.fr hiwh.2 hdf_62 (by omega) (by omega))⟩
                  refine lv_aload_n hx hb dX12_passes_248 rfl (lv_at hlv 7 rfl) ?_
                  refine va_get (D := D) (ci := 12) (v := vR m12) (C := RX12) (T := TX12) (N := 38) hx hb hts hi12 hown hG.1 hP 2 rfl rfl 12 (by decide) lf29 (fun _ h9 => h9) rfl dX12_passes_249 ?_
                  refine lv_sipush (v := iI 243) hx hb dX12_passes_252 (by decide) ?_
                  refine lv_iload hx hb dX12_passes_255 (lv_at hlv 1 rfl) ?_
                  refine lv_iadd hx hb dX12_passes_257 ?_
                  refine lt_e (e0 := 243 + r11) (Int32.ofInt_add _ _).symm (fun z_63 hz_63 => ?_)
                  refine lv_dup2_11 hx hb dX12_passes_258 rfl rfl ?_
                  refine va_iald hx hb hG.1 hP 0 0 rfl rfl (iI_in (by omega) (by decide)) dX12_passes_259 ?_
                  refine lt_nz (i := z_63) (by omega) (fun z_64 hz_64 lz_64 uz_64 => ?_)
                  refine lv_iconst (v := iI 1) hx hb dX12_passes_260 (by decide) ?_
                  refine lv_iadd hx hb dX12_passes_261 ?_
                  refine lt_z (fun z_65 ez_65 lz_65 hz_65 => ?_)
                  refine va_iast hx hb hG.1 hP hD hS 0 0 rfl rfl (iI_in (by omega) (by decide)) dX12_passes_262 (fun H locs hP hD hS => ?_)
                  obtain ⟨f_66, hdf_66, hP, hD⟩ := pe9e (fun f_66 => [zI m12 (cy 0) 389 f_66, zI m10 (cy 0) 68 f10, zO mm 12 [vI th, vR m1, vI tp, vI sz_, vI ap, vI bad, vI bk, vI opn, vI fp, vR m9, vR m10, vR m11, vR m12, vR m13, vR m14, vR m15, vI im, vI nr, vI nl, vR m19, vR m20, vR m21, vI sp_, vR m23, vR m24, vR m25, vR m26, vR m27, vR m28, vI wtc, vI wcl, vI (u1.2.1 0), vI (u1.2.1 1), vR m33, vI shu, vR m35, vI sfa, vI swr], zI m23 (cy 0) 2480 f23, zI m24 (cy 0) 2480 f24, zI m25 (cy 0) 20 f25, zI m26 (cy 0) 20 f26, zI m27 (cy 0) 620 (u10.2.2 0), zI m28 (cy 0) 7 f_56]) (upd f_62 (iI z_63).toNatClampNeg (iI z_65)) hP hD
                  have hif_66 : SQ qs pm f_66 := ⟨SI.wo (hif_62.1) hdf_66 (by omega) (by omega) (by omega) (by omega), (SQ.fr hif_62.2 hdf_66 (by omega) (by omega))⟩
                  refine lv_iload hx hb dX12_passes_263 (lv_at hlv 6 rfl) ?_
                  refine lv_iload hx hb dX12_passes_265 (lv_at hlv 0 rfl) ?_
                  refine lv_iadd hx hb dX12_passes_267 ?_
                  refine lt_z (fun z_67 ez_67 lz_67 hz_67 => ?_)
                  refine lv_istore (lv' := [(6, vI z_67), (12, vI (u11.2.1 0)), (11, vI r11), (10, vI (u7.2.1 0)), (9, vI z_8), (8, vI z_3), (7, vI q7), (0, vR mm), (1, vI n), (2, vI p1), (3, vI p2), (4, vI p3), (5, vI p4)]) hx hb dX12_passes_268 hlv (by decide) rfl (fun ls hlv => ?_)
                  obtain ⟨z_68, hz_68⟩ : ∃ z : Int, z = r11 + 1 := ⟨_, rfl⟩
                  refine lv_iinc (v := iI z_68) (lv' := [(11, vI z_68), (6, vI z_67), (12, vI (u11.2.1 0)), (10, vI (u7.2.1 0)), (9, vI z_8), (8, vI z_3), (7, vI q7), (0, vR mm), (1, vI n), (2, vI p1), (3, vI p2), (4, vI p3), (5, vI p4)]) hx hb dX12_passes_270 hlv (k := 2) rfl (by rw [hz_68]; exact (Int32.ofInt_add _ _).symm) (by decide) rfl (fun ls hlv => ?_)
                  refine lv_goto (tgt := 119) hx hb dX12_passes_273 (by decide) ?_
                  exact ih119 z_67 z_68 f_66 (u10.2.2 0) f_56 H locs ls (by omega) (by omega) (by omega) hif_66 (hP.sub [1, 0, 2, 3, 4, 5, 6, 7, 8] rfl) (hD.sub [1, 0, 2, 3, 4, 5, 6, 7, 8] (by decide) rfl) hS (lv_sub hlv [0, 3, 4, 5, 6, 1, 7, 8, 9, 10, 11, 12] rfl)
                · refine lv_iconst (v := iI 1) hx hb dX12_passes_209 (by decide) ?_
                  refine lv_goto (tgt := 214) hx hb dX12_passes_210 (by decide) ?_
                  refine va_iast hx hb hG.1 hP hD hS 6 0 rfl rfl (iI_in (by omega) (by decide)) dX12_passes_214 (fun H locs hP hD hS => ?_)
                  obtain ⟨f_69, hP, hD⟩ := pe9 (fun f_69 => [zI m12 (cy 0) 389 wh, zI m23 (cy 0) 2480 f23, zI m24 (cy 0) 2480 f24, zI m25 (cy 0) 20 f25, zI m26 (cy 0) 20 f26, zI m27 (cy 0) 620 kh, zI m28 (cy 0) 7 f_69, zO mm 12 [vI th, vR m1, vI tp, vI sz_, vI ap, vI bad, vI bk, vI opn, vI fp, vR m9, vR m10, vR m11, vR m12, vR m13, vR m14, vR m15, vI im, vI nr, vI nl, vR m19, vR m20, vR m21, vI sp_, vR m23, vR m24, vR m25, vR m26, vR m27, vR m28, vI wtc, vI wcl, vI (u1.2.1 0), vI (u1.2.1 1), vR m33, vI shu, vR m35, vI sfa, vI swr], zI m10 (cy 0) 68 f10]) _ hP hD
                  refine lv_aload_n hx hb dX12_passes_215 rfl (lv_at hlv 6 rfl) ?_
                  refine lv_iconst (v := iI 5) hx hb dX12_passes_216 (by decide) ?_
                  refine lv_iload_n hx hb dX12_passes_217 rfl (lv_at hlv 7 rfl) ?_
                  refine lv_imul hx hb dX12_passes_218 ?_
                  refine lt_e (e0 := 5 * n) (Int32.ofInt_mul _ _).symm (fun z_70 hz_70 => ?_)
                  refine lv_iconst (v := iI 2) hx hb dX12_passes_219 (by decide) ?_
                  refine lv_iadd hx hb dX12_passes_220 ?_
                  refine lt_e (e0 := z_70 + 2) (Int32.ofInt_add _ _).symm (fun z_71 hz_71 => ?_)
                  refine cjr_i [true, false, false, false, false, false, false, false, true] (fun pre9 => (va_runV (As := [vI z_71]) (rest := []) ⟨hx, hb, hml, hown, hts⟩ (m_worked l hl D cy sa mm m1 m9 m10 m11 m12 m13 m14 m15 m19 m20 m21 m23 m24 m25 m26 m27 m28 m33 m35 th tp sz_ ap bad bk opn fp im nr nl sp_ wtc wcl (u1.2.1 0) (u1.2.1 1) shu sfa swr f23 f24 f25 f26 kh f_69 z_71 H.size (by first | exact hr_th | omega) (by first | exact hr_tp | omega) (by first | exact hr_sz_ | omega) (by first | exact hr_ap | omega) (by first | exact hr_bad | omega) (by first | exact hr_bk | omega) (by first | exact hr_opn | omega) (by first | exact hr_fp | omega) (by first | exact hr_im | omega) (by first | exact hr_nr | omega) (by first | exact hr_nl | omega) (by first | exact hr_sp_ | omega) (by first | exact hr_wtc | omega) (by first | exact hr_wcl | omega) (by first | exact hq1_0 | omega) (by first | exact hq1_1 | omega) (by first | exact hr_shu | omega) (by first | exact hr_sfa | omega) (by first | exact hr_swr | omega) (by omega) (by omega) hn_li) (cwV 1 hts gg_5 rfl rfl rfl (by decide +kernel) ⟨Nat.le_of_ble_eq_true rfl, Nat.le_of_ble_eq_true rfl⟩) ⟨pcW.blind, (va_recv hG.1 hP (ci := 12) (q0 := 7) rfl rfl), pre9⟩ rfl rfl hlv.1 rfl (lv_room (Nat.le_of_ble_eq_true rfl)) dX12_passes_221 ⟨Nat.le_of_ble_eq_true rfl, Nat.le_of_ble_eq_true rfl⟩)) hP hD hS hA hG hT [7, 1, 2, 3, 4, 5, 6] rfl (by decide +kernel) (fun r12 u12 H locs hw12 hq9 hS => ?_)
                  obtain ⟨rfl, hq12_1⟩ := hw12
                  obtain ⟨hP, hD⟩ := pd9 [zI m12 (cy 0) 389 wh, zI m10 (cy 0) 68 f10, zO mm 12 [vI th, vR m1, vI tp, vI sz_, vI ap, vI bad, vI bk, vI opn, vI fp, vR m9, vR m10, vR m11, vR m12, vR m13, vR m14, vR m15, vI im, vI nr, vI nl, vR m19, vR m20, vR m21, vI sp_, vR m23, vR m24, vR m25, vR m26, vR m27, vR m28, vI wtc, vI wcl, vI (u1.2.1 0), vI (u1.2.1 1), vR m33, vI shu, vR m35, vI sfa, vI swr], zI m23 (cy 0) 2480 f23, zI m24 (cy 0) 2480 f24, zI m25 (cy 0) 20 f25, zI m26 (cy 0) 20 f26, zI m27 (cy 0) 620 (u12.2.2 0), zI m28 (cy 0) 7 f_69] hq9
                  refine lv_iconst (v := iI 0) hx hb dX12_passes_224 (by decide) ?_
                  refine lv_bipush (v := iI 99) hx hb dX12_passes_225 (by decide) ?_
                  refine cjr_i [true, true, true, true, true, true, true, true, true] (fun pre9 => (va_runS (As := [vI (u12.2.1 0), vI 0, vI 99]) (rest := []) ⟨hx, hb, hml, hown, hts⟩ (m_held l hl D cy sa (u12.2.1 0) 0 99 H.size (by first | exact hq12_1 | omega) (by show ((-2147483648) : Int) ≤ 0 ∧ (0 : Int) ≤ 2147483647; decide) (by show ((-2147483648) : Int) ≤ 99 ∧ (99 : Int) ≤ 2147483647; decide)) (va_cwS 3 hts gg_6 rfl rfl rfl (by decide +kernel) ⟨Nat.le_of_ble_eq_true rfl, Nat.le_of_ble_eq_true rfl⟩) ⟨pcW.blind, pre9⟩ rfl rfl hlv.1 rfl (lv_room (Nat.le_of_ble_eq_true rfl)) dX12_passes_227 ⟨Nat.le_of_ble_eq_true rfl, Nat.le_of_ble_eq_true rfl⟩)) hP hD hS hA hG hT [] rfl (by decide +kernel) (fun r13 u13 H locs hw13 hq9 hS => ?_)
                  obtain ⟨rfl, hq13_1, hq13_2⟩ := hw13
                  obtain ⟨hP, hD⟩ := pd9 [zI m12 (cy 0) 389 wh, zI m10 (cy 0) 68 f10, zO mm 12 [vI th, vR m1, vI tp, vI sz_, vI ap, vI bad, vI bk, vI opn, vI fp, vR m9, vR m10, vR m11, vR m12, vR m13, vR m14, vR m15, vI im, vI nr, vI nl, vR m19, vR m20, vR m21, vI sp_, vR m23, vR m24, vR m25, vR m26, vR m27, vR m28, vI wtc, vI wcl, vI (u1.2.1 0), vI (u1.2.1 1), vR m33, vI shu, vR m35, vI sfa, vI swr], zI m23 (cy 0) 2480 f23, zI m24 (cy 0) 2480 f24, zI m25 (cy 0) 20 f25, zI m26 (cy 0) 20 f26, zI m27 (cy 0) 620 (u12.2.2 0), zI m28 (cy 0) 7 f_69] hq9
                  refine lv_istore (lv' := [(12, vI (u13.2.1 0)), (11, vI r11), (10, vI (u7.2.1 0)), (9, vI z_8), (8, vI z_3), (7, vI q7), (6, vI r6), (0, vR mm), (1, vI n), (2, vI p1), (3, vI p2), (4, vI p3), (5, vI p4)]) hx hb dX12_passes_230 hlv (by decide) rfl (fun ls hlv => ?_)
                  refine lv_aload_n hx hb dX12_passes_232 rfl (lv_at hlv 7 rfl) ?_
                  refine va_get (D := D) (ci := 12) (v := vR m12) (C := RX12) (T := TX12) (N := 38) hx hb hts hi12 hown hG.1 hP 2 rfl rfl 12 (by decide) lf29 (fun _ h9 => h9) rfl dX12_passes_233 ?_
                  refine lv_sipush (v := iI 234) hx hb dX12_passes_236 (by decide) ?_
                  refine lv_iload hx hb dX12_passes_239 (lv_at hlv 1 rfl) ?_
                  refine lv_iadd hx hb dX12_passes_241 ?_
                  refine lt_e (e0 := 234 + r11) (Int32.ofInt_add _ _).symm (fun z_72 hz_72 => ?_)
                  refine lv_dup2_11 hx hb dX12_passes_242 rfl rfl ?_
                  refine va_iald hx hb hG.1 hP 0 0 rfl rfl (iI_in (by omega) (by decide)) dX12_passes_243 ?_
                  refine lt_nz (i := z_72) (by omega) (fun z_73 hz_73 lz_73 uz_73 => ?_)
                  refine lv_iload hx hb dX12_passes_244 (lv_at hlv 0 rfl) ?_
                  refine lv_iadd hx hb dX12_passes_246 ?_
                  refine lt_z (fun z_74 ez_74 lz_74 hz_74 => ?_)
                  refine va_iast hx hb hG.1 hP hD hS 0 0 rfl rfl (iI_in (by omega) (by decide)) dX12_passes_247 (fun H locs hP hD hS => ?_)
                  obtain ⟨f_75, hdf_75, hP, hD⟩ := pe9e (fun f_75 => [zI m12 (cy 0) 389 f_75, zI m10 (cy 0) 68 f10, zO mm 12 [vI th, vR m1, vI tp, vI sz_, vI ap, vI bad, vI bk, vI opn, vI fp, vR m9, vR m10, vR m11, vR m12, vR m13, vR m14, vR m15, vI im, vI nr, vI nl, vR m19, vR m20, vR m21, vI sp_, vR m23, vR m24, vR m25, vR m26, vR m27, vR m28, vI wtc, vI wcl, vI (u1.2.1 0), vI (u1.2.1 1), vR m33, vI shu, vR m35, vI sfa, vI swr], zI m23 (cy 0) 2480 f23, zI m24 (cy 0) 2480 f24, zI m25 (cy 0) 20 f25, zI m26 (cy 0) 20 f26, zI m27 (cy 0) 620 (u12.2.2 0), zI m28 (cy 0) 7 f_69]) (upd wh (iI z_72).toNatClampNeg (iI z_74)) hP hD
                  have hif_75 : SQ qs pm f_75 := ⟨SI.wo (hiwh.1) hdf_75 (by omega) (by omega) (by omega) (by omega), (SQ.fr hiwh.2 hdf_75 (by omega) (by omega))⟩
                  refine lv_aload_n hx hb dX12_passes_248 rfl (lv_at hlv 7 rfl) ?_
                  refine va_get (D := D) (ci := 12) (v := vR m12) (C := RX12) (T := TX12) (N := 38) hx hb hts hi12 hown hG.1 hP 2 rfl rfl 12 (by decide) lf29 (fun _ h9 => h9) rfl dX12_passes_249 ?_
                  refine lv_sipush (v := iI 243) hx hb dX12_passes_252 (by decide) ?_
                  refine lv_iload hx hb dX12_passes_255 (lv_at hlv 1 rfl) ?_
                  refine lv_iadd hx hb dX12_passes_257 ?_
                  refine lt_e (e0 := 243 + r11) (Int32.ofInt_add _ _).symm (fun z_76 hz_76 => ?_)
                  refine lv_dup2_11 hx hb dX12_passes_258 rfl rfl ?_
                  refine va_iald hx hb hG.1 hP 0 0 rfl rfl (iI_in (by omega) (by decide)) dX12_passes_259 ?_
                  refine lt_nz (i := z_76) (by omega) (fun z_77 hz_77 lz_77 uz_77 => ?_)
                  refine lv_iconst (v := iI 1) hx hb dX12_passes_260 (by decide) ?_
                  refine lv_iadd hx hb dX12_passes_261 ?_
                  refine lt_z (fun z_78 ez_78 lz_78 hz_78 => ?_)
                  refine va_iast hx hb hG.1 hP hD hS 0 0 rfl rfl (iI_in (by omega) (by decide)) dX12_passes_262 (fun H locs hP hD hS => ?_)
                  obtain ⟨f_79, hdf_79, hP, hD⟩ := pe9e (fun f_79 => [zI m12 (cy 0) 389 f_79, zI m10 (cy 0) 68 f10, zO mm 12 [vI th, vR m1, vI tp, vI sz_, vI ap, vI bad, vI bk, vI opn, vI fp, vR m9, vR m10, vR m11, vR m12, vR m13, vR m14, vR m15, vI im, vI nr, vI nl, vR m19, vR m20, vR m21, vI sp_, vR m23, vR m24, vR m25, vR m26, vR m27, vR m28, vI wtc, vI wcl, vI (u1.2.1 0), vI (u1.2.1 1), vR m33, vI shu, vR m35, vI sfa, vI swr], zI m23 (cy 0) 2480 f23, zI m24 (cy 0) 2480 f24, zI m25 (cy 0) 20 f25, zI m26 (cy 0) 20 f26, zI m27 (cy 0) 620 (u12.2.2 0), zI m28 (cy 0) 7 f_69]) (upd f_75 (iI z_76).toNatClampNeg (iI z_78)) hP hD
                  have hif_79 : SQ qs pm f_79 := ⟨SI.wo (hif_75.1) hdf_79 (by omega) (by omega) (by omega) (by omega), (SQ.fr hif_75.2 hdf_79 (by omega) (by omega))⟩
                  refine lv_iload hx hb dX12_passes_263 (lv_at hlv 6 rfl) ?_
                  refine lv_iload hx hb dX12_passes_265 (lv_at hlv 0 rfl) ?_
                  refine lv_iadd hx hb dX12_passes_267 ?_
                  refine lt_z (fun z_80 ez_80 lz_80 hz_80 => ?_)
                  refine lv_istore (lv' := [(6, vI z_80), (12, vI (u13.2.1 0)), (11, vI r11), (10, vI (u7.2.1 0)), (9, vI z_8), (8, vI z_3), (7, vI q7), (0, vR mm), (1, vI n), (2, vI p1), (3, vI p2), (4, vI p3), (5, vI p4)]) hx hb dX12_passes_268 hlv (by decide) rfl (fun ls hlv => ?_)
                  obtain ⟨z_81, hz_81⟩ : ∃ z : Int, z = r11 + 1 := ⟨_, rfl⟩
                  refine lv_iinc (v := iI z_81) (lv' := [(11, vI z_81), (6, vI z_80), (12, vI (u13.2.1 0)), (10, vI (u7.2.1 0)), (9, vI z_8), (8, vI z_3), (7, vI q7), (0, vR mm), (1, vI n), (2, vI p1), (3, vI p2), (4, vI p3), (5, vI p4)]) hx hb dX12_passes_270 hlv (k := 2) rfl (by rw [hz_81]; exact (Int32.ofInt_add _ _).symm) (by decide) rfl (fun ls hlv => ?_)
                  refine lv_goto (tgt := 119) hx hb dX12_passes_273 (by decide) ?_
                  exact ih119 z_80 z_81 f_79 (u12.2.2 0) f_69 H locs ls (by omega) (by omega) (by omega) hif_79 (hP.sub [1, 0, 2, 3, 4, 5, 6, 7, 8] rfl) (hD.sub [1, 0, 2, 3, 4, 5, 6, 7, 8] (by decide) rfl) hS (lv_sub hlv [0, 3, 4, 5, 6, 1, 7, 8, 9, 10, 11, 12] rfl)
              · refine lv_goto (tgt := 270) hx hb dX12_passes_169 (by decide) ?_
                obtain ⟨z_82, hz_82⟩ : ∃ z : Int, z = r11 + 1 := ⟨_, rfl⟩
                refine lv_iinc (v := iI z_82) (lv' := [(11, vI z_82), (10, vI (u7.2.1 0)), (9, vI z_8), (8, vI z_3), (7, vI q7), (6, vI r6), (0, vR mm), (1, vI n), (2, vI p1), (3, vI p2), (4, vI p3), (5, vI p4)]) hx hb dX12_passes_270 hlv (k := 0) rfl (by rw [hz_82]; exact (Int32.ofInt_add _ _).symm) (by decide) rfl (fun ls hlv => ?_)
                refine lv_goto (tgt := 119) hx hb dX12_passes_273 (by decide) ?_
                exact ih119 r6 z_82 wh kh nh H locs ls (by omega) (by first | exact hl119_0 | omega) (by omega) hiwh (hP.sub [0, 1, 2, 3, 4, 5, 6, 7, 8] rfl) (hD.sub [0, 1, 2, 3, 4, 5, 6, 7, 8] (by decide) rfl) hS (lv_sub hlv [0, 1, 2, 3, 4, 5, 6, 7, 8, 9, 10, 11] rfl)
      · refine lv_goto (tgt := 358) hx hb dX12_passes_102 (by decide) ?_
        obtain ⟨z_83, hz_83⟩ : ∃ z : Int, z = q7 + 1 := ⟨_, rfl⟩
        refine lv_iinc (v := iI z_83) (lv' := [(7, vI z_83), (9, vI z_8), (8, vI z_3), (6, vI q6), (0, vR mm), (1, vI n), (2, vI p1), (3, vI p2), (4, vI p3), (5, vI p4)]) hx hb dX12_passes_358 hlv (k := 2) rfl (by rw [hz_83]; exact (Int32.ofInt_add _ _).symm) (by decide) rfl (fun ls hlv => ?_)
        refine lv_goto (tgt := 6) hx hb dX12_passes_361 (by decide) ?_
        exact ih6 q6 z_83 (u1.2.1 0) (u1.2.1 1) wg (u5.2.2 0) (u4.2.2 0) H locs ls (by omega) (by first | exact hl6_0 | omega) (by omega) (by first | exact hq1_0 | omega) (by first | exact hq1_1 | omega) hiwg (hP.sub [2, 0, 1, 3, 4, 5, 6, 7, 8] rfl) (hD.sub [2, 0, 1, 3, 4, 5, 6, 7, 8] (by decide) rfl) hS (lv_sub hlv [0, 3, 4, 5, 6, 7, 8, 9] rfl)
end
section
theorem dX12_allPass_0 : decode cX12_allPass 0 = .ok (.iconst 0, 1) := by decide +kernel
theorem dX12_allPass_1 : decode cX12_allPass 1 = .ok (.istore_n 2, 1) := by decide +kernel
theorem dX12_allPass_100 : decode cX12_allPass 100 = .ok (.iload_n 2, 1) := by decide +kernel
theorem dX12_allPass_101 : decode cX12_allPass 101 = .ok (.ireturn, 1) := by decide +kernel
theorem dX12_allPass_12 : decode cX12_allPass 12 = .ok (.iaload, 1) := by decide +kernel
theorem dX12_allPass_13 : decode cX12_allPass 13 = .ok (.if_icmp .ge 87, 3) := by decide +kernel
theorem dX12_allPass_16 : decode cX12_allPass 16 = .ok (.sipush 253, 3) := by decide +kernel
theorem dX12_allPass_19 : decode cX12_allPass 19 = .ok (.iconst 5, 1) := by decide +kernel
theorem dX12_allPass_2 : decode cX12_allPass 2 = .ok (.iconst 0, 1) := by decide +kernel
theorem dX12_allPass_20 : decode cX12_allPass 20 = .ok (.iload_n 3, 1) := by decide +kernel
theorem dX12_allPass_21 : decode cX12_allPass 21 = .ok (.imul, 1) := by decide +kernel
theorem dX12_allPass_22 : decode cX12_allPass 22 = .ok (.iadd, 1) := by decide +kernel
theorem dX12_allPass_23 : decode cX12_allPass 23 = .ok (.istore 4, 2) := by decide +kernel
theorem dX12_allPass_25 : decode cX12_allPass 25 = .ok (.iconst 0, 1) := by decide +kernel
theorem dX12_allPass_26 : decode cX12_allPass 26 = .ok (.istore 5, 2) := by decide +kernel
theorem dX12_allPass_28 : decode cX12_allPass 28 = .ok (.iload 5, 2) := by decide +kernel
theorem dX12_allPass_3 : decode cX12_allPass 3 = .ok (.istore_n 3, 1) := by decide +kernel
theorem dX12_allPass_30 : decode cX12_allPass 30 = .ok (.aload_n 0, 1) := by decide +kernel
theorem dX12_allPass_31 : decode cX12_allPass 31 = .ok (.getfield 29, 3) := by decide +kernel
theorem dX12_allPass_34 : decode cX12_allPass 34 = .ok (.iload 4, 2) := by decide +kernel
theorem dX12_allPass_36 : decode cX12_allPass 36 = .ok (.iaload, 1) := by decide +kernel
theorem dX12_allPass_37 : decode cX12_allPass 37 = .ok (.if_icmp .ge 13, 3) := by decide +kernel
theorem dX12_allPass_4 : decode cX12_allPass 4 = .ok (.iload_n 3, 1) := by decide +kernel
theorem dX12_allPass_40 : decode cX12_allPass 40 = .ok (.aload_n 0, 1) := by decide +kernel
theorem dX12_allPass_41 : decode cX12_allPass 41 = .ok (.invokevirtual 309, 3) := by decide +kernel
theorem dX12_allPass_44 : decode cX12_allPass 44 = .ok (.iinc 5 1, 3) := by decide +kernel
theorem dX12_allPass_47 : decode cX12_allPass 47 = .ok (.goto (-19), 3) := by decide +kernel
theorem dX12_allPass_5 : decode cX12_allPass 5 = .ok (.aload_n 0, 1) := by decide +kernel
theorem dX12_allPass_50 : decode cX12_allPass 50 = .ok (.iload_n 2, 1) := by decide +kernel
theorem dX12_allPass_51 : decode cX12_allPass 51 = .ok (.aload_n 0, 1) := by decide +kernel
theorem dX12_allPass_52 : decode cX12_allPass 52 = .ok (.iload_n 1, 1) := by decide +kernel
theorem dX12_allPass_53 : decode cX12_allPass 53 = .ok (.aload_n 0, 1) := by decide +kernel
theorem dX12_allPass_54 : decode cX12_allPass 54 = .ok (.getfield 29, 3) := by decide +kernel
theorem dX12_allPass_57 : decode cX12_allPass 57 = .ok (.iload 4, 2) := by decide +kernel
theorem dX12_allPass_59 : decode cX12_allPass 59 = .ok (.iconst 1, 1) := by decide +kernel
theorem dX12_allPass_6 : decode cX12_allPass 6 = .ok (.getfield 29, 3) := by decide +kernel
theorem dX12_allPass_60 : decode cX12_allPass 60 = .ok (.iadd, 1) := by decide +kernel
theorem dX12_allPass_61 : decode cX12_allPass 61 = .ok (.iaload, 1) := by decide +kernel
theorem dX12_allPass_62 : decode cX12_allPass 62 = .ok (.aload_n 0, 1) := by decide +kernel
theorem dX12_allPass_63 : decode cX12_allPass 63 = .ok (.getfield 29, 3) := by decide +kernel
theorem dX12_allPass_66 : decode cX12_allPass 66 = .ok (.iload 4, 2) := by decide +kernel
theorem dX12_allPass_68 : decode cX12_allPass 68 = .ok (.iconst 2, 1) := by decide +kernel
theorem dX12_allPass_69 : decode cX12_allPass 69 = .ok (.iadd, 1) := by decide +kernel
theorem dX12_allPass_70 : decode cX12_allPass 70 = .ok (.iaload, 1) := by decide +kernel
theorem dX12_allPass_71 : decode cX12_allPass 71 = .ok (.aload_n 0, 1) := by decide +kernel
theorem dX12_allPass_72 : decode cX12_allPass 72 = .ok (.getfield 29, 3) := by decide +kernel
theorem dX12_allPass_75 : decode cX12_allPass 75 = .ok (.iload 4, 2) := by decide +kernel
theorem dX12_allPass_77 : decode cX12_allPass 77 = .ok (.iconst 3, 1) := by decide +kernel
theorem dX12_allPass_78 : decode cX12_allPass 78 = .ok (.iadd, 1) := by decide +kernel
theorem dX12_allPass_79 : decode cX12_allPass 79 = .ok (.iaload, 1) := by decide +kernel
theorem dX12_allPass_80 : decode cX12_allPass 80 = .ok (.aload_n 0, 1) := by decide +kernel
theorem dX12_allPass_81 : decode cX12_allPass 81 = .ok (.getfield 29, 3) := by decide +kernel
theorem dX12_allPass_84 : decode cX12_allPass 84 = .ok (.iload 4, 2) := by decide +kernel
theorem dX12_allPass_86 : decode cX12_allPass 86 = .ok (.iconst 4, 1) := by decide +kernel
theorem dX12_allPass_87 : decode cX12_allPass 87 = .ok (.iadd, 1) := by decide +kernel
theorem dX12_allPass_88 : decode cX12_allPass 88 = .ok (.iaload, 1) := by decide +kernel
theorem dX12_allPass_89 : decode cX12_allPass 89 = .ok (.invokevirtual 374, 3) := by decide +kernel
theorem dX12_allPass_9 : decode cX12_allPass 9 = .ok (.sipush 252, 3) := by decide +kernel
theorem dX12_allPass_92 : decode cX12_allPass 92 = .ok (.iadd, 1) := by decide +kernel
theorem dX12_allPass_93 : decode cX12_allPass 93 = .ok (.istore_n 2, 1) := by decide +kernel
theorem dX12_allPass_94 : decode cX12_allPass 94 = .ok (.iinc 3 1, 3) := by decide +kernel
theorem dX12_allPass_97 : decode cX12_allPass 97 = .ok (.goto (-93), 3) := by decide +kernel
theorem dX12_car_0 : decode cX12_car 0 = .ok (.aload_n 0, 1) := by decide +kernel
theorem dX12_car_1 : decode cX12_car 1 = .ok (.iconst 0, 1) := by decide +kernel
theorem dX12_car_11 : decode cX12_car 11 = .ok (.ifCond .eq 30, 3) := by decide +kernel
theorem dX12_car_14 : decode cX12_car 14 = .ok (.aload_n 0, 1) := by decide +kernel
theorem dX12_car_15 : decode cX12_car 15 = .ok (.aload_n 0, 1) := by decide +kernel
theorem dX12_car_16 : decode cX12_car 16 = .ok (.iload_n 2, 1) := by decide +kernel
theorem dX12_car_17 : decode cX12_car 17 = .ok (.iload_n 3, 1) := by decide +kernel
theorem dX12_car_18 : decode cX12_car 18 = .ok (.iload 4, 2) := by decide +kernel
theorem dX12_car_2 : decode cX12_car 2 = .ok (.putfield 1, 3) := by decide +kernel
theorem dX12_car_20 : decode cX12_car 20 = .ok (.iload 5, 2) := by decide +kernel
theorem dX12_car_22 : decode cX12_car 22 = .ok (.invokevirtual 367, 3) := by decide +kernel
theorem dX12_car_25 : decode cX12_car 25 = .ok (.iconst 2, 1) := by decide +kernel
theorem dX12_car_26 : decode cX12_car 26 = .ok (.iconst 2, 1) := by decide +kernel
theorem dX12_car_27 : decode cX12_car 27 = .ok (.invokevirtual 175, 3) := by decide +kernel
theorem dX12_car_30 : decode cX12_car 30 = .ok (.ifCond .eq 11, 3) := by decide +kernel
theorem dX12_car_33 : decode cX12_car 33 = .ok (.aload_n 0, 1) := by decide +kernel
theorem dX12_car_34 : decode cX12_car 34 = .ok (.iconst 3, 1) := by decide +kernel
theorem dX12_car_35 : decode cX12_car 35 = .ok (.invokevirtual 371, 3) := by decide +kernel
theorem dX12_car_38 : decode cX12_car 38 = .ok (.ifCond .ne 5, 3) := by decide +kernel
theorem dX12_car_41 : decode cX12_car 41 = .ok (.iconst 0, 1) := by decide +kernel
theorem dX12_car_42 : decode cX12_car 42 = .ok (.ireturn, 1) := by decide +kernel
theorem dX12_car_43 : decode cX12_car 43 = .ok (.aload_n 0, 1) := by decide +kernel
theorem dX12_car_44 : decode cX12_car 44 = .ok (.iload_n 1, 1) := by decide +kernel
theorem dX12_car_45 : decode cX12_car 45 = .ok (.iload_n 2, 1) := by decide +kernel
theorem dX12_car_46 : decode cX12_car 46 = .ok (.iload_n 3, 1) := by decide +kernel
theorem dX12_car_47 : decode cX12_car 47 = .ok (.iload 4, 2) := by decide +kernel
theorem dX12_car_49 : decode cX12_car 49 = .ok (.iload 5, 2) := by decide +kernel
theorem dX12_car_5 : decode cX12_car 5 = .ok (.aload_n 0, 1) := by decide +kernel
theorem dX12_car_51 : decode cX12_car 51 = .ok (.invokevirtual 374, 3) := by decide +kernel
theorem dX12_car_54 : decode cX12_car 54 = .ok (.ireturn, 1) := by decide +kernel
theorem dX12_car_6 : decode cX12_car 6 = .ok (.iload_n 1, 1) := by decide +kernel
theorem dX12_car_7 : decode cX12_car 7 = .ok (.iconst 1, 1) := by decide +kernel
theorem dX12_car_8 : decode cX12_car 8 = .ok (.invokevirtual 334, 3) := by decide +kernel
theorem dX12_clear_0 : decode cX12_clear 0 = .ok (.aload_n 0, 1) := by decide +kernel
theorem dX12_clear_1 : decode cX12_clear 1 = .ok (.iconst 0, 1) := by decide +kernel
theorem dX12_clear_12 : decode cX12_clear 12 = .ok (.iaload, 1) := by decide +kernel
theorem dX12_clear_13 : decode cX12_clear 13 = .ok (.istore_n 1, 1) := by decide +kernel
theorem dX12_clear_14 : decode cX12_clear 14 = .ok (.aload_n 0, 1) := by decide +kernel
theorem dX12_clear_15 : decode cX12_clear 15 = .ok (.getfield 29, 3) := by decide +kernel
theorem dX12_clear_18 : decode cX12_clear 18 = .ok (.sipush 252, 3) := by decide +kernel
theorem dX12_clear_2 : decode cX12_clear 2 = .ok (.putfield 1, 3) := by decide +kernel
theorem dX12_clear_21 : decode cX12_clear 21 = .ok (.iconst 0, 1) := by decide +kernel
theorem dX12_clear_22 : decode cX12_clear 22 = .ok (.iastore, 1) := by decide +kernel
theorem dX12_clear_23 : decode cX12_clear 23 = .ok (.iload_n 1, 1) := by decide +kernel
theorem dX12_clear_24 : decode cX12_clear 24 = .ok (.ireturn, 1) := by decide +kernel
theorem dX12_clear_5 : decode cX12_clear 5 = .ok (.aload_n 0, 1) := by decide +kernel
theorem dX12_clear_6 : decode cX12_clear 6 = .ok (.getfield 29, 3) := by decide +kernel
theorem dX12_clear_9 : decode cX12_clear 9 = .ok (.sipush 252, 3) := by decide +kernel
theorem dX12_pass__0 : decode cX12_pass_ 0 = .ok (.aload_n 0, 1) := by decide +kernel
theorem dX12_pass__1 : decode cX12_pass_ 1 = .ok (.iconst 0, 1) := by decide +kernel
theorem dX12_pass__11 : decode cX12_pass_ 11 = .ok (.ifCond .eq 11, 3) := by decide +kernel
theorem dX12_pass__14 : decode cX12_pass_ 14 = .ok (.aload_n 0, 1) := by decide +kernel
theorem dX12_pass__15 : decode cX12_pass_ 15 = .ok (.iconst 2, 1) := by decide +kernel
theorem dX12_pass__16 : decode cX12_pass_ 16 = .ok (.invokevirtual 371, 3) := by decide +kernel
theorem dX12_pass__19 : decode cX12_pass_ 19 = .ok (.ifCond .ne 5, 3) := by decide +kernel
theorem dX12_pass__2 : decode cX12_pass_ 2 = .ok (.putfield 1, 3) := by decide +kernel
theorem dX12_pass__22 : decode cX12_pass_ 22 = .ok (.iconst 0, 1) := by decide +kernel
theorem dX12_pass__23 : decode cX12_pass_ 23 = .ok (.ireturn, 1) := by decide +kernel
theorem dX12_pass__24 : decode cX12_pass_ 24 = .ok (.aload_n 0, 1) := by decide +kernel
theorem dX12_pass__25 : decode cX12_pass_ 25 = .ok (.iload_n 1, 1) := by decide +kernel
theorem dX12_pass__26 : decode cX12_pass_ 26 = .ok (.invokevirtual 378, 3) := by decide +kernel
theorem dX12_pass__29 : decode cX12_pass_ 29 = .ok (.ireturn, 1) := by decide +kernel
theorem dX12_pass__5 : decode cX12_pass_ 5 = .ok (.aload_n 0, 1) := by decide +kernel
theorem dX12_pass__6 : decode cX12_pass_ 6 = .ok (.iload_n 1, 1) := by decide +kernel
theorem dX12_pass__7 : decode cX12_pass_ 7 = .ok (.iconst 1, 1) := by decide +kernel
theorem dX12_pass__8 : decode cX12_pass_ 8 = .ok (.invokevirtual 334, 3) := by decide +kernel
theorem dX12_traffic_0 : decode cX12_traffic 0 = .ok (.aload_n 0, 1) := by decide +kernel
theorem dX12_traffic_1 : decode cX12_traffic 1 = .ok (.iconst 0, 1) := by decide +kernel
theorem dX12_traffic_10 : decode cX12_traffic 10 = .ok (.invokestatic 279, 3) := by decide +kernel
theorem dX12_traffic_100 : decode cX12_traffic 100 = .ok (.iadd, 1) := by decide +kernel
theorem dX12_traffic_101 : decode cX12_traffic 101 = .ok (.iload_n 3, 1) := by decide +kernel
theorem dX12_traffic_102 : decode cX12_traffic 102 = .ok (.iastore, 1) := by decide +kernel
theorem dX12_traffic_103 : decode cX12_traffic 103 = .ok (.aload_n 0, 1) := by decide +kernel
theorem dX12_traffic_104 : decode cX12_traffic 104 = .ok (.getfield 29, 3) := by decide +kernel
theorem dX12_traffic_107 : decode cX12_traffic 107 = .ok (.iload 6, 2) := by decide +kernel
theorem dX12_traffic_109 : decode cX12_traffic 109 = .ok (.iconst 3, 1) := by decide +kernel
theorem dX12_traffic_110 : decode cX12_traffic 110 = .ok (.iadd, 1) := by decide +kernel
theorem dX12_traffic_111 : decode cX12_traffic 111 = .ok (.iload 4, 2) := by decide +kernel
theorem dX12_traffic_113 : decode cX12_traffic 113 = .ok (.iastore, 1) := by decide +kernel
theorem dX12_traffic_114 : decode cX12_traffic 114 = .ok (.aload_n 0, 1) := by decide +kernel
theorem dX12_traffic_115 : decode cX12_traffic 115 = .ok (.getfield 29, 3) := by decide +kernel
theorem dX12_traffic_118 : decode cX12_traffic 118 = .ok (.iload 6, 2) := by decide +kernel
theorem dX12_traffic_120 : decode cX12_traffic 120 = .ok (.iconst 4, 1) := by decide +kernel
theorem dX12_traffic_121 : decode cX12_traffic 121 = .ok (.iadd, 1) := by decide +kernel
theorem dX12_traffic_122 : decode cX12_traffic 122 = .ok (.iload 5, 2) := by decide +kernel
theorem dX12_traffic_124 : decode cX12_traffic 124 = .ok (.iastore, 1) := by decide +kernel
theorem dX12_traffic_125 : decode cX12_traffic 125 = .ok (.aload_n 0, 1) := by decide +kernel
theorem dX12_traffic_126 : decode cX12_traffic 126 = .ok (.getfield 29, 3) := by decide +kernel
theorem dX12_traffic_129 : decode cX12_traffic 129 = .ok (.sipush 252, 3) := by decide +kernel
theorem dX12_traffic_13 : decode cX12_traffic 13 = .ok (.ifCond .eq 20, 3) := by decide +kernel
theorem dX12_traffic_132 : decode cX12_traffic 132 = .ok (.dup2, 1) := by decide +kernel
theorem dX12_traffic_133 : decode cX12_traffic 133 = .ok (.iaload, 1) := by decide +kernel
theorem dX12_traffic_134 : decode cX12_traffic 134 = .ok (.iconst 1, 1) := by decide +kernel
theorem dX12_traffic_135 : decode cX12_traffic 135 = .ok (.iadd, 1) := by decide +kernel
theorem dX12_traffic_136 : decode cX12_traffic 136 = .ok (.iastore, 1) := by decide +kernel
theorem dX12_traffic_137 : decode cX12_traffic 137 = .ok (.aload_n 0, 1) := by decide +kernel
theorem dX12_traffic_138 : decode cX12_traffic 138 = .ok (.getfield 29, 3) := by decide +kernel
theorem dX12_traffic_141 : decode cX12_traffic 141 = .ok (.sipush 252, 3) := by decide +kernel
theorem dX12_traffic_144 : decode cX12_traffic 144 = .ok (.iaload, 1) := by decide +kernel
theorem dX12_traffic_145 : decode cX12_traffic 145 = .ok (.ireturn, 1) := by decide +kernel
theorem dX12_traffic_16 : decode cX12_traffic 16 = .ok (.aload_n 0, 1) := by decide +kernel
theorem dX12_traffic_17 : decode cX12_traffic 17 = .ok (.iload_n 2, 1) := by decide +kernel
theorem dX12_traffic_18 : decode cX12_traffic 18 = .ok (.iload_n 3, 1) := by decide +kernel
theorem dX12_traffic_19 : decode cX12_traffic 19 = .ok (.iload 4, 2) := by decide +kernel
theorem dX12_traffic_2 : decode cX12_traffic 2 = .ok (.putfield 1, 3) := by decide +kernel
theorem dX12_traffic_21 : decode cX12_traffic 21 = .ok (.iload 5, 2) := by decide +kernel
theorem dX12_traffic_23 : decode cX12_traffic 23 = .ok (.invokevirtual 367, 3) := by decide +kernel
theorem dX12_traffic_26 : decode cX12_traffic 26 = .ok (.ifCond .eq 7, 3) := by decide +kernel
theorem dX12_traffic_29 : decode cX12_traffic 29 = .ok (.iconst 1, 1) := by decide +kernel
theorem dX12_traffic_30 : decode cX12_traffic 30 = .ok (.goto 4, 3) := by decide +kernel
theorem dX12_traffic_33 : decode cX12_traffic 33 = .ok (.iconst 0, 1) := by decide +kernel
theorem dX12_traffic_34 : decode cX12_traffic 34 = .ok (.iconst 1, 1) := by decide +kernel
theorem dX12_traffic_35 : decode cX12_traffic 35 = .ok (.iconst 2, 1) := by decide +kernel
theorem dX12_traffic_36 : decode cX12_traffic 36 = .ok (.invokevirtual 175, 3) := by decide +kernel
theorem dX12_traffic_39 : decode cX12_traffic 39 = .ok (.ifCond .ne 5, 3) := by decide +kernel
theorem dX12_traffic_42 : decode cX12_traffic 42 = .ok (.iconst 0, 1) := by decide +kernel
theorem dX12_traffic_43 : decode cX12_traffic 43 = .ok (.ireturn, 1) := by decide +kernel
theorem dX12_traffic_44 : decode cX12_traffic 44 = .ok (.aload_n 0, 1) := by decide +kernel
theorem dX12_traffic_45 : decode cX12_traffic 45 = .ok (.getfield 29, 3) := by decide +kernel
theorem dX12_traffic_48 : decode cX12_traffic 48 = .ok (.sipush 252, 3) := by decide +kernel
theorem dX12_traffic_5 : decode cX12_traffic 5 = .ok (.aload_n 0, 1) := by decide +kernel
theorem dX12_traffic_51 : decode cX12_traffic 51 = .ok (.iaload, 1) := by decide +kernel
theorem dX12_traffic_52 : decode cX12_traffic 52 = .ok (.bipush 20, 2) := by decide +kernel
theorem dX12_traffic_54 : decode cX12_traffic 54 = .ok (.if_icmp .ne 5, 3) := by decide +kernel
theorem dX12_traffic_57 : decode cX12_traffic 57 = .ok (.iconst (-1), 1) := by decide +kernel
theorem dX12_traffic_58 : decode cX12_traffic 58 = .ok (.ireturn, 1) := by decide +kernel
theorem dX12_traffic_59 : decode cX12_traffic 59 = .ok (.sipush 253, 3) := by decide +kernel
theorem dX12_traffic_6 : decode cX12_traffic 6 = .ok (.iload_n 1, 1) := by decide +kernel
theorem dX12_traffic_62 : decode cX12_traffic 62 = .ok (.iconst 5, 1) := by decide +kernel
theorem dX12_traffic_63 : decode cX12_traffic 63 = .ok (.aload_n 0, 1) := by decide +kernel
theorem dX12_traffic_64 : decode cX12_traffic 64 = .ok (.getfield 29, 3) := by decide +kernel
theorem dX12_traffic_67 : decode cX12_traffic 67 = .ok (.sipush 252, 3) := by decide +kernel
theorem dX12_traffic_7 : decode cX12_traffic 7 = .ok (.iconst 0, 1) := by decide +kernel
theorem dX12_traffic_70 : decode cX12_traffic 70 = .ok (.iaload, 1) := by decide +kernel
theorem dX12_traffic_71 : decode cX12_traffic 71 = .ok (.imul, 1) := by decide +kernel
theorem dX12_traffic_72 : decode cX12_traffic 72 = .ok (.iadd, 1) := by decide +kernel
theorem dX12_traffic_73 : decode cX12_traffic 73 = .ok (.istore 6, 2) := by decide +kernel
theorem dX12_traffic_75 : decode cX12_traffic 75 = .ok (.aload_n 0, 1) := by decide +kernel
theorem dX12_traffic_76 : decode cX12_traffic 76 = .ok (.getfield 29, 3) := by decide +kernel
theorem dX12_traffic_79 : decode cX12_traffic 79 = .ok (.iload 6, 2) := by decide +kernel
theorem dX12_traffic_8 : decode cX12_traffic 8 = .ok (.bipush 99, 2) := by decide +kernel
theorem dX12_traffic_81 : decode cX12_traffic 81 = .ok (.iload_n 1, 1) := by decide +kernel
theorem dX12_traffic_82 : decode cX12_traffic 82 = .ok (.iastore, 1) := by decide +kernel
theorem dX12_traffic_83 : decode cX12_traffic 83 = .ok (.aload_n 0, 1) := by decide +kernel
theorem dX12_traffic_84 : decode cX12_traffic 84 = .ok (.getfield 29, 3) := by decide +kernel
theorem dX12_traffic_87 : decode cX12_traffic 87 = .ok (.iload 6, 2) := by decide +kernel
theorem dX12_traffic_89 : decode cX12_traffic 89 = .ok (.iconst 1, 1) := by decide +kernel
theorem dX12_traffic_90 : decode cX12_traffic 90 = .ok (.iadd, 1) := by decide +kernel
theorem dX12_traffic_91 : decode cX12_traffic 91 = .ok (.iload_n 2, 1) := by decide +kernel
theorem dX12_traffic_92 : decode cX12_traffic 92 = .ok (.iastore, 1) := by decide +kernel
theorem dX12_traffic_93 : decode cX12_traffic 93 = .ok (.aload_n 0, 1) := by decide +kernel
theorem dX12_traffic_94 : decode cX12_traffic 94 = .ok (.getfield 29, 3) := by decide +kernel
theorem dX12_traffic_97 : decode cX12_traffic 97 = .ok (.iload 6, 2) := by decide +kernel
theorem dX12_traffic_99 : decode cX12_traffic 99 = .ok (.iconst 2, 1) := by decide +kernel
def vs_m_car : List Cond := .code yX12_car cX12_car 6 (some .int) :: (([.fieldLink RX12 1 "KerbSplashModel" "thrown" "I"] : List Cond) ++ ((wsX120) ++ ((wsV RX12 334 RX12 yX12_isLaw vs_m_isLaw) ++ ((wsV RX12 367 RX12 yX12_isCar vs_m_isCar) ++ ((wsV RX12 175 RX12 yX12_may vs_m_may) ++ ((wsV RX12 371 RX12 yX12_isStreet vs_m_isStreet) ++ ((wsV RX12 374 RX12 yX12_passes vs_m_passes) ++ ([]))))))))
set_option maxHeartbeats 4000000 in
set_option maxRecDepth 100000 in
theorem m_car (l : Launch) (hl : l.stackTraces = false) (D : va_G) (cy : Nat → ClassId) (sa : Nat → Nat) (mm m1 m9 m10 m11 m12 m13 m14 m15 m19 m20 m21 m23 m24 m25 m26 m27 m28 m33 m35 : Nat) (th tp sz_ ap bad bk opn fp im nr nl sp_ wtc wcl ir ip shu sfa swr : Int) (f1 f10 f12 f23 f24 f25 f26 f27 f28 : Nat → Int32) (n p1 p2 p3 p4 : Int) (qs : Nat → Int) (sz : Nat) (hr_th : (-2147483648) ≤ th ∧ th ≤ 2147483647) (hr_tp : 0 ≤ tp ∧ tp ≤ 600) (hr_sz_ : 0 ≤ sz_ ∧ sz_ ≤ 600) (hr_ap : 0 ≤ ap ∧ ap ≤ 602) (hr_bad : (-1) ≤ bad ∧ bad ≤ 602) (hr_bk : 0 ≤ bk ∧ bk ≤ 4) (hr_opn : 0 ≤ opn ∧ opn ≤ 7) (hr_fp : (-2147483648) ≤ fp ∧ fp ≤ 2147483647) (hr_im : 0 ≤ im ∧ im ≤ 3) (hr_nr : 0 ≤ nr ∧ nr ≤ 4) (hr_nl : 0 ≤ nl ∧ nl ≤ 4) (hr_sp_ : 0 ≤ sp_ ∧ sp_ ≤ 602) (hr_wtc : (-2147483648) ≤ wtc ∧ wtc ≤ 2147483647) (hr_wcl : 0 ≤ wcl ∧ wcl ≤ 95) (hr_ir : 0 ≤ ir ∧ ir ≤ 5) (hr_ip : (-2147483648) ≤ ip ∧ ip ≤ 2147483647) (hr_shu : (-2147483648) ≤ shu ∧ shu ≤ 2147483647) (hr_sfa : (-2147483648) ≤ sfa ∧ sfa ≤ 2147483647) (hr_swr : (-2147483648) ≤ swr ∧ swr ≤ 2147483647) (hr_n : (-2147483648) ≤ n ∧ n ≤ 2147483647) (hr_p1 : (-2147483648) ≤ p1 ∧ p1 ≤ 2147483647) (hr_p2 : (-2147483648) ≤ p2 ∧ p2 ≤ 2147483647) (hr_p3 : (-2147483648) ≤ p3 ∧ p3 ≤ 2147483647) (hr_p4 : (-2147483648) ≤ p4 ∧ p4 ≤ 2147483647) (hn_li : LI nl f23 f24 f25 f26) (hf10 : BI f10) (hf12 : SQ qs 8 f12) : mI9 l yX12_car vs_m_car ({ frames := 3, cells := 0, slots := 0, locals := 85 }) D cy sa sz [vR mm, vI n, vI p1, vI p2, vI p3, vI p4] [zO mm 12 [vI th, vR m1, vI tp, vI sz_, vI ap, vI bad, vI bk, vI opn, vI fp, vR m9, vR m10, vR m11, vR m12, vR m13, vR m14, vR m15, vI im, vI nr, vI nl, vR m19, vR m20, vR m21, vI sp_, vR m23, vR m24, vR m25, vR m26, vR m27, vR m28, vI wtc, vI wcl, vI ir, vI ip, vR m33, vI shu, vR m35, vI sfa, vI swr], zI m1 (cy 0) 4 f1, zI m10 (cy 0) 68 f10, zI m12 (cy 0) 389 f12, zI m23 (cy 0) 2480 f23, zI m24 (cy 0) 2480 f24, zI m25 (cy 0) 20 f25, zI m26 (cy 0) 20 f26, zI m27 (cy 0) 620 f27, zI m28 (cy 0) 7 f28] (fun (r : Int32) (u : SV) => r = iI (u.2.1 0) ∧ ((-2147483648) ≤ u.2.1 1 ∧ u.2.1 1 ≤ 2147483647) ∧ (0 ≤ u.2.1 2 ∧ u.2.1 2 ≤ 5) ∧ ((-2147483648) ≤ u.2.1 3 ∧ u.2.1 3 ≤ 2147483647) ∧ ((-2147483648) ≤ u.2.1 0 ∧ u.2.1 0 ≤ 2147483647) ∧ BI f10 ∧ SQ qs 8 (u.2.2 1)) (fun u : SV => [zO mm 12 [vI (u.2.1 1), vR m1, vI tp, vI sz_, vI ap, vI bad, vI bk, vI opn, vI fp, vR m9, vR m10, vR m11, vR m12, vR m13, vR m14, vR m15, vI im, vI nr, vI nl, vR m19, vR m20, vR m21, vI sp_, vR m23, vR m24, vR m25, vR m26, vR m27, vR m28, vI wtc, vI wcl, vI (u.2.1 2), vI (u.2.1 3), vR m33, vI shu, vR m35, vI sfa, vI swr], zI m1 (cy 0) 4 (u.2.2 0), zI m10 (cy 0) 68 f10, zI m12 (cy 0) 389 (u.2.2 1), zI m23 (cy 0) 2480 f23, zI m24 (cy 0) 2480 f24, zI m25 (cy 0) 20 f25, zI m26 (cy 0) 20 f26, zI m27 (cy 0) 620 (u.2.2 2), zI m28 (cy 0) 7 (u.2.2 3)]) 0 0 := by
  refine Met.ofW (cc := cX12_car) (maxL := 6) (ret := (some .int)) (by decide) rfl ?_
  intro p e s m args below meth c s₁ B hml hv
  obtain ⟨rfl, hsz, hP, hG, hD0, hT⟩ := hv
  have hx := B.exec
  have hb := B.bytes
  have hr := B.returns
  have hts := atoms_spec (ws := vs_m_car) B.pre
  have hown : s.vm.findClass RX12 = some m.cls := findClass_of_methodNamed B.named
  have hlocks := B.notSynchronized
  subst hsz
  have hD := hD0.self (sz := s.heap.size)
  generalize hAe : va_A [zO mm 12 [vI th, vR m1, vI tp, vI sz_, vI ap, vI bad, vI bk, vI opn, vI fp, vR m9, vR m10, vR m11, vR m12, vR m13, vR m14, vR m15, vI im, vI nr, vI nl, vR m19, vR m20, vR m21, vI sp_, vR m23, vR m24, vR m25, vR m26, vR m27, vR m28, vI wtc, vI wcl, vI ir, vI ip, vR m33, vI shu, vR m35, vI sfa, vI swr], zI m1 (cy 0) 4 f1, zI m10 (cy 0) 68 f10, zI m12 (cy 0) 389 f12, zI m23 (cy 0) 2480 f23, zI m24 (cy 0) 2480 f24, zI m25 (cy 0) 20 f25, zI m26 (cy 0) 20 f26, zI m27 (cy 0) 620 f27, zI m28 (cy 0) 7 f28] s.heap.size = A at hD hT ⊢
  have hA : ∀ q : Nat, s.heap.size ≤ q → A q := fun q h => by rw [← hAe]; exact Or.inr h
  have hS : va_S A s.heap s.heap [] := va_S.rf
  have hl0 := lv_entry ([vR mm, vI n, vI p1, vI p2, vI p3, vI p4]) (n := 6) (Nat.le_of_ble_eq_true rfl)
  rw [lg_entry_eq]
  generalize (lg_sl ([vR mm, vI n, vI p1, vI p2, vI p3, vI p4]) ++ List.replicate (6 - (lg_sl ([vR mm, vI n, vI p1, vI p2, vI p3, vI p4])).length) Slot.unset).toArray = ls at hl0 ⊢
  have hlv : lv_has ls 6 [(0, vR mm), (1, vI n), (2, vI p1), (3, vI p2), (4, vI p3), (5, vI p4)] := hl0
  have lf1 := hts (.fieldLink RX12 1 "KerbSplashModel" "thrown" "I") (List.mem_of_getElem? (i := 1) rfl)
  have hi12 : ∀ w ∈ wsX120, w ∈ vs_m_car := fun w h => List.mem_cons_of_mem _ (List.mem_append_right _ (List.mem_append_left _ h))
  have gg_1 : GoodIn vs_m_car (wsV RX12 334 RX12 yX12_isLaw vs_m_isLaw) := goodIn_sub (fun w h => List.mem_cons_of_mem _ (List.mem_append_right _ (List.mem_append_right _ (List.mem_append_left _ h)))) (gd_V gd_m_isLaw (by decide +kernel))
  have gg_2 : GoodIn vs_m_car (wsV RX12 367 RX12 yX12_isCar vs_m_isCar) := goodIn_sub (fun w h => List.mem_cons_of_mem _ (List.mem_append_right _ (List.mem_append_right _ (List.mem_append_right _ (List.mem_append_left _ h))))) (gd_V gd_m_isCar (by decide +kernel))
  have gg_3 : GoodIn vs_m_car (wsV RX12 175 RX12 yX12_may vs_m_may) := goodIn_sub (fun w h => List.mem_cons_of_mem _ (List.mem_append_right _ (List.mem_append_right _ (List.mem_append_right _ (List.mem_append_right _ (List.mem_append_left _ h)))))) (gd_V gd_m_may (by decide +kernel))
  have gg_4 : GoodIn vs_m_car (wsV RX12 371 RX12 yX12_isStreet vs_m_isStreet) := goodIn_sub (fun w h => List.mem_cons_of_mem _ (List.mem_append_right _ (List.mem_append_right _ (List.mem_append_right _ (List.mem_append_right _ (List.mem_append_right _ (List.mem_append_left _ h))))))) (gd_V gd_m_isStreet (by decide +kernel))
  have gg_5 : GoodIn vs_m_car (wsV RX12 374 RX12 yX12_passes vs_m_passes) := goodIn_sub (fun w h => List.mem_cons_of_mem _ (List.mem_append_right _ (List.mem_append_right _ (List.mem_append_right _ (List.mem_append_right _ (List.mem_append_right _ (List.mem_append_right _ (List.mem_append_left _ h)))))))) (gd_V gd_m_passes (by decide +kernel))
  refine lv_aload_n hx hb dX12_car_0 rfl (lv_at hlv 0 rfl) ?_
  refine lv_iconst (v := iI 0) hx hb dX12_car_1 (by decide) ?_
  refine va_put (D := D) (ci := 12) (v := vI 0) (ty := .int) (C := RX12) (T := TX12) (N := 38) hx hb hts hi12 tyX12 tyX12_ok nmX12 hown hG.1 hP hD hS 0 rfl rfl 0 (by decide) lf1 (fun _ h9 => h9) rfl (by decide +kernel) rfl rfl (Nat.le_of_ble_eq_true rfl) dX12_car_2 (fun H locs hP hD hS => ?_)
  obtain ⟨hP, hD⟩ := pw9 [zO mm 12 [vI 0, vR m1, vI tp, vI sz_, vI ap, vI bad, vI bk, vI opn, vI fp, vR m9, vR m10, vR m11, vR m12, vR m13, vR m14, vR m15, vI im, vI nr, vI nl, vR m19, vR m20, vR m21, vI sp_, vR m23, vR m24, vR m25, vR m26, vR m27, vR m28, vI wtc, vI wcl, vI ir, vI ip, vR m33, vI shu, vR m35, vI sfa, vI swr], zI m1 (cy 0) 4 f1, zI m10 (cy 0) 68 f10, zI m12 (cy 0) 389 f12, zI m23 (cy 0) 2480 f23, zI m24 (cy 0) 2480 f24, zI m25 (cy 0) 20 f25, zI m26 (cy 0) 20 f26, zI m27 (cy 0) 620 f27, zI m28 (cy 0) 7 f28] hP hD
  refine lv_aload_n hx hb dX12_car_5 rfl (lv_at hlv 0 rfl) ?_
  refine lv_iload_n hx hb dX12_car_6 rfl (lv_at hlv 1 rfl) ?_
  refine lv_iconst (v := iI 1) hx hb dX12_car_7 (by decide) ?_
  refine cjr_i [false, false, true, true, true, true, true, true, true, true] (fun pre9 => (va_runV (As := [vI n, vI 1]) (rest := []) ⟨hx, hb, hml, hown, hts⟩ (m_isLaw l hl D cy sa mm m1 m9 m10 m11 m12 m13 m14 m15 m19 m20 m21 m23 m24 m25 m26 m27 m28 m33 m35 0 tp sz_ ap bad bk opn fp im nr nl sp_ wtc wcl ir ip shu sfa swr f1 n 1 H.size (by show ((-2147483648) : Int) ≤ 0 ∧ (0 : Int) ≤ 2147483647; decide) (by first | exact hr_tp | omega) (by first | exact hr_sz_ | omega) (by first | exact hr_ap | omega) (by first | exact hr_bad | omega) (by first | exact hr_bk | omega) (by first | exact hr_opn | omega) (by first | exact hr_fp | omega) (by first | exact hr_im | omega) (by first | exact hr_nr | omega) (by first | exact hr_nl | omega) (by first | exact hr_sp_ | omega) (by first | exact hr_wtc | omega) (by first | exact hr_wcl | omega) (by first | exact hr_ir | omega) (by first | exact hr_ip | omega) (by first | exact hr_shu | omega) (by first | exact hr_sfa | omega) (by first | exact hr_swr | omega) (by first | exact hr_n | omega) (by show (1 : Int) ≤ 1 ∧ (1 : Int) ≤ 4; decide)) (cwV 2 hts gg_1 rfl rfl rfl (by decide +kernel) ⟨Nat.le_of_ble_eq_true rfl, Nat.le_of_ble_eq_true rfl⟩) ⟨pcW.blind, (va_recv hG.1 hP (ci := 12) (q0 := 0) rfl rfl), pre9⟩ rfl rfl hlv.1 rfl (lv_room (Nat.le_of_ble_eq_true rfl)) dX12_car_8 ⟨Nat.le_of_ble_eq_true rfl, Nat.le_of_ble_eq_true rfl⟩)) hP hD hS hA hG hT [0, 1] rfl (by decide +kernel) (fun r1 u1 H locs hw1 hq9 hS => ?_)
  obtain ⟨rfl, hq1_1, hq1_2, hq1_3⟩ := hw1
  obtain ⟨hP, hD⟩ := pd9 [zI m10 (cy 0) 68 f10, zI m12 (cy 0) 389 f12, zI m23 (cy 0) 2480 f23, zI m24 (cy 0) 2480 f24, zI m25 (cy 0) 20 f25, zI m26 (cy 0) 20 f26, zI m27 (cy 0) 620 f27, zI m28 (cy 0) 7 f28, zO mm 12 [vI (u1.2.1 1), vR m1, vI tp, vI sz_, vI ap, vI bad, vI bk, vI opn, vI fp, vR m9, vR m10, vR m11, vR m12, vR m13, vR m14, vR m15, vI im, vI nr, vI nl, vR m19, vR m20, vR m21, vI sp_, vR m23, vR m24, vR m25, vR m26, vR m27, vR m28, vI wtc, vI wcl, vI ir, vI ip, vR m33, vI shu, vR m35, vI sfa, vI swr], zI m1 (cy 0) 4 (u1.2.2 0)] hq9
  refine iz_eq (tgt := 41) hx hb dX12_car_11 (by decide) (by first | exact rgw hq1_2 (by decide) (by decide) | omega) (fun c_1 => ?_) (fun c_1 => ?_)
  · refine lv_iconst (v := iI 0) hx hb dX12_car_41 (by decide) ?_
    refine W.widen (k := 0) (n := 0) (Nat.le_of_ble_eq_true rfl) (Nat.le_of_ble_eq_true rfl) ?_
    exact W.iret (v := iI 0) hx hb hr (fun t ht hW => ⟨⟨iI 0, ((fun k => ([] : List Nat).getD k 0), (fun k => ([0, (u1.2.1 1), ir, ip] : List Int).getD k 0), (fun k => ([(u1.2.2 0), f12, f27, f28] : List (Nat → Int32)).getD k (fun _ => 0))), rfl, ⟨rfl, (by show ((-2147483648) ≤ (u1.2.1 1) ∧ (u1.2.1 1) ≤ 2147483647); first | exact hq1_1 | omega), (by show (0 ≤ ir ∧ ir ≤ 5); first | exact hr_ir | omega), (by show ((-2147483648) ≤ ip ∧ ip ≤ 2147483647); first | exact hr_ip | omega), (by show ((-2147483648) ≤ 0 ∧ 0 ≤ 2147483647); show ((-2147483648) : Int) ≤ 0 ∧ (0 : Int) ≤ 2147483647; decide), hf10, hf12⟩, at9 ht hP hD [8, 9, 0, 1, 2, 3, 4, 5, 6, 7] (by decide +kernel) rfl⟩, hS.F ht⟩) hS.2.2 dX12_car_42
  · refine lv_aload_n hx hb dX12_car_14 rfl (lv_at hlv 0 rfl) ?_
    refine lv_aload_n hx hb dX12_car_15 rfl (lv_at hlv 0 rfl) ?_
    refine lv_iload_n hx hb dX12_car_16 rfl (lv_at hlv 2 rfl) ?_
    refine lv_iload_n hx hb dX12_car_17 rfl (lv_at hlv 3 rfl) ?_
    refine lv_iload hx hb dX12_car_18 (lv_at hlv 4 rfl) ?_
    refine lv_iload hx hb dX12_car_20 (lv_at hlv 5 rfl) ?_
    refine cjr_i [false, true, true, true, true, true, true, true, false, true] (fun pre9 => (va_runV (As := [vI p1, vI p2, vI p3, vI p4]) (rest := [vR mm]) ⟨hx, hb, hml, hown, hts⟩ (m_isCar l hl D cy sa mm m1 m9 m10 m11 m12 m13 m14 m15 m19 m20 m21 m23 m24 m25 m26 m27 m28 m33 m35 (u1.2.1 1) tp sz_ ap bad bk opn fp im nr nl sp_ wtc wcl ir ip shu sfa swr f10 p1 p2 p3 p4 H.size (by first | exact hq1_1 | omega) (by first | exact hr_tp | omega) (by first | exact hr_sz_ | omega) (by first | exact hr_ap | omega) (by first | exact hr_bad | omega) (by first | exact hr_bk | omega) (by first | exact hr_opn | omega) (by first | exact hr_fp | omega) (by first | exact hr_im | omega) (by first | exact hr_nr | omega) (by first | exact hr_nl | omega) (by first | exact hr_sp_ | omega) (by first | exact hr_wtc | omega) (by first | exact hr_wcl | omega) (by first | exact hr_ir | omega) (by first | exact hr_ip | omega) (by first | exact hr_shu | omega) (by first | exact hr_sfa | omega) (by first | exact hr_swr | omega) (by first | exact hr_p1 | omega) (by first | exact hr_p2 | omega) (by first | exact hr_p3 | omega) (by first | exact hr_p4 | omega) hf10) (cwV 4 hts gg_2 rfl rfl rfl (by decide +kernel) ⟨Nat.le_of_ble_eq_true rfl, Nat.le_of_ble_eq_true rfl⟩) ⟨pcW.blind, (va_recv hG.1 hP (ci := 12) (q0 := 8) rfl rfl), pre9⟩ rfl rfl hlv.1 rfl (lv_room (Nat.le_of_ble_eq_true rfl)) dX12_car_22 ⟨Nat.le_of_ble_eq_true rfl, Nat.le_of_ble_eq_true rfl⟩)) hP hD hS hA hG hT [8, 0] rfl (by decide +kernel) (fun r2 u2 H locs hw2 hq9 hS => ?_)
    obtain ⟨rfl, hq2_1, hq2_2, hq2_3⟩ := hw2
    obtain ⟨hP, hD⟩ := pd9 [zI m12 (cy 0) 389 f12, zI m23 (cy 0) 2480 f23, zI m24 (cy 0) 2480 f24, zI m25 (cy 0) 20 f25, zI m26 (cy 0) 20 f26, zI m27 (cy 0) 620 f27, zI m28 (cy 0) 7 f28, zI m1 (cy 0) 4 (u1.2.2 0), zO mm 12 [vI (u1.2.1 1), vR m1, vI tp, vI sz_, vI ap, vI bad, vI bk, vI opn, vI fp, vR m9, vR m10, vR m11, vR m12, vR m13, vR m14, vR m15, vI im, vI nr, vI nl, vR m19, vR m20, vR m21, vI sp_, vR m23, vR m24, vR m25, vR m26, vR m27, vR m28, vI wtc, vI wcl, vI ir, vI ip, vR m33, vI shu, vR m35, vI sfa, vI swr], zI m10 (cy 0) 68 f10] hq9
    refine lv_iconst (v := iI 2) hx hb dX12_car_25 (by decide) ?_
    refine lv_iconst (v := iI 2) hx hb dX12_car_26 (by decide) ?_
    refine cjr_i [true, true, true, true, true, true, true, false, false, true] (fun pre9 => (va_runV (As := [vI (u2.2.1 0), vI 2, vI 2]) (rest := []) ⟨hx, hb, hml, hown, hts⟩ (m_may l hl D cy sa mm m1 m9 m10 m11 m12 m13 m14 m15 m19 m20 m21 m23 m24 m25 m26 m27 m28 m33 m35 (u1.2.1 1) tp sz_ ap bad bk opn fp im nr nl sp_ wtc wcl ir ip shu sfa swr (u1.2.2 0) (u2.2.1 0) 2 2 H.size (by first | exact hq1_1 | omega) (by first | exact hr_tp | omega) (by first | exact hr_sz_ | omega) (by first | exact hr_ap | omega) (by first | exact hr_bad | omega) (by first | exact hr_bk | omega) (by first | exact hr_opn | omega) (by first | exact hr_fp | omega) (by first | exact hr_im | omega) (by first | exact hr_nr | omega) (by first | exact hr_nl | omega) (by first | exact hr_sp_ | omega) (by first | exact hr_wtc | omega) (by first | exact hr_wcl | omega) (by first | exact hr_ir | omega) (by first | exact hr_ip | omega) (by first | exact hr_shu | omega) (by first | exact hr_sfa | omega) (by first | exact hr_swr | omega) (by first | exact hq2_1 | omega) (by show (1 : Int) ≤ 2 ∧ (2 : Int) ≤ 4; decide) (by show (0 : Int) ≤ 2 ∧ (2 : Int) ≤ 3; decide)) (cwV 3 hts gg_3 rfl rfl rfl (by decide +kernel) ⟨Nat.le_of_ble_eq_true rfl, Nat.le_of_ble_eq_true rfl⟩) ⟨pcW.blind, (va_recv hG.1 hP (ci := 12) (q0 := 8) rfl rfl), pre9⟩ rfl rfl hlv.1 rfl (lv_room (Nat.le_of_ble_eq_true rfl)) dX12_car_27 ⟨Nat.le_of_ble_eq_true rfl, Nat.le_of_ble_eq_true rfl⟩)) hP hD hS hA hG hT [8, 7] rfl (by decide +kernel) (fun r3 u3 H locs hw3 hq9 hS => ?_)
    obtain ⟨rfl, hq3_1, hq3_2, hq3_3, hq3_4⟩ := hw3
    obtain ⟨hP, hD⟩ := pd9 [zI m12 (cy 0) 389 f12, zI m23 (cy 0) 2480 f23, zI m24 (cy 0) 2480 f24, zI m25 (cy 0) 20 f25, zI m26 (cy 0) 20 f26, zI m27 (cy 0) 620 f27, zI m28 (cy 0) 7 f28, zI m10 (cy 0) 68 f10, zO mm 12 [vI (u3.2.1 1), vR m1, vI tp, vI sz_, vI ap, vI bad, vI bk, vI opn, vI fp, vR m9, vR m10, vR m11, vR m12, vR m13, vR m14, vR m15, vI im, vI nr, vI nl, vR m19, vR m20, vR m21, vI sp_, vR m23, vR m24, vR m25, vR m26, vR m27, vR m28, vI wtc, vI wcl, vI ir, vI ip, vR m33, vI shu, vR m35, vI sfa, vI swr], zI m1 (cy 0) 4 (u3.2.2 0)] hq9
    refine iz_eq (tgt := 41) hx hb dX12_car_30 (by decide) (by first | exact rgw hq3_2 (by decide) (by decide) | omega) (fun c_2 => ?_) (fun c_2 => ?_)
    · refine lv_iconst (v := iI 0) hx hb dX12_car_41 (by decide) ?_
      refine W.widen (k := 0) (n := 0) (Nat.le_of_ble_eq_true rfl) (Nat.le_of_ble_eq_true rfl) ?_
      exact W.iret (v := iI 0) hx hb hr (fun t ht hW => ⟨⟨iI 0, ((fun k => ([] : List Nat).getD k 0), (fun k => ([0, (u3.2.1 1), ir, ip] : List Int).getD k 0), (fun k => ([(u3.2.2 0), f12, f27, f28] : List (Nat → Int32)).getD k (fun _ => 0))), rfl, ⟨rfl, (by show ((-2147483648) ≤ (u3.2.1 1) ∧ (u3.2.1 1) ≤ 2147483647); first | exact hq3_1 | omega), (by show (0 ≤ ir ∧ ir ≤ 5); first | exact hr_ir | omega), (by show ((-2147483648) ≤ ip ∧ ip ≤ 2147483647); first | exact hr_ip | omega), (by show ((-2147483648) ≤ 0 ∧ 0 ≤ 2147483647); show ((-2147483648) : Int) ≤ 0 ∧ (0 : Int) ≤ 2147483647; decide), hq2_3, hf12⟩, at9 ht hP hD [8, 9, 7, 0, 1, 2, 3, 4, 5, 6] (by decide +kernel) rfl⟩, hS.F ht⟩) hS.2.2 dX12_car_42
    · refine lv_aload_n hx hb dX12_car_33 rfl (lv_at hlv 0 rfl) ?_
      refine lv_iconst (v := iI 3) hx hb dX12_car_34 (by decide) ?_
      refine cjr_i [true, true, true, true, true, true, true, false, false, false] (fun pre9 => (va_runV (As := [vI 3]) (rest := []) ⟨hx, hb, hml, hown, hts⟩ (m_isStreet l hl D cy sa mm m1 m9 m10 m11 m12 m13 m14 m15 m19 m20 m21 m23 m24 m25 m26 m27 m28 m33 m35 (u3.2.1 1) tp sz_ ap bad bk opn fp im nr nl sp_ wtc wcl ir ip shu sfa swr (u3.2.2 0) f10 3 H.size (by first | exact hq3_1 | omega) (by first | exact hr_tp | omega) (by first | exact hr_sz_ | omega) (by first | exact hr_ap | omega) (by first | exact hr_bad | omega) (by first | exact hr_bk | omega) (by first | exact hr_opn | omega) (by first | exact hr_fp | omega) (by first | exact hr_im | omega) (by first | exact hr_nr | omega) (by first | exact hr_nl | omega) (by first | exact hr_sp_ | omega) (by first | exact hr_wtc | omega) (by first | exact hr_wcl | omega) (by first | exact hr_ir | omega) (by first | exact hr_ip | omega) (by first | exact hr_shu | omega) (by first | exact hr_sfa | omega) (by first | exact hr_swr | omega) (by show (1 : Int) ≤ 3 ∧ (3 : Int) ≤ 4; decide) hq2_3) (cwV 1 hts gg_4 rfl rfl rfl (by decide +kernel) ⟨Nat.le_of_ble_eq_true rfl, Nat.le_of_ble_eq_true rfl⟩) ⟨pcW.blind, (va_recv hG.1 hP (ci := 12) (q0 := 8) rfl rfl), pre9⟩ rfl rfl hlv.1 rfl (lv_room (Nat.le_of_ble_eq_true rfl)) dX12_car_35 ⟨Nat.le_of_ble_eq_true rfl, Nat.le_of_ble_eq_true rfl⟩)) hP hD hS hA hG hT [8, 9, 7] rfl (by decide +kernel) (fun r4 u4 H locs hw4 hq9 hS => ?_)
      obtain ⟨rfl, hq4_1, hq4_2, hq4_3, hq4_4⟩ := hw4
      obtain ⟨hP, hD⟩ := pd9 [zI m12 (cy 0) 389 f12, zI m23 (cy 0) 2480 f23, zI m24 (cy 0) 2480 f24, zI m25 (cy 0) 20 f25, zI m26 (cy 0) 20 f26, zI m27 (cy 0) 620 f27, zI m28 (cy 0) 7 f28, zO mm 12 [vI (u4.2.1 1), vR m1, vI tp, vI sz_, vI ap, vI bad, vI bk, vI opn, vI fp, vR m9, vR m10, vR m11, vR m12, vR m13, vR m14, vR m15, vI im, vI nr, vI nl, vR m19, vR m20, vR m21, vI sp_, vR m23, vR m24, vR m25, vR m26, vR m27, vR m28, vI wtc, vI wcl, vI ir, vI ip, vR m33, vI shu, vR m35, vI sfa, vI swr], zI m1 (cy 0) 4 (u4.2.2 0), zI m10 (cy 0) 68 f10] hq9
      refine iz_ne (tgt := 43) hx hb dX12_car_38 (by decide) (by first | exact rgw hq4_2 (by decide) (by decide) | omega) (fun c_3 => ?_) (fun c_3 => ?_)
      · refine lv_aload_n hx hb dX12_car_43 rfl (lv_at hlv 0 rfl) ?_
        refine lv_iload_n hx hb dX12_car_44 rfl (lv_at hlv 1 rfl) ?_
        refine lv_iload_n hx hb dX12_car_45 rfl (lv_at hlv 2 rfl) ?_
        refine lv_iload_n hx hb dX12_car_46 rfl (lv_at hlv 3 rfl) ?_
        refine lv_iload hx hb dX12_car_47 (lv_at hlv 4 rfl) ?_
        refine lv_iload hx hb dX12_car_49 (lv_at hlv 5 rfl) ?_
        refine cjr_i [false, false, false, false, false, false, false, false, true, false] (fun pre9 => (va_runV (As := [vI n, vI p1, vI p2, vI p3, vI p4]) (rest := []) ⟨hx, hb, hml, hown, hts⟩ (m_passes l hl D cy sa mm m1 m9 m10 m11 m12 m13 m14 m15 m19 m20 m21 m23 m24 m25 m26 m27 m28 m33 m35 (u4.2.1 1) tp sz_ ap bad bk opn fp im nr nl sp_ wtc wcl ir ip shu sfa swr f10 f12 f23 f24 f25 f26 f27 f28 n p1 p2 p3 p4 qs 8 H.size (by first | exact hq4_1 | omega) (by first | exact hr_tp | omega) (by first | exact hr_sz_ | omega) (by first | exact hr_ap | omega) (by first | exact hr_bad | omega) (by first | exact hr_bk | omega) (by first | exact hr_opn | omega) (by first | exact hr_fp | omega) (by first | exact hr_im | omega) (by first | exact hr_nr | omega) (by first | exact hr_nl | omega) (by first | exact hr_sp_ | omega) (by first | exact hr_wtc | omega) (by first | exact hr_wcl | omega) (by first | exact hr_ir | omega) (by first | exact hr_ip | omega) (by first | exact hr_shu | omega) (by first | exact hr_sfa | omega) (by first | exact hr_swr | omega) (by omega) (by omega) (by first | exact hr_p2 | omega) (by first | exact hr_p3 | omega) (by first | exact hr_p4 | omega) (by show (8 : Int) ≤ 8 ∧ (8 : Int) ≤ 9; decide) (by omega) (by omega) hn_li hq4_4 hf12) (cwV 5 hts gg_5 rfl rfl rfl (by decide +kernel) ⟨Nat.le_of_ble_eq_true rfl, Nat.le_of_ble_eq_true rfl⟩) ⟨pcW.blind, (va_recv hG.1 hP (ci := 12) (q0 := 7) rfl rfl), pre9⟩ rfl rfl hlv.1 rfl (lv_room (Nat.le_of_ble_eq_true rfl)) dX12_car_51 ⟨Nat.le_of_ble_eq_true rfl, Nat.le_of_ble_eq_true rfl⟩)) hP hD hS hA hG hT [7, 9, 0, 1, 2, 3, 4, 5, 6] rfl (by decide +kernel) (fun r5 u5 H locs hw5 hq9 hS => ?_)
        obtain ⟨rfl, hq5_1, hq5_2, hq5_3, hq5_4, hq5_5⟩ := hw5
        obtain ⟨hP, hD⟩ := pd9 [zI m1 (cy 0) 4 (u4.2.2 0), zO mm 12 [vI (u4.2.1 1), vR m1, vI tp, vI sz_, vI ap, vI bad, vI bk, vI opn, vI fp, vR m9, vR m10, vR m11, vR m12, vR m13, vR m14, vR m15, vI im, vI nr, vI nl, vR m19, vR m20, vR m21, vI sp_, vR m23, vR m24, vR m25, vR m26, vR m27, vR m28, vI wtc, vI wcl, vI (u5.2.1 1), vI (u5.2.1 2), vR m33, vI shu, vR m35, vI sfa, vI swr], zI m10 (cy 0) 68 f10, zI m12 (cy 0) 389 (u5.2.2 0), zI m23 (cy 0) 2480 f23, zI m24 (cy 0) 2480 f24, zI m25 (cy 0) 20 f25, zI m26 (cy 0) 20 f26, zI m27 (cy 0) 620 (u5.2.2 1), zI m28 (cy 0) 7 (u5.2.2 2)] hq9
        refine W.widen (k := 0) (n := 0) (Nat.le_of_ble_eq_true rfl) (Nat.le_of_ble_eq_true rfl) ?_
        exact W.iret (v := iI (u5.2.1 0)) hx hb hr (fun t ht hW => ⟨⟨iI (u5.2.1 0), ((fun k => ([] : List Nat).getD k 0), (fun k => ([(u5.2.1 0), (u4.2.1 1), (u5.2.1 1), (u5.2.1 2)] : List Int).getD k 0), (fun k => ([(u4.2.2 0), (u5.2.2 0), (u5.2.2 1), (u5.2.2 2)] : List (Nat → Int32)).getD k (fun _ => 0))), rfl, ⟨rfl, (by show ((-2147483648) ≤ (u4.2.1 1) ∧ (u4.2.1 1) ≤ 2147483647); first | exact hq4_1 | omega), (by show (0 ≤ (u5.2.1 1) ∧ (u5.2.1 1) ≤ 5); first | exact hq5_1 | omega), (by show ((-2147483648) ≤ (u5.2.1 2) ∧ (u5.2.1 2) ≤ 2147483647); first | exact hq5_2 | omega), (by show ((-2147483648) ≤ (u5.2.1 0) ∧ (u5.2.1 0) ≤ 2147483647); first | exact hq5_3 | omega), hq5_4, hq5_5⟩, at9 ht hP hD [1, 0, 2, 3, 4, 5, 6, 7, 8, 9] (by decide +kernel) rfl⟩, hS.F ht⟩) hS.2.2 dX12_car_54
      · refine lv_iconst (v := iI 0) hx hb dX12_car_41 (by decide) ?_
        refine W.widen (k := 0) (n := 0) (Nat.le_of_ble_eq_true rfl) (Nat.le_of_ble_eq_true rfl) ?_
        exact W.iret (v := iI 0) hx hb hr (fun t ht hW => ⟨⟨iI 0, ((fun k => ([] : List Nat).getD k 0), (fun k => ([0, (u4.2.1 1), ir, ip] : List Int).getD k 0), (fun k => ([(u4.2.2 0), f12, f27, f28] : List (Nat → Int32)).getD k (fun _ => 0))), rfl, ⟨rfl, (by show ((-2147483648) ≤ (u4.2.1 1) ∧ (u4.2.1 1) ≤ 2147483647); first | exact hq4_1 | omega), (by show (0 ≤ ir ∧ ir ≤ 5); first | exact hr_ir | omega), (by show ((-2147483648) ≤ ip ∧ ip ≤ 2147483647); first | exact hr_ip | omega), (by show ((-2147483648) ≤ 0 ∧ 0 ≤ 2147483647); show ((-2147483648) : Int) ≤ 0 ∧ (0 : Int) ≤ 2147483647; decide), hq4_4, hf12⟩, at9 ht hP hD [7, 8, 9, 0, 1, 2, 3, 4, 5, 6] (by decide +kernel) rfl⟩, hS.F ht⟩) hS.2.2 dX12_car_42
def vs_m_allPass : List Cond := .code yX12_allPass cX12_allPass 6 (some .int) :: (([.fieldLink RX12 29 "KerbSplashModel" "s" "[I"] : List Cond) ++ ((wsX120) ++ ((wsV RX12 374 RX12 yX12_passes vs_m_passes) ++ ((wsV RX12 309 RX12 yX12_round vs_m_round) ++ ([])))))
theorem gd_m_allPass : vs_m_allPass.all goodWord = true := gd_C (by decide +kernel) (gd_A (by decide +kernel) (gd_A (by decide +kernel) (gd_A (gd_V gd_m_passes (by decide +kernel)) (gd_A (gd_V gd_m_round (by decide +kernel)) rfl))))
set_option maxHeartbeats 4000000 in
set_option maxRecDepth 100000 in
theorem m_allPass (l : Launch) (hl : l.stackTraces = false) (D : va_G) (cy : Nat → ClassId) (sa : Nat → Nat) (mm m1 m9 m10 m11 m12 m13 m14 m15 m19 m20 m21 m23 m24 m25 m26 m27 m28 m33 m35 : Nat) (th tp sz_ ap bad bk opn fp im nr nl sp_ wtc wcl ir ip shu sfa swr : Int) (f10 f12 f23 f24 f25 f26 f27 f28 : Nat → Int32) (n : Int) (qs : Nat → Int) (pm : Int) (sz : Nat) (hr_th : (-2147483648) ≤ th ∧ th ≤ 2147483647) (hr_tp : 0 ≤ tp ∧ tp ≤ 600) (hr_sz_ : 0 ≤ sz_ ∧ sz_ ≤ 600) (hr_ap : 0 ≤ ap ∧ ap ≤ 602) (hr_bad : (-1) ≤ bad ∧ bad ≤ 602) (hr_bk : 0 ≤ bk ∧ bk ≤ 4) (hr_opn : 0 ≤ opn ∧ opn ≤ 7) (hr_fp : (-2147483648) ≤ fp ∧ fp ≤ 2147483647) (hr_im : 0 ≤ im ∧ im ≤ 3) (hr_nr : 0 ≤ nr ∧ nr ≤ 4) (hr_nl : 0 ≤ nl ∧ nl ≤ 4) (hr_sp_ : 0 ≤ sp_ ∧ sp_ ≤ 602) (hr_wtc : (-2147483648) ≤ wtc ∧ wtc ≤ 2147483647) (hr_wcl : 0 ≤ wcl ∧ wcl ≤ 95) (hr_ir : 0 ≤ ir ∧ ir ≤ 5) (hr_ip : (-2147483648) ≤ ip ∧ ip ≤ 2147483647) (hr_shu : (-2147483648) ≤ shu ∧ shu ≤ 2147483647) (hr_sfa : (-2147483648) ≤ sfa ∧ sfa ≤ 2147483647) (hr_swr : (-2147483648) ≤ swr ∧ swr ≤ 2147483647) (hr_n : 0 ≤ n ∧ n ≤ 3) (hr_pm : 8 ≤ pm ∧ pm ≤ 9) (hp0 : 1 ≤ nz f10 1) (hp1 : n < nl) (hn_li : LI nl f23 f24 f25 f26) (hf10 : BI f10) (hf12 : SQ qs pm f12) : mI9 l yX12_allPass vs_m_allPass ({ frames := 3, cells := 0, slots := 0, locals := 85 }) D cy sa sz [vR mm, vI n] [zO mm 12 [vI th, vR m1, vI tp, vI sz_, vI ap, vI bad, vI bk, vI opn, vI fp, vR m9, vR m10, vR m11, vR m12, vR m13, vR m14, vR m15, vI im, vI nr, vI nl, vR m19, vR m20, vR m21, vI sp_, vR m23, vR m24, vR m25, vR m26, vR m27, vR m28, vI wtc, vI wcl, vI ir, vI ip, vR m33, vI shu, vR m35, vI sfa, vI swr], zI m10 (cy 0) 68 f10, zI m12 (cy 0) 389 f12, zI m23 (cy 0) 2480 f23, zI m24 (cy 0) 2480 f24, zI m25 (cy 0) 20 f25, zI m26 (cy 0) 20 f26, zI m27 (cy 0) 620 f27, zI m28 (cy 0) 7 f28] (fun (r : Int32) (u : SV) => r = iI (u.2.1 0) ∧ (0 ≤ u.2.1 1 ∧ u.2.1 1 ≤ 5) ∧ ((-2147483648) ≤ u.2.1 2 ∧ u.2.1 2 ≤ 2147483647) ∧ ((-2147483648) ≤ u.2.1 0 ∧ u.2.1 0 ≤ 2147483647) ∧ BI f10 ∧ SQ qs pm (u.2.2 0)) (fun u : SV => [zO mm 12 [vI th, vR m1, vI tp, vI sz_, vI ap, vI bad, vI bk, vI opn, vI fp, vR m9, vR m10, vR m11, vR m12, vR m13, vR m14, vR m15, vI im, vI nr, vI nl, vR m19, vR m20, vR m21, vI sp_, vR m23, vR m24, vR m25, vR m26, vR m27, vR m28, vI wtc, vI wcl, vI (u.2.1 1), vI (u.2.1 2), vR m33, vI shu, vR m35, vI sfa, vI swr], zI m10 (cy 0) 68 f10, zI m12 (cy 0) 389 (u.2.2 0), zI m23 (cy 0) 2480 f23, zI m24 (cy 0) 2480 f24, zI m25 (cy 0) 20 f25, zI m26 (cy 0) 20 f26, zI m27 (cy 0) 620 (u.2.2 1), zI m28 (cy 0) 7 (u.2.2 2)]) 0 0 := by
  refine Met.ofW (cc := cX12_allPass) (maxL := 6) (ret := (some .int)) (by decide) rfl ?_
  intro p e s m args below meth c s₁ B hml hv
  obtain ⟨rfl, hsz, hP, hG, hD0, hT⟩ := hv
  have hx := B.exec
  have hb := B.bytes
  have hr := B.returns
  have hts := atoms_spec (ws := vs_m_allPass) B.pre
  have hown : s.vm.findClass RX12 = some m.cls := findClass_of_methodNamed B.named
  have hlocks := B.notSynchronized
  subst hsz
  have hD := hD0.self (sz := s.heap.size)
  generalize hAe : va_A [zO mm 12 [vI th, vR m1, vI tp, vI sz_, vI ap, vI bad, vI bk, vI opn, vI fp, vR m9, vR m10, vR m11, vR m12, vR m13, vR m14, vR m15, vI im, vI nr, vI nl, vR m19, vR m20, vR m21, vI sp_, vR m23, vR m24, vR m25, vR m26, vR m27, vR m28, vI wtc, vI wcl, vI ir, vI ip, vR m33, vI shu, vR m35, vI sfa, vI swr], zI m10 (cy 0) 68 f10, zI m12 (cy 0) 389 f12, zI m23 (cy 0) 2480 f23, zI m24 (cy 0) 2480 f24, zI m25 (cy 0) 20 f25, zI m26 (cy 0) 20 f26, zI m27 (cy 0) 620 f27, zI m28 (cy 0) 7 f28] s.heap.size = A at hD hT ⊢
  have hA : ∀ q : Nat, s.heap.size ≤ q → A q := fun q h => by rw [← hAe]; exact Or.inr h
  have hS : va_S A s.heap s.heap [] := va_S.rf
  have hl0 := lv_entry ([vR mm, vI n]) (n := 6) (Nat.le_of_ble_eq_true rfl)
  rw [lg_entry_eq]
  generalize (lg_sl ([vR mm, vI n]) ++ List.replicate (6 - (lg_sl ([vR mm, vI n])).length) Slot.unset).toArray = ls at hl0 ⊢
  have hlv : lv_has ls 6 [(0, vR mm), (1, vI n)] := hl0
  have lf29 := hts (.fieldLink RX12 29 "KerbSplashModel" "s" "[I") (List.mem_of_getElem? (i := 1) rfl)
  have hi12 : ∀ w ∈ wsX120, w ∈ vs_m_allPass := fun w h => List.mem_cons_of_mem _ (List.mem_append_right _ (List.mem_append_left _ h))
  have gg_1 : GoodIn vs_m_allPass (wsV RX12 374 RX12 yX12_passes vs_m_passes) := goodIn_sub (fun w h => List.mem_cons_of_mem _ (List.mem_append_right _ (List.mem_append_right _ (List.mem_append_left _ h)))) (gd_V gd_m_passes (by decide +kernel))
  have gg_2 : GoodIn vs_m_allPass (wsV RX12 309 RX12 yX12_round vs_m_round) := goodIn_sub (fun w h => List.mem_cons_of_mem _ (List.mem_append_right _ (List.mem_append_right _ (List.mem_append_right _ (List.mem_append_left _ h))))) (gd_V gd_m_round (by decide +kernel))
  refine lv_iconst (v := iI 0) hx hb dX12_allPass_0 (by decide) ?_
  refine lv_istore_n (lv' := [(2, vI 0), (0, vR mm), (1, vI n)]) hx hb dX12_allPass_1 rfl hlv (by decide) rfl (fun ls hlv => ?_)
  refine lv_iconst (v := iI 0) hx hb dX12_allPass_2 (by decide) ?_
  refine lv_istore_n (lv' := [(3, vI 0), (2, vI 0), (0, vR mm), (1, vI n)]) hx hb dX12_allPass_3 rfl hlv (by decide) rfl (fun ls hlv => ?_)
  refine (?_ : ∀ (fu : Nat) (q2 : Int) (q3 : Int) (qi : Int) (qp : Int) (wg : Nat → Int32) (kg : Nat → Int32) (ng : Nat → Int32) (H : Heap) (locs : List Loc) (ls : Array Slot), 20 - q3 < (fu : Int) → ((-2147483648) ≤ q2 ∧ q2 ≤ 2147483647) → (0 ≤ q3 ∧ q3 ≤ 20) → (0 ≤ qi ∧ qi ≤ 5) → ((-2147483648) ≤ qp ∧ qp ≤ 2147483647) → SQ qs pm wg → va_P D vwCl [zO mm 12 [vI th, vR m1, vI tp, vI sz_, vI ap, vI bad, vI bk, vI opn, vI fp, vR m9, vR m10, vR m11, vR m12, vR m13, vR m14, vR m15, vI im, vI nr, vI nl, vR m19, vR m20, vR m21, vI sp_, vR m23, vR m24, vR m25, vR m26, vR m27, vR m28, vI wtc, vI wcl, vI qi, vI qp, vR m33, vI shu, vR m35, vI sfa, vI swr], zI m10 (cy 0) 68 f10, zI m12 (cy 0) 389 wg, zI m23 (cy 0) 2480 f23, zI m24 (cy 0) 2480 f24, zI m25 (cy 0) 20 f25, zI m26 (cy 0) 20 f26, zI m27 (cy 0) 620 kg, zI m28 (cy 0) 7 ng] H → va_D A [zO mm 12 [vI th, vR m1, vI tp, vI sz_, vI ap, vI bad, vI bk, vI opn, vI fp, vR m9, vR m10, vR m11, vR m12, vR m13, vR m14, vR m15, vI im, vI nr, vI nl, vR m19, vR m20, vR m21, vI sp_, vR m23, vR m24, vR m25, vR m26, vR m27, vR m28, vI wtc, vI wcl, vI qi, vI qp, vR m33, vI shu, vR m35, vI sfa, vI swr], zI m10 (cy 0) 68 f10, zI m12 (cy 0) 389 wg, zI m23 (cy 0) 2480 f23, zI m24 (cy 0) 2480 f24, zI m25 (cy 0) 20 f25, zI m26 (cy 0) 20 f26, zI m27 (cy 0) 620 kg, zI m28 (cy 0) 7 ng] → va_S A s.heap H locs → lv_has ls 6 [(3, vI q3), (2, vI q2), (0, vR mm), (1, vI n)] → W p l e _ s m _ below meth c H locs _ _ _ (F0 m 4 ls [])) (((20 - 0) + 1 : Int)).toNat 0 0 ir ip f12 f27 f28 _ _ _ (by omega) (by show ((-2147483648) : Int) ≤ 0 ∧ (0 : Int) ≤ 2147483647; decide) (by show (0 : Int) ≤ 0 ∧ (0 : Int) ≤ 20; decide) (by first | exact hr_ir | omega) (by first | exact hr_ip | omega) hf12 hP hD hS hlv
  clear hP hD hS hlv
  intro fu
  induction fu with
  | zero => intro q2 q3 qi qp wg kg ng H locs ls hm4 hl4_0 hl4_1 hl4_2 hl4_3 hiwg hP hD hS hlv; omega
  | succ fu ih4 =>
    intro q2 q3 qi qp wg kg ng H locs ls hm4 hl4_0 hl4_1 hl4_2 hl4_3 hiwg hP hD hS hlv
    refine lv_iload_n hx hb dX12_allPass_4 rfl (lv_at hlv 0 rfl) ?_
    refine lv_aload_n hx hb dX12_allPass_5 rfl (lv_at hlv 2 rfl) ?_
    refine va_get (D := D) (ci := 12) (v := vR m12) (C := RX12) (T := TX12) (N := 38) hx hb hts hi12 hown hG.1 hP 0 rfl rfl 12 (by decide) lf29 (fun _ h9 => h9) rfl dX12_allPass_6 ?_
    refine lv_sipush (v := iI 252) hx hb dX12_allPass_9 (by decide) ?_
    refine va_iald hx hb hG.1 hP 2 0 rfl rfl (iI_in (by omega) (by decide)) dX12_allPass_12 ?_
    refine lt_nz (i := 252) (by omega) (fun z_1 hz_1 lz_1 uz_1 => ?_)
    have hz_1 : z_1 = nz wg 252 := hz_1
    have hbz_1_7 := (hiwg.1).2.2.2.1
    refine ir_ge (tgt := 100) hx hb dX12_allPass_13 (by decide) (by first | exact rgw hl4_1 (by decide) (by decide) | omega) (by omega) (fun c_2 => ?_) (fun c_2 => ?_)
    · refine lv_iload_n hx hb dX12_allPass_100 rfl (lv_at hlv 1 rfl) ?_
      refine W.widen (k := 0) (n := 0) (Nat.le_of_ble_eq_true rfl) (Nat.le_of_ble_eq_true rfl) ?_
      exact W.iret (v := iI q2) hx hb hr (fun t ht hW => ⟨⟨iI q2, ((fun k => ([] : List Nat).getD k 0), (fun k => ([q2, qi, qp] : List Int).getD k 0), (fun k => ([wg, kg, ng] : List (Nat → Int32)).getD k (fun _ => 0))), rfl, ⟨rfl, (by show (0 ≤ qi ∧ qi ≤ 5); first | exact hl4_2 | omega), (by show ((-2147483648) ≤ qp ∧ qp ≤ 2147483647); first | exact hl4_3 | omega), (by show ((-2147483648) ≤ q2 ∧ q2 ≤ 2147483647); first | exact hl4_0 | omega), hf10, hiwg⟩, at9 ht hP hD [0, 1, 2, 3, 4, 5, 6, 7, 8] (by decide +kernel) rfl⟩, hS.F ht⟩) hS.2.2 dX12_allPass_101
    · refine lv_sipush (v := iI 253) hx hb dX12_allPass_16 (by decide) ?_
      refine lv_iconst (v := iI 5) hx hb dX12_allPass_19 (by decide) ?_
      refine lv_iload_n hx hb dX12_allPass_20 rfl (lv_at hlv 0 rfl) ?_
      refine lv_imul hx hb dX12_allPass_21 ?_
      refine lt_e (e0 := 5 * q3) (Int32.ofInt_mul _ _).symm (fun z_3 hz_3 => ?_)
      refine lv_iadd hx hb dX12_allPass_22 ?_
      refine lt_e (e0 := 253 + z_3) (Int32.ofInt_add _ _).symm (fun z_4 hz_4 => ?_)
      refine lv_istore (lv' := [(4, vI z_4), (3, vI q3), (2, vI q2), (0, vR mm), (1, vI n)]) hx hb dX12_allPass_23 hlv (by decide) rfl (fun ls hlv => ?_)
      refine lv_iconst (v := iI 0) hx hb dX12_allPass_25 (by decide) ?_
      refine lv_istore (lv' := [(5, vI 0), (4, vI z_4), (3, vI q3), (2, vI q2), (0, vR mm), (1, vI n)]) hx hb dX12_allPass_26 hlv (by decide) rfl (fun ls hlv => ?_)
      refine (?_ : ∀ (fu : Nat) (q5 : Int) (wh : Nat → Int32) (H : Heap) (locs : List Loc) (ls : Array Slot), 2147483647 - q5 < (fu : Int) → (0 ≤ q5 ∧ q5 ≤ 2147483647) → SQ qs pm wh → va_P D vwCl [zO mm 12 [vI th, vR m1, vI tp, vI sz_, vI ap, vI bad, vI bk, vI opn, vI fp, vR m9, vR m10, vR m11, vR m12, vR m13, vR m14, vR m15, vI im, vI nr, vI nl, vR m19, vR m20, vR m21, vI sp_, vR m23, vR m24, vR m25, vR m26, vR m27, vR m28, vI wtc, vI wcl, vI qi, vI qp, vR m33, vI shu, vR m35, vI sfa, vI swr], zI m10 (cy 0) 68 f10, zI m12 (cy 0) 389 wh, zI m23 (cy 0) 2480 f23, zI m24 (cy 0) 2480 f24, zI m25 (cy 0) 20 f25, zI m26 (cy 0) 20 f26, zI m27 (cy 0) 620 kg, zI m28 (cy 0) 7 ng] H → va_D A [zO mm 12 [vI th, vR m1, vI tp, vI sz_, vI ap, vI bad, vI bk, vI opn, vI fp, vR m9, vR m10, vR m11, vR m12, vR m13, vR m14, vR m15, vI im, vI nr, vI nl, vR m19, vR m20, vR m21, vI sp_, vR m23, vR m24, vR m25, vR m26, vR m27, vR m28, vI wtc, vI wcl, vI qi, vI qp, vR m33, vI shu, vR m35, vI sfa, vI swr], zI m10 (cy 0) 68 f10, zI m12 (cy 0) 389 wh, zI m23 (cy 0) 2480 f23, zI m24 (cy 0) 2480 f24, zI m25 (cy 0) 20 f25, zI m26 (cy 0) 20 f26, zI m27 (cy 0) 620 kg, zI m28 (cy 0) 7 ng] → va_S A s.heap H locs → lv_has ls 6 [(5, vI q5), (4, vI z_4), (3, vI q3), (2, vI q2), (0, vR mm), (1, vI n)] → W p l e _ s m _ below meth c H locs _ _ _ (F0 m 28 ls [])) (((2147483647 - 0) + 1 : Int)).toNat 0 wg _ _ _ (by omega) (by show (0 : Int) ≤ 0 ∧ (0 : Int) ≤ 2147483647; decide) hiwg hP hD hS hlv
      clear hP hD hS hlv
      intro fu
      induction fu with
      | zero => intro q5 wh H locs ls hm28 hl28_0 hiwh hP hD hS hlv; omega
      | succ fu ih28 =>
        intro q5 wh H locs ls hm28 hl28_0 hiwh hP hD hS hlv
        refine lv_iload hx hb dX12_allPass_28 (lv_at hlv 0 rfl) ?_
        refine lv_aload_n hx hb dX12_allPass_30 rfl (lv_at hlv 4 rfl) ?_
        refine va_get (D := D) (ci := 12) (v := vR m12) (C := RX12) (T := TX12) (N := 38) hx hb hts hi12 hown hG.1 hP 0 rfl rfl 12 (by decide) lf29 (fun _ h9 => h9) rfl dX12_allPass_31 ?_
        refine lv_iload hx hb dX12_allPass_34 (lv_at hlv 1 rfl) ?_
        refine va_iald hx hb hG.1 hP 2 0 rfl rfl (iI_in (by omega) (by decide)) dX12_allPass_36 ?_
        refine lt_nz (i := z_4) (by omega) (fun z_5 hz_5 lz_5 uz_5 => ?_)
        refine ir_ge (tgt := 50) hx hb dX12_allPass_37 (by decide) (by first | exact rgw hl28_0 (by decide) (by decide) | omega) (by omega) (fun c_6 => ?_) (fun c_6 => ?_)
        · refine lv_iload_n hx hb dX12_allPass_50 rfl (lv_at hlv 3 rfl) ?_
          refine lv_aload_n hx hb dX12_allPass_51 rfl (lv_at hlv 4 rfl) ?_
          refine lv_iload_n hx hb dX12_allPass_52 rfl (lv_at hlv 5 rfl) ?_
          refine lv_aload_n hx hb dX12_allPass_53 rfl (lv_at hlv 4 rfl) ?_
          refine va_get (D := D) (ci := 12) (v := vR m12) (C := RX12) (T := TX12) (N := 38) hx hb hts hi12 hown hG.1 hP 0 rfl rfl 12 (by decide) lf29 (fun _ h9 => h9) rfl dX12_allPass_54 ?_
          refine lv_iload hx hb dX12_allPass_57 (lv_at hlv 1 rfl) ?_
          refine lv_iconst (v := iI 1) hx hb dX12_allPass_59 (by decide) ?_
          refine lv_iadd hx hb dX12_allPass_60 ?_
          refine lt_e (e0 := z_4 + 1) (Int32.ofInt_add _ _).symm (fun z_7 hz_7 => ?_)
          refine va_iald hx hb hG.1 hP 2 0 rfl rfl (iI_in (by omega) (by decide)) dX12_allPass_61 ?_
          refine lt_nz (i := z_7) (by omega) (fun z_8 hz_8 lz_8 uz_8 => ?_)
          have hbz_8_11 := (hiwh.1).2.2.2.2.1 q3.toNat (by omega)
          rw [show 254 + 5 * q3.toNat = z_7.toNat by omega] at hbz_8_11
          refine lv_aload_n hx hb dX12_allPass_62 rfl (lv_at hlv 4 rfl) ?_
          refine va_get (D := D) (ci := 12) (v := vR m12) (C := RX12) (T := TX12) (N := 38) hx hb hts hi12 hown hG.1 hP 0 rfl rfl 12 (by decide) lf29 (fun _ h9 => h9) rfl dX12_allPass_63 ?_
          refine lv_iload hx hb dX12_allPass_66 (lv_at hlv 1 rfl) ?_
          refine lv_iconst (v := iI 2) hx hb dX12_allPass_68 (by decide) ?_
          refine lv_iadd hx hb dX12_allPass_69 ?_
          refine lt_e (e0 := z_4 + 2) (Int32.ofInt_add _ _).symm (fun z_9 hz_9 => ?_)
          refine va_iald hx hb hG.1 hP 2 0 rfl rfl (iI_in (by omega) (by decide)) dX12_allPass_70 ?_
          refine lt_nz (i := z_9) (by omega) (fun z_10 hz_10 lz_10 uz_10 => ?_)
          refine lv_aload_n hx hb dX12_allPass_71 rfl (lv_at hlv 4 rfl) ?_
          refine va_get (D := D) (ci := 12) (v := vR m12) (C := RX12) (T := TX12) (N := 38) hx hb hts hi12 hown hG.1 hP 0 rfl rfl 12 (by decide) lf29 (fun _ h9 => h9) rfl dX12_allPass_72 ?_
          refine lv_iload hx hb dX12_allPass_75 (lv_at hlv 1 rfl) ?_
          refine lv_iconst (v := iI 3) hx hb dX12_allPass_77 (by decide) ?_
          refine lv_iadd hx hb dX12_allPass_78 ?_
          refine lt_e (e0 := z_4 + 3) (Int32.ofInt_add _ _).symm (fun z_11 hz_11 => ?_)
          refine va_iald hx hb hG.1 hP 2 0 rfl rfl (iI_in (by omega) (by decide)) dX12_allPass_79 ?_
          refine lt_nz (i := z_11) (by omega) (fun z_12 hz_12 lz_12 uz_12 => ?_)
          refine lv_aload_n hx hb dX12_allPass_80 rfl (lv_at hlv 4 rfl) ?_
          refine va_get (D := D) (ci := 12) (v := vR m12) (C := RX12) (T := TX12) (N := 38) hx hb hts hi12 hown hG.1 hP 0 rfl rfl 12 (by decide) lf29 (fun _ h9 => h9) rfl dX12_allPass_81 ?_
          refine lv_iload hx hb dX12_allPass_84 (lv_at hlv 1 rfl) ?_
          refine lv_iconst (v := iI 4) hx hb dX12_allPass_86 (by decide) ?_
          refine lv_iadd hx hb dX12_allPass_87 ?_
          refine lt_e (e0 := z_4 + 4) (Int32.ofInt_add _ _).symm (fun z_13 hz_13 => ?_)
          refine va_iald hx hb hG.1 hP 2 0 rfl rfl (iI_in (by omega) (by decide)) dX12_allPass_88 ?_
          refine lt_nz (i := z_13) (by omega) (fun z_14 hz_14 lz_14 uz_14 => ?_)
          refine cjr_i [false, false, false, false, false, false, false, false, false] (fun pre9 => (va_runV (As := [vI n, vI z_8, vI z_10, vI z_12, vI z_14]) (rest := [vI q2]) ⟨hx, hb, hml, hown, hts⟩ (m_passes l hl D cy sa mm m1 m9 m10 m11 m12 m13 m14 m15 m19 m20 m21 m23 m24 m25 m26 m27 m28 m33 m35 th tp sz_ ap bad bk opn fp im nr nl sp_ wtc wcl qi qp shu sfa swr f10 wh f23 f24 f25 f26 kg ng n z_8 z_10 z_12 z_14 qs pm H.size (by first | exact hr_th | omega) (by first | exact hr_tp | omega) (by first | exact hr_sz_ | omega) (by first | exact hr_ap | omega) (by first | exact hr_bad | omega) (by first | exact hr_bk | omega) (by first | exact hr_opn | omega) (by first | exact hr_fp | omega) (by first | exact hr_im | omega) (by first | exact hr_nr | omega) (by first | exact hr_nl | omega) (by first | exact hr_sp_ | omega) (by first | exact hr_wtc | omega) (by first | exact hr_wcl | omega) (by first | exact hl4_2 | omega) (by first | exact hl4_3 | omega) (by first | exact hr_shu | omega) (by first | exact hr_sfa | omega) (by first | exact hr_swr | omega) (by first | exact hr_n | omega) (by omega) (by omega) (by omega) (by omega) (by first | exact hr_pm | omega) hp0 hp1 hn_li hf10 hiwh) (cwV 5 hts gg_1 rfl rfl rfl (by decide +kernel) ⟨Nat.le_of_ble_eq_true rfl, Nat.le_of_ble_eq_true rfl⟩) ⟨pcW.blind, (va_recv hG.1 hP (ci := 12) (q0 := 0) rfl rfl), pre9⟩ rfl rfl hlv.1 rfl (lv_room (Nat.le_of_ble_eq_true rfl)) dX12_allPass_89 ⟨Nat.le_of_ble_eq_true rfl, Nat.le_of_ble_eq_true rfl⟩)) hP hD hS hA hG hT [0, 1, 2, 3, 4, 5, 6, 7, 8] rfl (by decide +kernel) (fun r1 u1 H locs hw1 hq9 hS => ?_)
          obtain ⟨rfl, hq1_1, hq1_2, hq1_3, hq1_4, hq1_5⟩ := hw1
          obtain ⟨hP, hD⟩ := pd9 [zO mm 12 [vI th, vR m1, vI tp, vI sz_, vI ap, vI bad, vI bk, vI opn, vI fp, vR m9, vR m10, vR m11, vR m12, vR m13, vR m14, vR m15, vI im, vI nr, vI nl, vR m19, vR m20, vR m21, vI sp_, vR m23, vR m24, vR m25, vR m26, vR m27, vR m28, vI wtc, vI wcl, vI (u1.2.1 1), vI (u1.2.1 2), vR m33, vI shu, vR m35, vI sfa, vI swr], zI m10 (cy 0) 68 f10, zI m12 (cy 0) 389 (u1.2.2 0), zI m23 (cy 0) 2480 f23, zI m24 (cy 0) 2480 f24, zI m25 (cy 0) 20 f25, zI m26 (cy 0) 20 f26, zI m27 (cy 0) 620 (u1.2.2 1), zI m28 (cy 0) 7 (u1.2.2 2)] hq9
          refine lv_iadd hx hb dX12_allPass_92 ?_
          refine lt_z (fun z_15 ez_15 lz_15 hz_15 => ?_)
          refine lv_istore_n (lv' := [(2, vI z_15), (5, vI q5), (4, vI z_4), (3, vI q3), (0, vR mm), (1, vI n)]) hx hb dX12_allPass_93 rfl hlv (by decide) rfl (fun ls hlv => ?_)
          obtain ⟨z_16, hz_16⟩ : ∃ z : Int, z = q3 + 1 := ⟨_, rfl⟩
          refine lv_iinc (v := iI z_16) (lv' := [(3, vI z_16), (2, vI z_15), (5, vI q5), (4, vI z_4), (0, vR mm), (1, vI n)]) hx hb dX12_allPass_94 hlv (k := 3) rfl (by rw [hz_16]; exact (Int32.ofInt_add _ _).symm) (by decide) rfl (fun ls hlv => ?_)
          refine lv_goto (tgt := 4) hx hb dX12_allPass_97 (by decide) ?_
          exact ih4 z_15 z_16 (u1.2.1 1) (u1.2.1 2) (u1.2.2 0) (u1.2.2 1) (u1.2.2 2) H locs ls (by omega) (by omega) (by omega) (by first | exact hq1_1 | omega) (by first | exact hq1_2 | omega) hq1_5 (hP.sub [0, 1, 2, 3, 4, 5, 6, 7, 8] rfl) (hD.sub [0, 1, 2, 3, 4, 5, 6, 7, 8] (by decide) rfl) hS (lv_sub hlv [0, 1, 4, 5] rfl)
        · refine lv_aload_n hx hb dX12_allPass_40 rfl (lv_at hlv 4 rfl) ?_
          refine cjr_v [false, false, false, true, true, true, true, true, true] (fun pre9 => (va_runV (As := []) (rest := []) ⟨hx, hb, hml, hown, hts⟩ (m_round l hl D cy sa mm m1 m9 m10 m11 m12 m13 m14 m15 m19 m20 m21 m23 m24 m25 m26 m27 m28 m33 m35 th tp sz_ ap bad bk opn fp im nr nl sp_ wtc wcl qi qp shu sfa swr f10 wh qs pm H.size (by first | exact hr_th | omega) (by first | exact hr_tp | omega) (by first | exact hr_sz_ | omega) (by first | exact hr_ap | omega) (by first | exact hr_bad | omega) (by first | exact hr_bk | omega) (by first | exact hr_opn | omega) (by first | exact hr_fp | omega) (by first | exact hr_im | omega) (by first | exact hr_nr | omega) (by first | exact hr_nl | omega) (by first | exact hr_sp_ | omega) (by first | exact hr_wtc | omega) (by first | exact hr_wcl | omega) (by first | exact hl4_2 | omega) (by first | exact hl4_3 | omega) (by first | exact hr_shu | omega) (by first | exact hr_sfa | omega) (by first | exact hr_swr | omega) (by first | exact hr_pm | omega) hf10 hiwh) (cwV 0 hts gg_2 rfl rfl rfl (by decide +kernel) ⟨Nat.le_of_ble_eq_true rfl, Nat.le_of_ble_eq_true rfl⟩) ⟨pcW.blind, (va_recv hG.1 hP (ci := 12) (q0 := 0) rfl rfl), pre9⟩ rfl rfl hlv.1 rfl (lv_room (Nat.le_of_ble_eq_true rfl)) dX12_allPass_41 ⟨Nat.le_of_ble_eq_true rfl, Nat.le_of_ble_eq_true rfl⟩)) hP hD hS hA hG hT [0, 1, 2] rfl (by decide +kernel) (fun u2 H locs hw2 hq9 hS => ?_)
          obtain ⟨hq2_0, hq2_1, hq2_2⟩ := hw2
          obtain ⟨hP, hD⟩ := pd9 [zI m23 (cy 0) 2480 f23, zI m24 (cy 0) 2480 f24, zI m25 (cy 0) 20 f25, zI m26 (cy 0) 20 f26, zI m27 (cy 0) 620 kg, zI m28 (cy 0) 7 ng, zO mm 12 [vI th, vR m1, vI tp, vI sz_, vI ap, vI bad, vI bk, vI opn, vI fp, vR m9, vR m10, vR m11, vR m12, vR m13, vR m14, vR m15, vI im, vI nr, vI nl, vR m19, vR m20, vR m21, vI sp_, vR m23, vR m24, vR m25, vR m26, vR m27, vR m28, vI wtc, vI wcl, vI qi, vI qp, vR m33, vI shu, vR m35, vI sfa, vI swr], zI m10 (cy 0) 68 f10, zI m12 (cy 0) 389 (u2.2.2 0)] hq9
          obtain ⟨z_17, hz_17⟩ : ∃ z : Int, z = q5 + 1 := ⟨_, rfl⟩
          refine lv_iinc (v := iI z_17) (lv' := [(5, vI z_17), (4, vI z_4), (3, vI q3), (2, vI q2), (0, vR mm), (1, vI n)]) hx hb dX12_allPass_44 hlv (k := 0) rfl (by rw [hz_17]; exact (Int32.ofInt_add _ _).symm) (by decide) rfl (fun ls hlv => ?_)
          refine lv_goto (tgt := 28) hx hb dX12_allPass_47 (by decide) ?_
          exact ih28 z_17 (u2.2.2 0) H locs ls (by omega) (by omega) hq2_2 (hP.sub [6, 7, 8, 0, 1, 2, 3, 4, 5] rfl) (hD.sub [6, 7, 8, 0, 1, 2, 3, 4, 5] (by decide) rfl) hS (lv_sub hlv [0, 1, 2, 3, 4, 5] rfl)
def vs_m_passT : List Cond := .code yX12_pass_ cX12_pass_ 2 (some .int) :: (([.fieldLink RX12 1 "KerbSplashModel" "thrown" "I"] : List Cond) ++ ((wsX120) ++ ((wsV RX12 334 RX12 yX12_isLaw vs_m_isLaw) ++ ((wsV RX12 371 RX12 yX12_isStreet vs_m_isStreet) ++ ((wsV RX12 378 RX12 yX12_allPass vs_m_allPass) ++ ([]))))))
set_option maxHeartbeats 4000000 in
set_option maxRecDepth 100000 in
theorem m_passT (l : Launch) (hl : l.stackTraces = false) (D : va_G) (cy : Nat → ClassId) (sa : Nat → Nat) (mm m1 m9 m10 m11 m12 m13 m14 m15 m19 m20 m21 m23 m24 m25 m26 m27 m28 m33 m35 : Nat) (th tp sz_ ap bad bk opn fp im nr nl sp_ wtc wcl ir ip shu sfa swr : Int) (f1 f10 f12 f23 f24 f25 f26 f27 f28 : Nat → Int32) (n : Int) (qs : Nat → Int) (sz : Nat) (hr_th : (-2147483648) ≤ th ∧ th ≤ 2147483647) (hr_tp : 0 ≤ tp ∧ tp ≤ 600) (hr_sz_ : 0 ≤ sz_ ∧ sz_ ≤ 600) (hr_ap : 0 ≤ ap ∧ ap ≤ 602) (hr_bad : (-1) ≤ bad ∧ bad ≤ 602) (hr_bk : 0 ≤ bk ∧ bk ≤ 4) (hr_opn : 0 ≤ opn ∧ opn ≤ 7) (hr_fp : (-2147483648) ≤ fp ∧ fp ≤ 2147483647) (hr_im : 0 ≤ im ∧ im ≤ 3) (hr_nr : 0 ≤ nr ∧ nr ≤ 4) (hr_nl : 0 ≤ nl ∧ nl ≤ 4) (hr_sp_ : 0 ≤ sp_ ∧ sp_ ≤ 602) (hr_wtc : (-2147483648) ≤ wtc ∧ wtc ≤ 2147483647) (hr_wcl : 0 ≤ wcl ∧ wcl ≤ 95) (hr_ir : 0 ≤ ir ∧ ir ≤ 5) (hr_ip : (-2147483648) ≤ ip ∧ ip ≤ 2147483647) (hr_shu : (-2147483648) ≤ shu ∧ shu ≤ 2147483647) (hr_sfa : (-2147483648) ≤ sfa ∧ sfa ≤ 2147483647) (hr_swr : (-2147483648) ≤ swr ∧ swr ≤ 2147483647) (hr_n : (-2147483648) ≤ n ∧ n ≤ 2147483647) (hn_li : LI nl f23 f24 f25 f26) (hf10 : BI f10) (hf12 : SQ qs 8 f12) : mI9 l yX12_pass_ vs_m_passT ({ frames := 4, cells := 0, slots := 0, locals := 110 }) D cy sa sz [vR mm, vI n] [zO mm 12 [vI th, vR m1, vI tp, vI sz_, vI ap, vI bad, vI bk, vI opn, vI fp, vR m9, vR m10, vR m11, vR m12, vR m13, vR m14, vR m15, vI im, vI nr, vI nl, vR m19, vR m20, vR m21, vI sp_, vR m23, vR m24, vR m25, vR m26, vR m27, vR m28, vI wtc, vI wcl, vI ir, vI ip, vR m33, vI shu, vR m35, vI sfa, vI swr], zI m1 (cy 0) 4 f1, zI m10 (cy 0) 68 f10, zI m12 (cy 0) 389 f12, zI m23 (cy 0) 2480 f23, zI m24 (cy 0) 2480 f24, zI m25 (cy 0) 20 f25, zI m26 (cy 0) 20 f26, zI m27 (cy 0) 620 f27, zI m28 (cy 0) 7 f28] (fun (r : Int32) (u : SV) => r = iI (u.2.1 0) ∧ ((-2147483648) ≤ u.2.1 1 ∧ u.2.1 1 ≤ 2147483647) ∧ (0 ≤ u.2.1 2 ∧ u.2.1 2 ≤ 5) ∧ ((-2147483648) ≤ u.2.1 3 ∧ u.2.1 3 ≤ 2147483647) ∧ ((-2147483648) ≤ u.2.1 0 ∧ u.2.1 0 ≤ 2147483647) ∧ BI f10 ∧ SQ qs 8 (u.2.2 1)) (fun u : SV => [zO mm 12 [vI (u.2.1 1), vR m1, vI tp, vI sz_, vI ap, vI bad, vI bk, vI opn, vI fp, vR m9, vR m10, vR m11, vR m12, vR m13, vR m14, vR m15, vI im, vI nr, vI nl, vR m19, vR m20, vR m21, vI sp_, vR m23, vR m24, vR m25, vR m26, vR m27, vR m28, vI wtc, vI wcl, vI (u.2.1 2), vI (u.2.1 3), vR m33, vI shu, vR m35, vI sfa, vI swr], zI m1 (cy 0) 4 (u.2.2 0), zI m10 (cy 0) 68 f10, zI m12 (cy 0) 389 (u.2.2 1), zI m23 (cy 0) 2480 f23, zI m24 (cy 0) 2480 f24, zI m25 (cy 0) 20 f25, zI m26 (cy 0) 20 f26, zI m27 (cy 0) 620 (u.2.2 2), zI m28 (cy 0) 7 (u.2.2 3)]) 0 0 := by
  refine Met.ofW (cc := cX12_pass_) (maxL := 2) (ret := (some .int)) (by decide) rfl ?_
  intro p e s m args below meth c s₁ B hml hv
  obtain ⟨rfl, hsz, hP, hG, hD0, hT⟩ := hv
  have hx := B.exec
  have hb := B.bytes
  have hr := B.returns
  have hts := atoms_spec (ws := vs_m_passT) B.pre
  have hown : s.vm.findClass RX12 = some m.cls := findClass_of_methodNamed B.named
  have hlocks := B.notSynchronized
  subst hsz
  have hD := hD0.self (sz := s.heap.size)
  generalize hAe : va_A [zO mm 12 [vI th, vR m1, vI tp, vI sz_, vI ap, vI bad, vI bk, vI opn, vI fp, vR m9, vR m10, vR m11, vR m12, vR m13, vR m14, vR m15, vI im, vI nr, vI nl, vR m19, vR m20, vR m21, vI sp_, vR m23, vR m24, vR m25, vR m26, vR m27, vR m28, vI wtc, vI wcl, vI ir, vI ip, vR m33, vI shu, vR m35, vI sfa, vI swr], zI m1 (cy 0) 4 f1, zI m10 (cy 0) 68 f10, zI m12 (cy 0) 389 f12, zI m23 (cy 0) 2480 f23, zI m24 (cy 0) 2480 f24, zI m25 (cy 0) 20 f25, zI m26 (cy 0) 20 f26, zI m27 (cy 0) 620 f27, zI m28 (cy 0) 7 f28] s.heap.size = A at hD hT ⊢
  have hA : ∀ q : Nat, s.heap.size ≤ q → A q := fun q h => by rw [← hAe]; exact Or.inr h
  have hS : va_S A s.heap s.heap [] := va_S.rf
  have hl0 := lv_entry ([vR mm, vI n]) (n := 2) (Nat.le_of_ble_eq_true rfl)
  rw [lg_entry_eq]
  generalize (lg_sl ([vR mm, vI n]) ++ List.replicate (2 - (lg_sl ([vR mm, vI n])).length) Slot.unset).toArray = ls at hl0 ⊢
  have hlv : lv_has ls 2 [(0, vR mm), (1, vI n)] := hl0
  have lf1 := hts (.fieldLink RX12 1 "KerbSplashModel" "thrown" "I") (List.mem_of_getElem? (i := 1) rfl)
  have hi12 : ∀ w ∈ wsX120, w ∈ vs_m_passT := fun w h => List.mem_cons_of_mem _ (List.mem_append_right _ (List.mem_append_left _ h))
  have gg_1 : GoodIn vs_m_passT (wsV RX12 334 RX12 yX12_isLaw vs_m_isLaw) := goodIn_sub (fun w h => List.mem_cons_of_mem _ (List.mem_append_right _ (List.mem_append_right _ (List.mem_append_left _ h)))) (gd_V gd_m_isLaw (by decide +kernel))
  have gg_2 : GoodIn vs_m_passT (wsV RX12 371 RX12 yX12_isStreet vs_m_isStreet) := goodIn_sub (fun w h => List.mem_cons_of_mem _ (List.mem_append_right _ (List.mem_append_right _ (List.mem_append_right _ (List.mem_append_left _ h))))) (gd_V gd_m_isStreet (by decide +kernel))
  have gg_3 : GoodIn vs_m_passT (wsV RX12 378 RX12 yX12_allPass vs_m_allPass) := goodIn_sub (fun w h => List.mem_cons_of_mem _ (List.mem_append_right _ (List.mem_append_right _ (List.mem_append_right _ (List.mem_append_right _ (List.mem_append_left _ h)))))) (gd_V gd_m_allPass (by decide +kernel))
  refine lv_aload_n hx hb dX12_pass__0 rfl (lv_at hlv 0 rfl) ?_
  refine lv_iconst (v := iI 0) hx hb dX12_pass__1 (by decide) ?_
  refine va_put (D := D) (ci := 12) (v := vI 0) (ty := .int) (C := RX12) (T := TX12) (N := 38) hx hb hts hi12 tyX12 tyX12_ok nmX12 hown hG.1 hP hD hS 0 rfl rfl 0 (by decide) lf1 (fun _ h9 => h9) rfl (by decide +kernel) rfl rfl (Nat.le_of_ble_eq_true rfl) dX12_pass__2 (fun H locs hP hD hS => ?_)
  obtain ⟨hP, hD⟩ := pw9 [zO mm 12 [vI 0, vR m1, vI tp, vI sz_, vI ap, vI bad, vI bk, vI opn, vI fp, vR m9, vR m10, vR m11, vR m12, vR m13, vR m14, vR m15, vI im, vI nr, vI nl, vR m19, vR m20, vR m21, vI sp_, vR m23, vR m24, vR m25, vR m26, vR m27, vR m28, vI wtc, vI wcl, vI ir, vI ip, vR m33, vI shu, vR m35, vI sfa, vI swr], zI m1 (cy 0) 4 f1, zI m10 (cy 0) 68 f10, zI m12 (cy 0) 389 f12, zI m23 (cy 0) 2480 f23, zI m24 (cy 0) 2480 f24, zI m25 (cy 0) 20 f25, zI m26 (cy 0) 20 f26, zI m27 (cy 0) 620 f27, zI m28 (cy 0) 7 f28] hP hD
  refine lv_aload_n hx hb dX12_pass__5 rfl (lv_at hlv 0 rfl) ?_
  refine lv_iload_n hx hb dX12_pass__6 rfl (lv_at hlv 1 rfl) ?_
  refine lv_iconst (v := iI 1) hx hb dX12_pass__7 (by decide) ?_
  refine cjr_i [false, false, true, true, true, true, true, true, true, true] (fun pre9 => (va_runV (As := [vI n, vI 1]) (rest := []) ⟨hx, hb, hml, hown, hts⟩ (m_isLaw l hl D cy sa mm m1 m9 m10 m11 m12 m13 m14 m15 m19 m20 m21 m23 m24 m25 m26 m27 m28 m33 m35 0 tp sz_ ap bad bk opn fp im nr nl sp_ wtc wcl ir ip shu sfa swr f1 n 1 H.size (by show ((-2147483648) : Int) ≤ 0 ∧ (0 : Int) ≤ 2147483647; decide) (by first | exact hr_tp | omega) (by first | exact hr_sz_ | omega) (by first | exact hr_ap | omega) (by first | exact hr_bad | omega) (by first | exact hr_bk | omega) (by first | exact hr_opn | omega) (by first | exact hr_fp | omega) (by first | exact hr_im | omega) (by first | exact hr_nr | omega) (by first | exact hr_nl | omega) (by first | exact hr_sp_ | omega) (by first | exact hr_wtc | omega) (by first | exact hr_wcl | omega) (by first | exact hr_ir | omega) (by first | exact hr_ip | omega) (by first | exact hr_shu | omega) (by first | exact hr_sfa | omega) (by first | exact hr_swr | omega) (by first | exact hr_n | omega) (by show (1 : Int) ≤ 1 ∧ (1 : Int) ≤ 4; decide)) (cwV 2 hts gg_1 rfl rfl rfl (by decide +kernel) ⟨Nat.le_of_ble_eq_true rfl, Nat.le_of_ble_eq_true rfl⟩) ⟨pcW.blind, (va_recv hG.1 hP (ci := 12) (q0 := 0) rfl rfl), pre9⟩ rfl rfl hlv.1 rfl (lv_room (Nat.le_of_ble_eq_true rfl)) dX12_pass__8 ⟨Nat.le_of_ble_eq_true rfl, Nat.le_of_ble_eq_true rfl⟩)) hP hD hS hA hG hT [0, 1] rfl (by decide +kernel) (fun r1 u1 H locs hw1 hq9 hS => ?_)
  obtain ⟨rfl, hq1_1, hq1_2, hq1_3⟩ := hw1
  obtain ⟨hP, hD⟩ := pd9 [zI m10 (cy 0) 68 f10, zI m12 (cy 0) 389 f12, zI m23 (cy 0) 2480 f23, zI m24 (cy 0) 2480 f24, zI m25 (cy 0) 20 f25, zI m26 (cy 0) 20 f26, zI m27 (cy 0) 620 f27, zI m28 (cy 0) 7 f28, zO mm 12 [vI (u1.2.1 1), vR m1, vI tp, vI sz_, vI ap, vI bad, vI bk, vI opn, vI fp, vR m9, vR m10, vR m11, vR m12, vR m13, vR m14, vR m15, vI im, vI nr, vI nl, vR m19, vR m20, vR m21, vI sp_, vR m23, vR m24, vR m25, vR m26, vR m27, vR m28, vI wtc, vI wcl, vI ir, vI ip, vR m33, vI shu, vR m35, vI sfa, vI swr], zI m1 (cy 0) 4 (u1.2.2 0)] hq9
  refine iz_eq (tgt := 22) hx hb dX12_pass__11 (by decide) (by first | exact rgw hq1_2 (by decide) (by decide) | omega) (fun c_1 => ?_) (fun c_1 => ?_)
  · refine lv_iconst (v := iI 0) hx hb dX12_pass__22 (by decide) ?_
    refine W.widen (k := 0) (n := 0) (Nat.le_of_ble_eq_true rfl) (Nat.le_of_ble_eq_true rfl) ?_
    exact W.iret (v := iI 0) hx hb hr (fun t ht hW => ⟨⟨iI 0, ((fun k => ([] : List Nat).getD k 0), (fun k => ([0, (u1.2.1 1), ir, ip] : List Int).getD k 0), (fun k => ([(u1.2.2 0), f12, f27, f28] : List (Nat → Int32)).getD k (fun _ => 0))), rfl, ⟨rfl, (by show ((-2147483648) ≤ (u1.2.1 1) ∧ (u1.2.1 1) ≤ 2147483647); first | exact hq1_1 | omega), (by show (0 ≤ ir ∧ ir ≤ 5); first | exact hr_ir | omega), (by show ((-2147483648) ≤ ip ∧ ip ≤ 2147483647); first | exact hr_ip | omega), (by show ((-2147483648) ≤ 0 ∧ 0 ≤ 2147483647); show ((-2147483648) : Int) ≤ 0 ∧ (0 : Int) ≤ 2147483647; decide), hf10, hf12⟩, at9 ht hP hD [8, 9, 0, 1, 2, 3, 4, 5, 6, 7] (by decide +kernel) rfl⟩, hS.F ht⟩) hS.2.2 dX12_pass__23
  · refine lv_aload_n hx hb dX12_pass__14 rfl (lv_at hlv 0 rfl) ?_
    refine lv_iconst (v := iI 2) hx hb dX12_pass__15 (by decide) ?_
    refine cjr_i [false, true, true, true, true, true, true, true, false, false] (fun pre9 => (va_runV (As := [vI 2]) (rest := []) ⟨hx, hb, hml, hown, hts⟩ (m_isStreet l hl D cy sa mm m1 m9 m10 m11 m12 m13 m14 m15 m19 m20 m21 m23 m24 m25 m26 m27 m28 m33 m35 (u1.2.1 1) tp sz_ ap bad bk opn fp im nr nl sp_ wtc wcl ir ip shu sfa swr (u1.2.2 0) f10 2 H.size (by first | exact hq1_1 | omega) (by first | exact hr_tp | omega) (by first | exact hr_sz_ | omega) (by first | exact hr_ap | omega) (by first | exact hr_bad | omega) (by first | exact hr_bk | omega) (by first | exact hr_opn | omega) (by first | exact hr_fp | omega) (by first | exact hr_im | omega) (by first | exact hr_nr | omega) (by first | exact hr_nl | omega) (by first | exact hr_sp_ | omega) (by first | exact hr_wtc | omega) (by first | exact hr_wcl | omega) (by first | exact hr_ir | omega) (by first | exact hr_ip | omega) (by first | exact hr_shu | omega) (by first | exact hr_sfa | omega) (by first | exact hr_swr | omega) (by show (1 : Int) ≤ 2 ∧ (2 : Int) ≤ 4; decide) hf10) (cwV 1 hts gg_2 rfl rfl rfl (by decide +kernel) ⟨Nat.le_of_ble_eq_true rfl, Nat.le_of_ble_eq_true rfl⟩) ⟨pcW.blind, (va_recv hG.1 hP (ci := 12) (q0 := 8) rfl rfl), pre9⟩ rfl rfl hlv.1 rfl (lv_room (Nat.le_of_ble_eq_true rfl)) dX12_pass__16 ⟨Nat.le_of_ble_eq_true rfl, Nat.le_of_ble_eq_true rfl⟩)) hP hD hS hA hG hT [8, 9, 0] rfl (by decide +kernel) (fun r2 u2 H locs hw2 hq9 hS => ?_)
    obtain ⟨rfl, hq2_1, hq2_2, hq2_3, hq2_4⟩ := hw2
    obtain ⟨hP, hD⟩ := pd9 [zI m12 (cy 0) 389 f12, zI m23 (cy 0) 2480 f23, zI m24 (cy 0) 2480 f24, zI m25 (cy 0) 20 f25, zI m26 (cy 0) 20 f26, zI m27 (cy 0) 620 f27, zI m28 (cy 0) 7 f28, zO mm 12 [vI (u2.2.1 1), vR m1, vI tp, vI sz_, vI ap, vI bad, vI bk, vI opn, vI fp, vR m9, vR m10, vR m11, vR m12, vR m13, vR m14, vR m15, vI im, vI nr, vI nl, vR m19, vR m20, vR m21, vI sp_, vR m23, vR m24, vR m25, vR m26, vR m27, vR m28, vI wtc, vI wcl, vI ir, vI ip, vR m33, vI shu, vR m35, vI sfa, vI swr], zI m1 (cy 0) 4 (u2.2.2 0), zI m10 (cy 0) 68 f10] hq9
    refine iz_ne (tgt := 24) hx hb dX12_pass__19 (by decide) (by first | exact rgw hq2_2 (by decide) (by decide) | omega) (fun c_2 => ?_) (fun c_2 => ?_)
    · refine lv_aload_n hx hb dX12_pass__24 rfl (lv_at hlv 0 rfl) ?_
      refine lv_iload_n hx hb dX12_pass__25 rfl (lv_at hlv 1 rfl) ?_
      refine cjr_i [false, false, false, false, false, false, false, false, true, false] (fun pre9 => (va_runV (As := [vI n]) (rest := []) ⟨hx, hb, hml, hown, hts⟩ (m_allPass l hl D cy sa mm m1 m9 m10 m11 m12 m13 m14 m15 m19 m20 m21 m23 m24 m25 m26 m27 m28 m33 m35 (u2.2.1 1) tp sz_ ap bad bk opn fp im nr nl sp_ wtc wcl ir ip shu sfa swr f10 f12 f23 f24 f25 f26 f27 f28 n qs 8 H.size (by first | exact hq2_1 | omega) (by first | exact hr_tp | omega) (by first | exact hr_sz_ | omega) (by first | exact hr_ap | omega) (by first | exact hr_bad | omega) (by first | exact hr_bk | omega) (by first | exact hr_opn | omega) (by first | exact hr_fp | omega) (by first | exact hr_im | omega) (by first | exact hr_nr | omega) (by first | exact hr_nl | omega) (by first | exact hr_sp_ | omega) (by first | exact hr_wtc | omega) (by first | exact hr_wcl | omega) (by first | exact hr_ir | omega) (by first | exact hr_ip | omega) (by first | exact hr_shu | omega) (by first | exact hr_sfa | omega) (by first | exact hr_swr | omega) (by omega) (by show (8 : Int) ≤ 8 ∧ (8 : Int) ≤ 9; decide) (by omega) (by omega) hn_li hq2_4 hf12) (cwV 1 hts gg_3 rfl rfl rfl (by decide +kernel) ⟨Nat.le_of_ble_eq_true rfl, Nat.le_of_ble_eq_true rfl⟩) ⟨pcW.blind, (va_recv hG.1 hP (ci := 12) (q0 := 7) rfl rfl), pre9⟩ rfl rfl hlv.1 rfl (lv_room (Nat.le_of_ble_eq_true rfl)) dX12_pass__26 ⟨Nat.le_of_ble_eq_true rfl, Nat.le_of_ble_eq_true rfl⟩)) hP hD hS hA hG hT [7, 9, 0, 1, 2, 3, 4, 5, 6] rfl (by decide +kernel) (fun r3 u3 H locs hw3 hq9 hS => ?_)
      obtain ⟨rfl, hq3_1, hq3_2, hq3_3, hq3_4, hq3_5⟩ := hw3
      obtain ⟨hP, hD⟩ := pd9 [zI m1 (cy 0) 4 (u2.2.2 0), zO mm 12 [vI (u2.2.1 1), vR m1, vI tp, vI sz_, vI ap, vI bad, vI bk, vI opn, vI fp, vR m9, vR m10, vR m11, vR m12, vR m13, vR m14, vR m15, vI im, vI nr, vI nl, vR m19, vR m20, vR m21, vI sp_, vR m23, vR m24, vR m25, vR m26, vR m27, vR m28, vI wtc, vI wcl, vI (u3.2.1 1), vI (u3.2.1 2), vR m33, vI shu, vR m35, vI sfa, vI swr], zI m10 (cy 0) 68 f10, zI m12 (cy 0) 389 (u3.2.2 0), zI m23 (cy 0) 2480 f23, zI m24 (cy 0) 2480 f24, zI m25 (cy 0) 20 f25, zI m26 (cy 0) 20 f26, zI m27 (cy 0) 620 (u3.2.2 1), zI m28 (cy 0) 7 (u3.2.2 2)] hq9
      refine W.widen (k := 0) (n := 0) (Nat.le_of_ble_eq_true rfl) (Nat.le_of_ble_eq_true rfl) ?_
      exact W.iret (v := iI (u3.2.1 0)) hx hb hr (fun t ht hW => ⟨⟨iI (u3.2.1 0), ((fun k => ([] : List Nat).getD k 0), (fun k => ([(u3.2.1 0), (u2.2.1 1), (u3.2.1 1), (u3.2.1 2)] : List Int).getD k 0), (fun k => ([(u2.2.2 0), (u3.2.2 0), (u3.2.2 1), (u3.2.2 2)] : List (Nat → Int32)).getD k (fun _ => 0))), rfl, ⟨rfl, (by show ((-2147483648) ≤ (u2.2.1 1) ∧ (u2.2.1 1) ≤ 2147483647); first | exact hq2_1 | omega), (by show (0 ≤ (u3.2.1 1) ∧ (u3.2.1 1) ≤ 5); first | exact hq3_1 | omega), (by show ((-2147483648) ≤ (u3.2.1 2) ∧ (u3.2.1 2) ≤ 2147483647); first | exact hq3_2 | omega), (by show ((-2147483648) ≤ (u3.2.1 0) ∧ (u3.2.1 0) ≤ 2147483647); first | exact hq3_3 | omega), hq3_4, hq3_5⟩, at9 ht hP hD [1, 0, 2, 3, 4, 5, 6, 7, 8, 9] (by decide +kernel) rfl⟩, hS.F ht⟩) hS.2.2 dX12_pass__29
    · refine lv_iconst (v := iI 0) hx hb dX12_pass__22 (by decide) ?_
      refine W.widen (k := 0) (n := 0) (Nat.le_of_ble_eq_true rfl) (Nat.le_of_ble_eq_true rfl) ?_
      exact W.iret (v := iI 0) hx hb hr (fun t ht hW => ⟨⟨iI 0, ((fun k => ([] : List Nat).getD k 0), (fun k => ([0, (u2.2.1 1), ir, ip] : List Int).getD k 0), (fun k => ([(u2.2.2 0), f12, f27, f28] : List (Nat → Int32)).getD k (fun _ => 0))), rfl, ⟨rfl, (by show ((-2147483648) ≤ (u2.2.1 1) ∧ (u2.2.1 1) ≤ 2147483647); first | exact hq2_1 | omega), (by show (0 ≤ ir ∧ ir ≤ 5); first | exact hr_ir | omega), (by show ((-2147483648) ≤ ip ∧ ip ≤ 2147483647); first | exact hr_ip | omega), (by show ((-2147483648) ≤ 0 ∧ 0 ≤ 2147483647); show ((-2147483648) : Int) ≤ 0 ∧ (0 : Int) ≤ 2147483647; decide), hq2_4, hf12⟩, at9 ht hP hD [7, 8, 9, 0, 1, 2, 3, 4, 5, 6] (by decide +kernel) rfl⟩, hS.F ht⟩) hS.2.2 dX12_pass__23
end
