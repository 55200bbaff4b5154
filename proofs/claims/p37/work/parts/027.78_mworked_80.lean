section
theorem dX12_worked_0 : decode cX12_worked 0 = .ok (.iconst 0, 1) := by decide +kernel
theorem dX12_worked_1 : decode cX12_worked 1 = .ok (.istore_n 2, 1) := by decide +kernel
theorem dX12_worked_10 : decode cX12_worked 10 = .ok (.aload_n 0, 1) := by decide +kernel
theorem dX12_worked_100 : decode cX12_worked 100 = .ok (.bipush 12, 2) := by decide +kernel
theorem dX12_worked_102 : decode cX12_worked 102 = .ok (.if_icmp .ne 46, 3) := by decide +kernel
theorem dX12_worked_105 : decode cX12_worked 105 = .ok (.iinc 2 (-2), 3) := by decide +kernel
theorem dX12_worked_108 : decode cX12_worked 108 = .ok (.aload_n 0, 1) := by decide +kernel
theorem dX12_worked_109 : decode cX12_worked 109 = .ok (.getfield 62, 3) := by decide +kernel
theorem dX12_worked_11 : decode cX12_worked 11 = .ok (.getfield 59, 3) := by decide +kernel
theorem dX12_worked_112 : decode cX12_worked 112 = .ok (.iload_n 2, 1) := by decide +kernel
theorem dX12_worked_113 : decode cX12_worked 113 = .ok (.iconst 1, 1) := by decide +kernel
theorem dX12_worked_114 : decode cX12_worked 114 = .ok (.isub, 1) := by decide +kernel
theorem dX12_worked_115 : decode cX12_worked 115 = .ok (.aload_n 0, 1) := by decide +kernel
theorem dX12_worked_116 : decode cX12_worked 116 = .ok (.getfield 62, 3) := by decide +kernel
theorem dX12_worked_119 : decode cX12_worked 119 = .ok (.iload_n 2, 1) := by decide +kernel
theorem dX12_worked_120 : decode cX12_worked 120 = .ok (.iconst 1, 1) := by decide +kernel
theorem dX12_worked_121 : decode cX12_worked 121 = .ok (.isub, 1) := by decide +kernel
theorem dX12_worked_122 : decode cX12_worked 122 = .ok (.iaload, 1) := by decide +kernel
theorem dX12_worked_123 : decode cX12_worked 123 = .ok (.iconst 1, 1) := by decide +kernel
theorem dX12_worked_124 : decode cX12_worked 124 = .ok (.if_icmp .ne 12, 3) := by decide +kernel
theorem dX12_worked_127 : decode cX12_worked 127 = .ok (.aload_n 0, 1) := by decide +kernel
theorem dX12_worked_128 : decode cX12_worked 128 = .ok (.getfield 62, 3) := by decide +kernel
theorem dX12_worked_131 : decode cX12_worked 131 = .ok (.iload_n 2, 1) := by decide +kernel
theorem dX12_worked_132 : decode cX12_worked 132 = .ok (.iaload, 1) := by decide +kernel
theorem dX12_worked_133 : decode cX12_worked 133 = .ok (.goto 11, 3) := by decide +kernel
theorem dX12_worked_136 : decode cX12_worked 136 = .ok (.aload_n 0, 1) := by decide +kernel
theorem dX12_worked_137 : decode cX12_worked 137 = .ok (.getfield 62, 3) := by decide +kernel
theorem dX12_worked_14 : decode cX12_worked 14 = .ok (.iload_n 1, 1) := by decide +kernel
theorem dX12_worked_140 : decode cX12_worked 140 = .ok (.iload_n 2, 1) := by decide +kernel
theorem dX12_worked_141 : decode cX12_worked 141 = .ok (.iconst 1, 1) := by decide +kernel
theorem dX12_worked_142 : decode cX12_worked 142 = .ok (.iadd, 1) := by decide +kernel
theorem dX12_worked_143 : decode cX12_worked 143 = .ok (.iaload, 1) := by decide +kernel
theorem dX12_worked_144 : decode cX12_worked 144 = .ok (.iastore, 1) := by decide +kernel
theorem dX12_worked_145 : decode cX12_worked 145 = .ok (.goto 218, 3) := by decide +kernel
theorem dX12_worked_148 : decode cX12_worked 148 = .ok (.iinc 2 (-1), 3) := by decide +kernel
theorem dX12_worked_15 : decode cX12_worked 15 = .ok (.iaload, 1) := by decide +kernel
theorem dX12_worked_151 : decode cX12_worked 151 = .ok (.aload_n 0, 1) := by decide +kernel
theorem dX12_worked_152 : decode cX12_worked 152 = .ok (.getfield 62, 3) := by decide +kernel
theorem dX12_worked_155 : decode cX12_worked 155 = .ok (.iload_n 2, 1) := by decide +kernel
theorem dX12_worked_156 : decode cX12_worked 156 = .ok (.iconst 1, 1) := by decide +kernel
theorem dX12_worked_157 : decode cX12_worked 157 = .ok (.isub, 1) := by decide +kernel
theorem dX12_worked_158 : decode cX12_worked 158 = .ok (.iaload, 1) := by decide +kernel
theorem dX12_worked_159 : decode cX12_worked 159 = .ok (.istore 5, 2) := by decide +kernel
theorem dX12_worked_16 : decode cX12_worked 16 = .ok (.if_icmp .ge 353, 3) := by decide +kernel
theorem dX12_worked_161 : decode cX12_worked 161 = .ok (.aload_n 0, 1) := by decide +kernel
theorem dX12_worked_162 : decode cX12_worked 162 = .ok (.getfield 62, 3) := by decide +kernel
theorem dX12_worked_165 : decode cX12_worked 165 = .ok (.iload_n 2, 1) := by decide +kernel
theorem dX12_worked_166 : decode cX12_worked 166 = .ok (.iaload, 1) := by decide +kernel
theorem dX12_worked_167 : decode cX12_worked 167 = .ok (.istore 6, 2) := by decide +kernel
theorem dX12_worked_169 : decode cX12_worked 169 = .ok (.iconst 0, 1) := by decide +kernel
theorem dX12_worked_170 : decode cX12_worked 170 = .ok (.istore 7, 2) := by decide +kernel
theorem dX12_worked_172 : decode cX12_worked 172 = .ok (.iload 4, 2) := by decide +kernel
theorem dX12_worked_174 : decode cX12_worked 174 = .ok (.tableswitch 172 2 10 #[50, 60, 70, 80, 111, 128, 145, 172, 162], 50) := by decide +kernel
theorem dX12_worked_19 : decode cX12_worked 19 = .ok (.aload_n 0, 1) := by decide +kernel
theorem dX12_worked_2 : decode cX12_worked 2 = .ok (.aload_n 0, 1) := by decide +kernel
theorem dX12_worked_20 : decode cX12_worked 20 = .ok (.getfield 50, 3) := by decide +kernel
theorem dX12_worked_224 : decode cX12_worked 224 = .ok (.iload 5, 2) := by decide +kernel
theorem dX12_worked_226 : decode cX12_worked 226 = .ok (.iload 6, 2) := by decide +kernel
theorem dX12_worked_228 : decode cX12_worked 228 = .ok (.iadd, 1) := by decide +kernel
theorem dX12_worked_229 : decode cX12_worked 229 = .ok (.istore 7, 2) := by decide +kernel
theorem dX12_worked_23 : decode cX12_worked 23 = .ok (.iload_n 3, 1) := by decide +kernel
theorem dX12_worked_231 : decode cX12_worked 231 = .ok (.goto 122, 3) := by decide +kernel
theorem dX12_worked_234 : decode cX12_worked 234 = .ok (.iload 5, 2) := by decide +kernel
theorem dX12_worked_236 : decode cX12_worked 236 = .ok (.iload 6, 2) := by decide +kernel
theorem dX12_worked_238 : decode cX12_worked 238 = .ok (.isub, 1) := by decide +kernel
theorem dX12_worked_239 : decode cX12_worked 239 = .ok (.istore 7, 2) := by decide +kernel
theorem dX12_worked_24 : decode cX12_worked 24 = .ok (.iaload, 1) := by decide +kernel
theorem dX12_worked_241 : decode cX12_worked 241 = .ok (.goto 112, 3) := by decide +kernel
theorem dX12_worked_244 : decode cX12_worked 244 = .ok (.iload 5, 2) := by decide +kernel
theorem dX12_worked_246 : decode cX12_worked 246 = .ok (.iload 6, 2) := by decide +kernel
theorem dX12_worked_248 : decode cX12_worked 248 = .ok (.imul, 1) := by decide +kernel
theorem dX12_worked_249 : decode cX12_worked 249 = .ok (.istore 7, 2) := by decide +kernel
theorem dX12_worked_25 : decode cX12_worked 25 = .ok (.istore 4, 2) := by decide +kernel
theorem dX12_worked_251 : decode cX12_worked 251 = .ok (.goto 102, 3) := by decide +kernel
theorem dX12_worked_254 : decode cX12_worked 254 = .ok (.iload 6, 2) := by decide +kernel
theorem dX12_worked_256 : decode cX12_worked 256 = .ok (.ifCond .ne 7, 3) := by decide +kernel
theorem dX12_worked_259 : decode cX12_worked 259 = .ok (.iconst 0, 1) := by decide +kernel
theorem dX12_worked_260 : decode cX12_worked 260 = .ok (.goto 20, 3) := by decide +kernel
theorem dX12_worked_263 : decode cX12_worked 263 = .ok (.iload 6, 2) := by decide +kernel
theorem dX12_worked_265 : decode cX12_worked 265 = .ok (.iconst (-1), 1) := by decide +kernel
theorem dX12_worked_266 : decode cX12_worked 266 = .ok (.if_icmp .ne 9, 3) := by decide +kernel
theorem dX12_worked_269 : decode cX12_worked 269 = .ok (.iload 5, 2) := by decide +kernel
theorem dX12_worked_27 : decode cX12_worked 27 = .ok (.iload 4, 2) := by decide +kernel
theorem dX12_worked_271 : decode cX12_worked 271 = .ok (.ineg, 1) := by decide +kernel
theorem dX12_worked_272 : decode cX12_worked 272 = .ok (.goto 8, 3) := by decide +kernel
theorem dX12_worked_275 : decode cX12_worked 275 = .ok (.iload 5, 2) := by decide +kernel
theorem dX12_worked_277 : decode cX12_worked 277 = .ok (.iload 6, 2) := by decide +kernel
theorem dX12_worked_279 : decode cX12_worked 279 = .ok (.idiv, 1) := by decide +kernel
theorem dX12_worked_280 : decode cX12_worked 280 = .ok (.istore 7, 2) := by decide +kernel
theorem dX12_worked_282 : decode cX12_worked 282 = .ok (.goto 71, 3) := by decide +kernel
theorem dX12_worked_285 : decode cX12_worked 285 = .ok (.iload 5, 2) := by decide +kernel
theorem dX12_worked_287 : decode cX12_worked 287 = .ok (.iload 6, 2) := by decide +kernel
theorem dX12_worked_289 : decode cX12_worked 289 = .ok (.if_icmp .ge 7, 3) := by decide +kernel
theorem dX12_worked_29 : decode cX12_worked 29 = .ok (.iconst 1, 1) := by decide +kernel
theorem dX12_worked_292 : decode cX12_worked 292 = .ok (.iconst 1, 1) := by decide +kernel
theorem dX12_worked_293 : decode cX12_worked 293 = .ok (.goto 4, 3) := by decide +kernel
theorem dX12_worked_296 : decode cX12_worked 296 = .ok (.iconst 0, 1) := by decide +kernel
theorem dX12_worked_297 : decode cX12_worked 297 = .ok (.istore 7, 2) := by decide +kernel
theorem dX12_worked_299 : decode cX12_worked 299 = .ok (.goto 54, 3) := by decide +kernel
theorem dX12_worked_3 : decode cX12_worked 3 = .ok (.getfield 56, 3) := by decide +kernel
theorem dX12_worked_30 : decode cX12_worked 30 = .ok (.if_icmp .gt 40, 3) := by decide +kernel
theorem dX12_worked_302 : decode cX12_worked 302 = .ok (.iload 5, 2) := by decide +kernel
theorem dX12_worked_304 : decode cX12_worked 304 = .ok (.iload 6, 2) := by decide +kernel
theorem dX12_worked_306 : decode cX12_worked 306 = .ok (.if_icmp .le 7, 3) := by decide +kernel
theorem dX12_worked_309 : decode cX12_worked 309 = .ok (.iconst 1, 1) := by decide +kernel
theorem dX12_worked_310 : decode cX12_worked 310 = .ok (.goto 4, 3) := by decide +kernel
theorem dX12_worked_313 : decode cX12_worked 313 = .ok (.iconst 0, 1) := by decide +kernel
theorem dX12_worked_314 : decode cX12_worked 314 = .ok (.istore 7, 2) := by decide +kernel
theorem dX12_worked_316 : decode cX12_worked 316 = .ok (.goto 37, 3) := by decide +kernel
theorem dX12_worked_319 : decode cX12_worked 319 = .ok (.iload 5, 2) := by decide +kernel
theorem dX12_worked_321 : decode cX12_worked 321 = .ok (.iload 6, 2) := by decide +kernel
theorem dX12_worked_323 : decode cX12_worked 323 = .ok (.if_icmp .ne 7, 3) := by decide +kernel
theorem dX12_worked_326 : decode cX12_worked 326 = .ok (.iconst 1, 1) := by decide +kernel
theorem dX12_worked_327 : decode cX12_worked 327 = .ok (.goto 4, 3) := by decide +kernel
theorem dX12_worked_33 : decode cX12_worked 33 = .ok (.aload_n 0, 1) := by decide +kernel
theorem dX12_worked_330 : decode cX12_worked 330 = .ok (.iconst 0, 1) := by decide +kernel
theorem dX12_worked_331 : decode cX12_worked 331 = .ok (.istore 7, 2) := by decide +kernel
theorem dX12_worked_333 : decode cX12_worked 333 = .ok (.goto 20, 3) := by decide +kernel
theorem dX12_worked_336 : decode cX12_worked 336 = .ok (.iload 5, 2) := by decide +kernel
theorem dX12_worked_338 : decode cX12_worked 338 = .ok (.iload 6, 2) := by decide +kernel
theorem dX12_worked_34 : decode cX12_worked 34 = .ok (.getfield 62, 3) := by decide +kernel
theorem dX12_worked_340 : decode cX12_worked 340 = .ok (.iand, 1) := by decide +kernel
theorem dX12_worked_341 : decode cX12_worked 341 = .ok (.istore 7, 2) := by decide +kernel
theorem dX12_worked_343 : decode cX12_worked 343 = .ok (.goto 10, 3) := by decide +kernel
theorem dX12_worked_346 : decode cX12_worked 346 = .ok (.iload 5, 2) := by decide +kernel
theorem dX12_worked_348 : decode cX12_worked 348 = .ok (.iload 6, 2) := by decide +kernel
theorem dX12_worked_350 : decode cX12_worked 350 = .ok (.ior, 1) := by decide +kernel
theorem dX12_worked_351 : decode cX12_worked 351 = .ok (.istore 7, 2) := by decide +kernel
theorem dX12_worked_353 : decode cX12_worked 353 = .ok (.aload_n 0, 1) := by decide +kernel
theorem dX12_worked_354 : decode cX12_worked 354 = .ok (.getfield 62, 3) := by decide +kernel
theorem dX12_worked_357 : decode cX12_worked 357 = .ok (.iload_n 2, 1) := by decide +kernel
theorem dX12_worked_358 : decode cX12_worked 358 = .ok (.iconst 1, 1) := by decide +kernel
theorem dX12_worked_359 : decode cX12_worked 359 = .ok (.isub, 1) := by decide +kernel
theorem dX12_worked_360 : decode cX12_worked 360 = .ok (.iload 7, 2) := by decide +kernel
theorem dX12_worked_362 : decode cX12_worked 362 = .ok (.iastore, 1) := by decide +kernel
theorem dX12_worked_363 : decode cX12_worked 363 = .ok (.iinc 3 1, 3) := by decide +kernel
theorem dX12_worked_366 : decode cX12_worked 366 = .ok (.goto (-357), 3) := by decide +kernel
theorem dX12_worked_369 : decode cX12_worked 369 = .ok (.iload_n 2, 1) := by decide +kernel
theorem dX12_worked_37 : decode cX12_worked 37 = .ok (.iload_n 2, 1) := by decide +kernel
theorem dX12_worked_370 : decode cX12_worked 370 = .ok (.ifCond .ne 7, 3) := by decide +kernel
theorem dX12_worked_373 : decode cX12_worked 373 = .ok (.iconst 0, 1) := by decide +kernel
theorem dX12_worked_374 : decode cX12_worked 374 = .ok (.goto 9, 3) := by decide +kernel
theorem dX12_worked_377 : decode cX12_worked 377 = .ok (.aload_n 0, 1) := by decide +kernel
theorem dX12_worked_378 : decode cX12_worked 378 = .ok (.getfield 62, 3) := by decide +kernel
theorem dX12_worked_38 : decode cX12_worked 38 = .ok (.iload 4, 2) := by decide +kernel
theorem dX12_worked_381 : decode cX12_worked 381 = .ok (.iconst 0, 1) := by decide +kernel
theorem dX12_worked_382 : decode cX12_worked 382 = .ok (.iaload, 1) := by decide +kernel
theorem dX12_worked_383 : decode cX12_worked 383 = .ok (.ireturn, 1) := by decide +kernel
theorem dX12_worked_40 : decode cX12_worked 40 = .ok (.ifCond .ne 12, 3) := by decide +kernel
theorem dX12_worked_43 : decode cX12_worked 43 = .ok (.aload_n 0, 1) := by decide +kernel
theorem dX12_worked_44 : decode cX12_worked 44 = .ok (.getfield 53, 3) := by decide +kernel
theorem dX12_worked_47 : decode cX12_worked 47 = .ok (.iload_n 3, 1) := by decide +kernel
theorem dX12_worked_48 : decode cX12_worked 48 = .ok (.iaload, 1) := by decide +kernel
theorem dX12_worked_49 : decode cX12_worked 49 = .ok (.goto 14, 3) := by decide +kernel
theorem dX12_worked_52 : decode cX12_worked 52 = .ok (.aload_n 0, 1) := by decide +kernel
theorem dX12_worked_53 : decode cX12_worked 53 = .ok (.getfield 65, 3) := by decide +kernel
theorem dX12_worked_56 : decode cX12_worked 56 = .ok (.aload_n 0, 1) := by decide +kernel
theorem dX12_worked_57 : decode cX12_worked 57 = .ok (.getfield 53, 3) := by decide +kernel
theorem dX12_worked_6 : decode cX12_worked 6 = .ok (.iload_n 1, 1) := by decide +kernel
theorem dX12_worked_60 : decode cX12_worked 60 = .ok (.iload_n 3, 1) := by decide +kernel
theorem dX12_worked_61 : decode cX12_worked 61 = .ok (.iaload, 1) := by decide +kernel
theorem dX12_worked_62 : decode cX12_worked 62 = .ok (.iaload, 1) := by decide +kernel
theorem dX12_worked_63 : decode cX12_worked 63 = .ok (.iastore, 1) := by decide +kernel
theorem dX12_worked_64 : decode cX12_worked 64 = .ok (.iinc 2 1, 3) := by decide +kernel
theorem dX12_worked_67 : decode cX12_worked 67 = .ok (.goto 296, 3) := by decide +kernel
theorem dX12_worked_7 : decode cX12_worked 7 = .ok (.iaload, 1) := by decide +kernel
theorem dX12_worked_70 : decode cX12_worked 70 = .ok (.iload 4, 2) := by decide +kernel
theorem dX12_worked_72 : decode cX12_worked 72 = .ok (.bipush 9, 2) := by decide +kernel
theorem dX12_worked_74 : decode cX12_worked 74 = .ok (.if_icmp .ne 24, 3) := by decide +kernel
theorem dX12_worked_77 : decode cX12_worked 77 = .ok (.aload_n 0, 1) := by decide +kernel
theorem dX12_worked_78 : decode cX12_worked 78 = .ok (.getfield 62, 3) := by decide +kernel
theorem dX12_worked_8 : decode cX12_worked 8 = .ok (.istore_n 3, 1) := by decide +kernel
theorem dX12_worked_81 : decode cX12_worked 81 = .ok (.iload_n 2, 1) := by decide +kernel
theorem dX12_worked_82 : decode cX12_worked 82 = .ok (.iconst 1, 1) := by decide +kernel
theorem dX12_worked_83 : decode cX12_worked 83 = .ok (.isub, 1) := by decide +kernel
theorem dX12_worked_84 : decode cX12_worked 84 = .ok (.iconst 1, 1) := by decide +kernel
theorem dX12_worked_85 : decode cX12_worked 85 = .ok (.aload_n 0, 1) := by decide +kernel
theorem dX12_worked_86 : decode cX12_worked 86 = .ok (.getfield 62, 3) := by decide +kernel
theorem dX12_worked_89 : decode cX12_worked 89 = .ok (.iload_n 2, 1) := by decide +kernel
theorem dX12_worked_9 : decode cX12_worked 9 = .ok (.iload_n 3, 1) := by decide +kernel
theorem dX12_worked_90 : decode cX12_worked 90 = .ok (.iconst 1, 1) := by decide +kernel
theorem dX12_worked_91 : decode cX12_worked 91 = .ok (.isub, 1) := by decide +kernel
theorem dX12_worked_92 : decode cX12_worked 92 = .ok (.iaload, 1) := by decide +kernel
theorem dX12_worked_93 : decode cX12_worked 93 = .ok (.isub, 1) := by decide +kernel
theorem dX12_worked_94 : decode cX12_worked 94 = .ok (.iastore, 1) := by decide +kernel
theorem dX12_worked_95 : decode cX12_worked 95 = .ok (.goto 268, 3) := by decide +kernel
theorem dX12_worked_98 : decode cX12_worked 98 = .ok (.iload 4, 2) := by decide +kernel
def vs_m_worked : List Cond := .code yX12_worked cX12_worked 8 (some .int) :: (([.fieldLink RX12 56 "KerbSplashModel" "lawFrom" "[I", .fieldLink RX12 59 "KerbSplashModel" "lawTo" "[I", .fieldLink RX12 62 "KerbSplashModel" "stack" "[I", .fieldLink RX12 50 "KerbSplashModel" "step" "[I", .fieldLink RX12 65 "KerbSplashModel" "names" "[I", .fieldLink RX12 53 "KerbSplashModel" "stepValue" "[I"] : List Cond) ++ ((wsX120) ++ ([])))
theorem gd_m_worked : vs_m_worked.all goodWord = true := gd_C (by decide +kernel) (gd_A (by decide +kernel) (gd_A (by decide +kernel) rfl))
set_option maxHeartbeats 4000000 in
set_option maxRecDepth 100000 in
theorem m_worked (l : Launch) (hl : l.stackTraces = false) (D : va_G) (cy : Nat → ClassId) (sa : Nat → Nat) (mm m1 m9 m10 m11 m12 m13 m14 m15 m19 m20 m21 m23 m24 m25 m26 m27 m28 m33 m35 : Nat) (th tp sz_ ap bad bk opn fp im nr nl sp_ wtc wcl ir ip shu sfa swr : Int) (f23 f24 f25 f26 f27 f28 : Nat → Int32) (n : Int) (sz : Nat) (hr_th : (-2147483648) ≤ th ∧ th ≤ 2147483647) (hr_tp : 0 ≤ tp ∧ tp ≤ 600) (hr_sz_ : 0 ≤ sz_ ∧ sz_ ≤ 600) (hr_ap : 0 ≤ ap ∧ ap ≤ 602) (hr_bad : (-1) ≤ bad ∧ bad ≤ 602) (hr_bk : 0 ≤ bk ∧ bk ≤ 4) (hr_opn : 0 ≤ opn ∧ opn ≤ 7) (hr_fp : (-2147483648) ≤ fp ∧ fp ≤ 2147483647) (hr_im : 0 ≤ im ∧ im ≤ 3) (hr_nr : 0 ≤ nr ∧ nr ≤ 4) (hr_nl : 0 ≤ nl ∧ nl ≤ 4) (hr_sp_ : 0 ≤ sp_ ∧ sp_ ≤ 602) (hr_wtc : (-2147483648) ≤ wtc ∧ wtc ≤ 2147483647) (hr_wcl : 0 ≤ wcl ∧ wcl ≤ 95) (hr_ir : 0 ≤ ir ∧ ir ≤ 5) (hr_ip : (-2147483648) ≤ ip ∧ ip ≤ 2147483647) (hr_shu : (-2147483648) ≤ shu ∧ shu ≤ 2147483647) (hr_sfa : (-2147483648) ≤ sfa ∧ sfa ≤ 2147483647) (hr_swr : (-2147483648) ≤ swr ∧ swr ≤ 2147483647) (hr_n : 0 ≤ n ∧ n ≤ 19) (hp0 : n < 5 * nl) (hn_li : LI nl f23 f24 f25 f26) : mI9 l yX12_worked vs_m_worked ({ frames := 0, cells := 0, slots := 0, locals := 0 }) D cy sa sz [vR mm, vI n] [zO mm 12 [vI th, vR m1, vI tp, vI sz_, vI ap, vI bad, vI bk, vI opn, vI fp, vR m9, vR m10, vR m11, vR m12, vR m13, vR m14, vR m15, vI im, vI nr, vI nl, vR m19, vR m20, vR m21, vI sp_, vR m23, vR m24, vR m25, vR m26, vR m27, vR m28, vI wtc, vI wcl, vI ir, vI ip, vR m33, vI shu, vR m35, vI sfa, vI swr], zI m23 (cy 0) 2480 f23, zI m24 (cy 0) 2480 f24, zI m25 (cy 0) 20 f25, zI m26 (cy 0) 20 f26, zI m27 (cy 0) 620 f27, zI m28 (cy 0) 7 f28] (fun (r : Int32) (u : SV) => r = iI (u.2.1 0) ∧ ((-2147483648) ≤ u.2.1 0 ∧ u.2.1 0 ≤ 2147483647)) (fun u : SV => [zO mm 12 [vI th, vR m1, vI tp, vI sz_, vI ap, vI bad, vI bk, vI opn, vI fp, vR m9, vR m10, vR m11, vR m12, vR m13, vR m14, vR m15, vI im, vI nr, vI nl, vR m19, vR m20, vR m21, vI sp_, vR m23, vR m24, vR m25, vR m26, vR m27, vR m28, vI wtc, vI wcl, vI ir, vI ip, vR m33, vI shu, vR m35, vI sfa, vI swr], zI m23 (cy 0) 2480 f23, zI m24 (cy 0) 2480 f24, zI m25 (cy 0) 20 f25, zI m26 (cy 0) 20 f26, zI m27 (cy 0) 620 (u.2.2 0), zI m28 (cy 0) 7 f28]) 0 0 := by
  refine Met.ofW (cc := cX12_worked) (maxL := 8) (ret := (some .int)) (by decide) rfl ?_
  intro p e s m args below meth c s₁ B hml hv
  obtain ⟨rfl, hsz, hP, hG, hD0, hT⟩ := hv
  have hx := B.exec
  have hb := B.bytes
  have hr := B.returns
  have hts := atoms_spec (ws := vs_m_worked) B.pre
  have hown : s.vm.findClass RX12 = some m.cls := findClass_of_methodNamed B.named
  have hlocks := B.notSynchronized
  subst hsz
  have hD := hD0.self (sz := s.heap.size)
  generalize hAe : va_A [zO mm 12 [vI th, vR m1, vI tp, vI sz_, vI ap, vI bad, vI bk, vI opn, vI fp, vR m9, vR m10, vR m11, vR m12, vR m13, vR m14, vR m15, vI im, vI nr, vI nl, vR m19, vR m20, vR m21, vI sp_, vR m23, vR m24, vR m25, vR m26, vR m27, vR m28, vI wtc, vI wcl, vI ir, vI ip, vR m33, vI shu, vR m35, vI sfa, vI swr], zI m23 (cy 0) 2480 f23, zI m24 (cy 0) 2480 f24, zI m25 (cy 0) 20 f25, zI m26 (cy 0) 20 f26, zI m27 (cy 0) 620 f27, zI m28 (cy 0) 7 f28] s.heap.size = A at hD hT ⊢
  have hA : ∀ q : Nat, s.heap.size ≤ q → A q := fun q h => by rw [← hAe]; exact Or.inr h
  have hS : va_S A s.heap s.heap [] := va_S.rf
  have hl0 := lv_entry ([vR mm, vI n]) (n := 8) (Nat.le_of_ble_eq_true rfl)
  rw [lg_entry_eq]
  generalize (lg_sl ([vR mm, vI n]) ++ List.replicate (8 - (lg_sl ([vR mm, vI n])).length) Slot.unset).toArray = ls at hl0 ⊢
  have hlv : lv_has ls 8 [(0, vR mm), (1, vI n)] := hl0
  have lf56 := hts (.fieldLink RX12 56 "KerbSplashModel" "lawFrom" "[I") (List.mem_of_getElem? (i := 1) rfl)
  have hi12 : ∀ w ∈ wsX120, w ∈ vs_m_worked := fun w h => List.mem_cons_of_mem _ (List.mem_append_right _ (List.mem_append_left _ h))
  have lf59 := hts (.fieldLink RX12 59 "KerbSplashModel" "lawTo" "[I") (List.mem_of_getElem? (i := 2) rfl)
  have lf62 := hts (.fieldLink RX12 62 "KerbSplashModel" "stack" "[I") (List.mem_of_getElem? (i := 3) rfl)
  have lf50 := hts (.fieldLink RX12 50 "KerbSplashModel" "step" "[I") (List.mem_of_getElem? (i := 4) rfl)
  have lf65 := hts (.fieldLink RX12 65 "KerbSplashModel" "names" "[I") (List.mem_of_getElem? (i := 5) rfl)
  have lf53 := hts (.fieldLink RX12 53 "KerbSplashModel" "stepValue" "[I") (List.mem_of_getElem? (i := 6) rfl)
  refine lv_iconst (v := iI 0) hx hb dX12_worked_0 (by decide) ?_
  refine lv_istore_n (lv' := [(2, vI 0), (0, vR mm), (1, vI n)]) hx hb dX12_worked_1 rfl hlv (by decide) rfl (fun ls hlv => ?_)
  refine lv_aload_n hx hb dX12_worked_2 rfl (lv_at hlv 1 rfl) ?_
  refine va_get (D := D) (ci := 12) (v := vR m25) (C := RX12) (T := TX12) (N := 38) hx hb hts hi12 hown hG.1 hP 0 rfl rfl 25 (by decide) lf56 (fun _ h9 => h9) rfl dX12_worked_3 ?_
  refine lv_iload_n hx hb dX12_worked_6 rfl (lv_at hlv 2 rfl) ?_
  refine va_iald hx hb hG.1 hP 3 0 rfl rfl (iI_in (by omega) (by decide)) dX12_worked_7 ?_
  refine lt_nz (i := n) (by omega) (fun z_1 hz_1 lz_1 uz_1 => ?_)
  refine lv_istore_n (lv' := [(3, vI z_1), (2, vI 0), (0, vR mm), (1, vI n)]) hx hb dX12_worked_8 rfl hlv (by decide) rfl (fun ls hlv => ?_)
  rcases hn_li n.toNat (by omega) with hE | ⟨h1_, h2_, h3_, h4_, h5_, dep, d0, d1, hdep⟩
  · refine lv_iload_n hx hb dX12_worked_9 rfl (lv_at hlv 0 rfl) ?_
    refine lv_aload_n hx hb dX12_worked_10 rfl (lv_at hlv 2 rfl) ?_
    refine va_get (D := D) (ci := 12) (v := vR m26) (C := RX12) (T := TX12) (N := 38) hx hb hts hi12 hown hG.1 hP 0 rfl rfl 26 (by decide) lf59 (fun _ h9 => h9) rfl dX12_worked_11 ?_
    refine lv_iload_n hx hb dX12_worked_14 rfl (lv_at hlv 3 rfl) ?_
    refine va_iald hx hb hG.1 hP 4 0 rfl rfl (iI_in (by omega) (by decide)) dX12_worked_15 ?_
    refine lt_nz (i := n) (by omega) (fun z_2 hz_2 lz_2 uz_2 => ?_)
    refine ir_ge (tgt := 369) hx hb dX12_worked_16 (by decide) (by omega) (by omega) (fun c_3 => ?_) (fun c_3 => by exfalso; omega)
    refine lv_iload_n hx hb dX12_worked_369 rfl (lv_at hlv 1 rfl) ?_
    refine iz_ne (tgt := 377) hx hb dX12_worked_370 (by decide) (by show ((-2147483648) : Int) ≤ 0 ∧ (0 : Int) ≤ 2147483647; decide) (fun c_4 => by exfalso; omega) (fun c_4 => ?_)
    refine lv_iconst (v := iI 0) hx hb dX12_worked_373 (by decide) ?_
    refine lv_goto (tgt := 383) hx hb dX12_worked_374 (by decide) ?_
    refine W.widen (k := 0) (n := 0) (Nat.le_of_ble_eq_true rfl) (Nat.le_of_ble_eq_true rfl) ?_
    exact W.iret (v := iI 0) hx hb hr (fun t ht hW => ⟨⟨iI 0, ((fun k => ([] : List Nat).getD k 0), (fun k => ([0] : List Int).getD k 0), (fun k => ([f27] : List (Nat → Int32)).getD k (fun _ => 0))), rfl, ⟨rfl, (by show ((-2147483648) ≤ 0 ∧ 0 ≤ 2147483647); show ((-2147483648) : Int) ≤ 0 ∧ (0 : Int) ≤ 2147483647; decide)⟩, at9 ht hP hD [0, 1, 2, 3, 4, 5, 6] (by decide +kernel) rfl⟩, hS.F ht⟩) hS.2.2 dX12_worked_383
  · refine (?_ : ∀ (fu : Nat) (qn : Int) (qk : Int) (kg : Nat → Int32) (H : Heap) (locs : List Loc) (ls : Array Slot), 2480 - qk < (fu : Int) → (0 ≤ qn ∧ qn ≤ 620) → (0 ≤ qk ∧ qk ≤ 2480) → (nz f25 n.toNat ≤ qk) → (qk ≤ nz f26 n.toNat) → (qn = ((dep qk.toNat : Nat) : Int)) → (qn ≤ qk - nz f25 n.toNat) → va_P D vwCl [zO mm 12 [vI th, vR m1, vI tp, vI sz_, vI ap, vI bad, vI bk, vI opn, vI fp, vR m9, vR m10, vR m11, vR m12, vR m13, vR m14, vR m15, vI im, vI nr, vI nl, vR m19, vR m20, vR m21, vI sp_, vR m23, vR m24, vR m25, vR m26, vR m27, vR m28, vI wtc, vI wcl, vI ir, vI ip, vR m33, vI shu, vR m35, vI sfa, vI swr], zI m23 (cy 0) 2480 f23, zI m24 (cy 0) 2480 f24, zI m25 (cy 0) 20 f25, zI m26 (cy 0) 20 f26, zI m27 (cy 0) 620 kg, zI m28 (cy 0) 7 f28] H → va_D A [zO mm 12 [vI th, vR m1, vI tp, vI sz_, vI ap, vI bad, vI bk, vI opn, vI fp, vR m9, vR m10, vR m11, vR m12, vR m13, vR m14, vR m15, vI im, vI nr, vI nl, vR m19, vR m20, vR m21, vI sp_, vR m23, vR m24, vR m25, vR m26, vR m27, vR m28, vI wtc, vI wcl, vI ir, vI ip, vR m33, vI shu, vR m35, vI sfa, vI swr], zI m23 (cy 0) 2480 f23, zI m24 (cy 0) 2480 f24, zI m25 (cy 0) 20 f25, zI m26 (cy 0) 20 f26, zI m27 (cy 0) 620 kg, zI m28 (cy 0) 7 f28] → va_S A s.heap H locs → lv_has ls 8 [(3, vI qk), (2, vI qn), (0, vR mm), (1, vI n)] → W p l e _ s m _ below meth c H locs _ _ _ (F0 m 9 ls [])) (((2480 - z_1) + 1 : Int)).toNat 0 z_1 f27 _ _ _ (by omega) (by show (0 : Int) ≤ 0 ∧ (0 : Int) ≤ 620; decide) (by omega) (by omega) (by omega) (by rw [show z_1.toNat = (nz f25 n.toNat).toNat by omega, d0]; rfl) (by omega)  hP hD hS hlv
    clear hP hD hS hlv
    intro fu
    induction fu with
    | zero => intro qn qk kg H locs ls hm9 hl9_0 hl9_1 hl9_2 hl9_3 hl9_4 hl9_5  hP hD hS hlv; omega
    | succ fu ih9 =>
      intro qn qk kg H locs ls hm9 hl9_0 hl9_1 hl9_2 hl9_3 hl9_4 hl9_5  hP hD hS hlv
      refine lv_iload_n hx hb dX12_worked_9 rfl (lv_at hlv 0 rfl) ?_
      refine lv_aload_n hx hb dX12_worked_10 rfl (lv_at hlv 2 rfl) ?_
      refine va_get (D := D) (ci := 12) (v := vR m26) (C := RX12) (T := TX12) (N := 38) hx hb hts hi12 hown hG.1 hP 0 rfl rfl 26 (by decide) lf59 (fun _ h9 => h9) rfl dX12_worked_11 ?_
      refine lv_iload_n hx hb dX12_worked_14 rfl (lv_at hlv 3 rfl) ?_
      refine va_iald hx hb hG.1 hP 4 0 rfl rfl (iI_in (by omega) (by decide)) dX12_worked_15 ?_
      refine lt_nz (i := n) (by omega) (fun z_5 hz_5 lz_5 uz_5 => ?_)
      refine ir_ge (tgt := 369) hx hb dX12_worked_16 (by decide) (by first | exact rgw hl9_1 (by decide) (by decide) | omega) (by omega) (fun c_6 => ?_) (fun c_6 => ?_)
      · refine lv_iload_n hx hb dX12_worked_369 rfl (lv_at hlv 1 rfl) ?_
        refine iz_ne (tgt := 377) hx hb dX12_worked_370 (by decide) (by first | exact rgw hl9_0 (by decide) (by decide) | omega) (fun c_7 => ?_) (fun c_7 => ?_)
        · refine lv_aload_n hx hb dX12_worked_377 rfl (lv_at hlv 2 rfl) ?_
          refine va_get (D := D) (ci := 12) (v := vR m27) (C := RX12) (T := TX12) (N := 38) hx hb hts hi12 hown hG.1 hP 0 rfl rfl 27 (by decide) lf62 (fun _ h9 => h9) rfl dX12_worked_378 ?_
          refine lv_iconst (v := iI 0) hx hb dX12_worked_381 (by decide) ?_
          refine va_iald hx hb hG.1 hP 5 0 rfl rfl (iI_in (by omega) (by decide)) dX12_worked_382 ?_
          refine lt_z (fun z_8 ez_8 lz_8 hz_8 => ?_)
          refine W.widen (k := 0) (n := 0) (Nat.le_of_ble_eq_true rfl) (Nat.le_of_ble_eq_true rfl) ?_
          exact W.iret (v := iI z_8) hx hb hr (fun t ht hW => ⟨⟨iI z_8, ((fun k => ([] : List Nat).getD k 0), (fun k => ([z_8] : List Int).getD k 0), (fun k => ([kg] : List (Nat → Int32)).getD k (fun _ => 0))), rfl, ⟨rfl, (by show ((-2147483648) ≤ z_8 ∧ z_8 ≤ 2147483647); omega)⟩, at9 ht hP hD [0, 1, 2, 3, 4, 5, 6] (by decide +kernel) rfl⟩, hS.F ht⟩) hS.2.2 dX12_worked_383
        · refine lv_iconst (v := iI 0) hx hb dX12_worked_373 (by decide) ?_
          refine lv_goto (tgt := 383) hx hb dX12_worked_374 (by decide) ?_
          refine W.widen (k := 0) (n := 0) (Nat.le_of_ble_eq_true rfl) (Nat.le_of_ble_eq_true rfl) ?_
          exact W.iret (v := iI 0) hx hb hr (fun t ht hW => ⟨⟨iI 0, ((fun k => ([] : List Nat).getD k 0), (fun k => ([0] : List Int).getD k 0), (fun k => ([kg] : List (Nat → Int32)).getD k (fun _ => 0))), rfl, ⟨rfl, (by show ((-2147483648) ≤ 0 ∧ 0 ≤ 2147483647); show ((-2147483648) : Int) ≤ 0 ∧ (0 : Int) ≤ 2147483647; decide)⟩, at9 ht hP hD [0, 1, 2, 3, 4, 5, 6] (by decide +kernel) rfl⟩, hS.F ht⟩) hS.2.2 dX12_worked_383
      · refine lv_aload_n hx hb dX12_worked_19 rfl (lv_at hlv 2 rfl) ?_
        refine va_get (D := D) (ci := 12) (v := vR m23) (C := RX12) (T := TX12) (N := 38) hx hb hts hi12 hown hG.1 hP 0 rfl rfl 23 (by decide) lf50 (fun _ h9 => h9) rfl dX12_worked_20 ?_
        refine lv_iload_n hx hb dX12_worked_23 rfl (lv_at hlv 0 rfl) ?_
        refine va_iald hx hb hG.1 hP 1 0 rfl rfl (iI_in (by omega) (by decide)) dX12_worked_24 ?_
        refine lt_nz (i := qk) (by omega) (fun z_9 hz_9 lz_9 uz_9 => ?_)
        have hst_ := st_case (hdep qk.toNat (by omega) (by omega)) (z := z_9) (by rw [hz_9]; exact nz_e f23 qk.toNat) (by omega)
        refine lv_istore (lv' := [(4, vI z_9), (3, vI qk), (2, vI qn), (0, vR mm), (1, vI n)]) hx hb dX12_worked_25 hlv (by decide) rfl (fun ls hlv => ?_)
        refine lv_iload hx hb dX12_worked_27 (lv_at hlv 0 rfl) ?_
        refine lv_iconst (v := iI 1) hx hb dX12_worked_29 (by decide) ?_
        refine ir_gt (tgt := 70) hx hb dX12_worked_30 (by decide) (by omega) (by show ((-2147483648) : Int) ≤ 1 ∧ (1 : Int) ≤ 2147483647; decide) (fun c_10 => ?_) (fun c_10 => ?_)
        · refine lv_iload hx hb dX12_worked_70 (lv_at hlv 0 rfl) ?_
          refine lv_bipush (v := iI 9) hx hb dX12_worked_72 (by decide) ?_
          refine ir_ne (tgt := 98) hx hb dX12_worked_74 (by decide) (by omega) (by show ((-2147483648) : Int) ≤ 9 ∧ (9 : Int) ≤ 2147483647; decide) (fun c_11 => ?_) (fun c_11 => ?_)
          · refine lv_iload hx hb dX12_worked_98 (lv_at hlv 0 rfl) ?_
            refine lv_bipush (v := iI 12) hx hb dX12_worked_100 (by decide) ?_
            refine ir_ne (tgt := 148) hx hb dX12_worked_102 (by decide) (by omega) (by show ((-2147483648) : Int) ≤ 12 ∧ (12 : Int) ≤ 2147483647; decide) (fun c_12 => ?_) (fun c_12 => ?_)
            · obtain ⟨z_13, hz_13⟩ : ∃ z : Int, z = qn + (-1) := ⟨_, rfl⟩
              refine lv_iinc (v := iI z_13) (lv' := [(2, vI z_13), (4, vI z_9), (3, vI qk), (0, vR mm), (1, vI n)]) hx hb dX12_worked_148 hlv (k := 2) rfl (by rw [hz_13]; exact (Int32.ofInt_add _ _).symm) (by decide) rfl (fun ls hlv => ?_)
              refine lv_aload_n hx hb dX12_worked_151 rfl (lv_at hlv 3 rfl) ?_
              refine va_get (D := D) (ci := 12) (v := vR m27) (C := RX12) (T := TX12) (N := 38) hx hb hts hi12 hown hG.1 hP 0 rfl rfl 27 (by decide) lf62 (fun _ h9 => h9) rfl dX12_worked_152 ?_
              refine lv_iload_n hx hb dX12_worked_155 rfl (lv_at hlv 0 rfl) ?_
              refine lv_iconst (v := iI 1) hx hb dX12_worked_156 (by decide) ?_
              refine lv_isub hx hb dX12_worked_157 ?_
              refine lt_e (e0 := z_13 - 1) (Int32.ofInt_sub _ _).symm (fun z_14 hz_14 => ?_)
              refine va_iald hx hb hG.1 hP 5 0 rfl rfl (iI_in (by omega) (by decide)) dX12_worked_158 ?_
              refine lt_z (fun z_15 ez_15 lz_15 hz_15 => ?_)
              refine lv_istore (lv' := [(5, vI z_15), (2, vI z_13), (4, vI z_9), (3, vI qk), (0, vR mm), (1, vI n)]) hx hb dX12_worked_159 hlv (by decide) rfl (fun ls hlv => ?_)
              refine lv_aload_n hx hb dX12_worked_161 rfl (lv_at hlv 4 rfl) ?_
              refine va_get (D := D) (ci := 12) (v := vR m27) (C := RX12) (T := TX12) (N := 38) hx hb hts hi12 hown hG.1 hP 0 rfl rfl 27 (by decide) lf62 (fun _ h9 => h9) rfl dX12_worked_162 ?_
              refine lv_iload_n hx hb dX12_worked_165 rfl (lv_at hlv 1 rfl) ?_
              refine va_iald hx hb hG.1 hP 5 0 rfl rfl (iI_in (by omega) (by decide)) dX12_worked_166 ?_
              refine lt_z (fun z_16 ez_16 lz_16 hz_16 => ?_)
              refine lv_istore (lv' := [(6, vI z_16), (5, vI z_15), (2, vI z_13), (4, vI z_9), (3, vI qk), (0, vR mm), (1, vI n)]) hx hb dX12_worked_167 hlv (by decide) rfl (fun ls hlv => ?_)
              refine lv_iconst (v := iI 0) hx hb dX12_worked_169 (by decide) ?_
              refine lv_istore (lv' := [(7, vI 0), (6, vI z_16), (5, vI z_15), (2, vI z_13), (4, vI z_9), (3, vI qk), (0, vR mm), (1, vI n)]) hx hb dX12_worked_170 hlv (by decide) rfl (fun ls hlv => ?_)
              refine jn (α := Int) (fun a H locs g => ∃ ls : Array Slot, g = F0 m 353 ls [] ∧ ((-2147483648) ≤ (a) ∧ (a) ≤ 2147483647) ∧ va_P D vwCl [zO mm 12 [vI th, vR m1, vI tp, vI sz_, vI ap, vI bad, vI bk, vI opn, vI fp, vR m9, vR m10, vR m11, vR m12, vR m13, vR m14, vR m15, vI im, vI nr, vI nl, vR m19, vR m20, vR m21, vI sp_, vR m23, vR m24, vR m25, vR m26, vR m27, vR m28, vI wtc, vI wcl, vI ir, vI ip, vR m33, vI shu, vR m35, vI sfa, vI swr], zI m23 (cy 0) 2480 f23, zI m24 (cy 0) 2480 f24, zI m25 (cy 0) 20 f25, zI m26 (cy 0) 20 f26, zI m27 (cy 0) 620 kg, zI m28 (cy 0) 7 f28] H ∧ va_D A [zO mm 12 [vI th, vR m1, vI tp, vI sz_, vI ap, vI bad, vI bk, vI opn, vI fp, vR m9, vR m10, vR m11, vR m12, vR m13, vR m14, vR m15, vI im, vI nr, vI nl, vR m19, vR m20, vR m21, vI sp_, vR m23, vR m24, vR m25, vR m26, vR m27, vR m28, vI wtc, vI wcl, vI ir, vI ip, vR m33, vI shu, vR m35, vI sfa, vI swr], zI m23 (cy 0) 2480 f23, zI m24 (cy 0) 2480 f24, zI m25 (cy 0) 20 f25, zI m26 (cy 0) 20 f26, zI m27 (cy 0) 620 kg, zI m28 (cy 0) 7 f28] ∧ va_S A s.heap H locs ∧ lv_has ls 8 [(7, vI (a)), (6, vI z_16), (5, vI z_15), (2, vI z_13), (4, vI z_9), (3, vI qk), (0, vR mm), (1, vI n)]) (fun a H locs g hj => ?_) (fun jn353 => ?_)
              · obtain ⟨ls, rfl, hj353_0, hP, hD, hS, hlv⟩ := hj
                obtain ⟨qv7, rfl⟩ : ∃ z, z = a := ⟨_, rfl⟩
                have hj353_0 : ((-2147483648) ≤ qv7 ∧ qv7 ≤ 2147483647) := hj353_0
                have hP : va_P D vwCl [zO mm 12 [vI th, vR m1, vI tp, vI sz_, vI ap, vI bad, vI bk, vI opn, vI fp, vR m9, vR m10, vR m11, vR m12, vR m13, vR m14, vR m15, vI im, vI nr, vI nl, vR m19, vR m20, vR m21, vI sp_, vR m23, vR m24, vR m25, vR m26, vR m27, vR m28, vI wtc, vI wcl, vI ir, vI ip, vR m33, vI shu, vR m35, vI sfa, vI swr], zI m23 (cy 0) 2480 f23, zI m24 (cy 0) 2480 f24, zI m25 (cy 0) 20 f25, zI m26 (cy 0) 20 f26, zI m27 (cy 0) 620 kg, zI m28 (cy 0) 7 f28] H := hP
                have hD : va_D A [zO mm 12 [vI th, vR m1, vI tp, vI sz_, vI ap, vI bad, vI bk, vI opn, vI fp, vR m9, vR m10, vR m11, vR m12, vR m13, vR m14, vR m15, vI im, vI nr, vI nl, vR m19, vR m20, vR m21, vI sp_, vR m23, vR m24, vR m25, vR m26, vR m27, vR m28, vI wtc, vI wcl, vI ir, vI ip, vR m33, vI shu, vR m35, vI sfa, vI swr], zI m23 (cy 0) 2480 f23, zI m24 (cy 0) 2480 f24, zI m25 (cy 0) 20 f25, zI m26 (cy 0) 20 f26, zI m27 (cy 0) 620 kg, zI m28 (cy 0) 7 f28] := hD
                have hlv : lv_has ls 8 [(7, vI qv7), (6, vI z_16), (5, vI z_15), (2, vI z_13), (4, vI z_9), (3, vI qk), (0, vR mm), (1, vI n)] := hlv
                refine lv_aload_n hx hb dX12_worked_353 rfl (lv_at hlv 6 rfl) ?_
                refine va_get (D := D) (ci := 12) (v := vR m27) (C := RX12) (T := TX12) (N := 38) hx hb hts hi12 hown hG.1 hP 0 rfl rfl 27 (by decide) lf62 (fun _ h9 => h9) rfl dX12_worked_354 ?_
                refine lv_iload_n hx hb dX12_worked_357 rfl (lv_at hlv 3 rfl) ?_
                refine lv_iconst (v := iI 1) hx hb dX12_worked_358 (by decide) ?_
                refine lv_isub hx hb dX12_worked_359 ?_
                refine lt_e (e0 := z_13 - 1) (Int32.ofInt_sub _ _).symm (fun z_17 hz_17 => ?_)
                refine lv_iload hx hb dX12_worked_360 (lv_at hlv 0 rfl) ?_
                refine va_iast hx hb hG.1 hP hD hS 5 0 rfl rfl (iI_in (by omega) (by decide)) dX12_worked_362 (fun H locs hP hD hS => ?_)
                obtain ⟨f_18, hP, hD⟩ := pe9 (fun f_18 => [zO mm 12 [vI th, vR m1, vI tp, vI sz_, vI ap, vI bad, vI bk, vI opn, vI fp, vR m9, vR m10, vR m11, vR m12, vR m13, vR m14, vR m15, vI im, vI nr, vI nl, vR m19, vR m20, vR m21, vI sp_, vR m23, vR m24, vR m25, vR m26, vR m27, vR m28, vI wtc, vI wcl, vI ir, vI ip, vR m33, vI shu, vR m35, vI sfa, vI swr], zI m23 (cy 0) 2480 f23, zI m24 (cy 0) 2480 f24, zI m25 (cy 0) 20 f25, zI m26 (cy 0) 20 f26, zI m27 (cy 0) 620 f_18, zI m28 (cy 0) 7 f28]) _ hP hD
                obtain ⟨z_19, hz_19⟩ : ∃ z : Int, z = qk + 1 := ⟨_, rfl⟩
                refine lv_iinc (v := iI z_19) (lv' := [(3, vI z_19), (7, vI qv7), (6, vI z_16), (5, vI z_15), (2, vI z_13), (4, vI z_9), (0, vR mm), (1, vI n)]) hx hb dX12_worked_363 hlv (k := 5) rfl (by rw [hz_19]; exact (Int32.ofInt_add _ _).symm) (by decide) rfl (fun ls hlv => ?_)
                refine lv_goto (tgt := 9) hx hb dX12_worked_366 (by decide) ?_
                exact ih9 z_13 z_19 f_18 H locs ls (by omega) (by omega) (by omega) (by omega) (by omega) (by rw [show z_19.toNat = qk.toNat + 1 by omega]; omega) (by omega)  (hP.sub [0, 1, 2, 3, 4, 5, 6] rfl) (hD.sub [0, 1, 2, 3, 4, 5, 6] (by decide) rfl) hS (lv_sub hlv [0, 4, 6, 7] rfl)
              · refine lv_iload hx hb dX12_worked_172 (lv_at hlv 4 rfl) ?_
                by_cases k_20 : z_9 = 2
                · refine lt_i (y := iI 2) (by rw [k_20]) ?_
                  refine lv_tableIn (tgt := 224) hx hb dX12_worked_174 (by decide) (by decide) rfl (by decide) ?_
                  refine lv_iload hx hb dX12_worked_224 (lv_at hlv 2 rfl) ?_
                  refine lv_iload hx hb dX12_worked_226 (lv_at hlv 1 rfl) ?_
                  refine lv_iadd hx hb dX12_worked_228 ?_
                  refine lt_z (fun z_21 ez_21 lz_21 hz_21 => ?_)
                  refine lv_istore (lv' := [(7, vI z_21), (6, vI z_16), (5, vI z_15), (2, vI z_13), (4, vI z_9), (3, vI qk), (0, vR mm), (1, vI n)]) hx hb dX12_worked_229 hlv (by decide) rfl (fun ls hlv => ?_)
                  refine lv_goto (tgt := 353) hx hb dX12_worked_231 (by decide) ?_
                  exact jn353 z_21 _ _ _ ⟨_, rfl, (by show (-2147483648) ≤ z_21 ∧ z_21 ≤ 2147483647; omega), hP.sub [0, 1, 2, 3, 4, 5, 6] rfl, hD.sub [0, 1, 2, 3, 4, 5, 6] (by decide) rfl, hS, lv_sub hlv [0, 1, 2, 3, 4, 5, 6, 7] rfl⟩
                by_cases k_22 : z_9 = 3
                · refine lt_i (y := iI 3) (by rw [k_22]) ?_
                  refine lv_tableIn (tgt := 234) hx hb dX12_worked_174 (by decide) (by decide) rfl (by decide) ?_
                  refine lv_iload hx hb dX12_worked_234 (lv_at hlv 2 rfl) ?_
                  refine lv_iload hx hb dX12_worked_236 (lv_at hlv 1 rfl) ?_
                  refine lv_isub hx hb dX12_worked_238 ?_
                  refine lt_z (fun z_23 ez_23 lz_23 hz_23 => ?_)
                  refine lv_istore (lv' := [(7, vI z_23), (6, vI z_16), (5, vI z_15), (2, vI z_13), (4, vI z_9), (3, vI qk), (0, vR mm), (1, vI n)]) hx hb dX12_worked_239 hlv (by decide) rfl (fun ls hlv => ?_)
                  refine lv_goto (tgt := 353) hx hb dX12_worked_241 (by decide) ?_
                  exact jn353 z_23 _ _ _ ⟨_, rfl, (by show (-2147483648) ≤ z_23 ∧ z_23 ≤ 2147483647; omega), hP.sub [0, 1, 2, 3, 4, 5, 6] rfl, hD.sub [0, 1, 2, 3, 4, 5, 6] (by decide) rfl, hS, lv_sub hlv [0, 1, 2, 3, 4, 5, 6, 7] rfl⟩
                by_cases k_24 : z_9 = 4
                · refine lt_i (y := iI 4) (by rw [k_24]) ?_
                  refine lv_tableIn (tgt := 244) hx hb dX12_worked_174 (by decide) (by decide) rfl (by decide) ?_
                  refine lv_iload hx hb dX12_worked_244 (lv_at hlv 2 rfl) ?_
                  refine lv_iload hx hb dX12_worked_246 (lv_at hlv 1 rfl) ?_
                  refine lv_imul hx hb dX12_worked_248 ?_
                  refine lt_z (fun z_25 ez_25 lz_25 hz_25 => ?_)
                  refine lv_istore (lv' := [(7, vI z_25), (6, vI z_16), (5, vI z_15), (2, vI z_13), (4, vI z_9), (3, vI qk), (0, vR mm), (1, vI n)]) hx hb dX12_worked_249 hlv (by decide) rfl (fun ls hlv => ?_)
                  refine lv_goto (tgt := 353) hx hb dX12_worked_251 (by decide) ?_
                  exact jn353 z_25 _ _ _ ⟨_, rfl, (by show (-2147483648) ≤ z_25 ∧ z_25 ≤ 2147483647; omega), hP.sub [0, 1, 2, 3, 4, 5, 6] rfl, hD.sub [0, 1, 2, 3, 4, 5, 6] (by decide) rfl, hS, lv_sub hlv [0, 1, 2, 3, 4, 5, 6, 7] rfl⟩
                by_cases k_26 : z_9 = 5
                · refine lt_i (y := iI 5) (by rw [k_26]) ?_
                  refine lv_tableIn (tgt := 254) hx hb dX12_worked_174 (by decide) (by decide) rfl (by decide) ?_
                  refine lv_iload hx hb dX12_worked_254 (lv_at hlv 1 rfl) ?_
                  refine iz_ne (tgt := 263) hx hb dX12_worked_256 (by decide) (by omega) (fun c_27 => ?_) (fun c_27 => ?_)
                  · refine lv_iload hx hb dX12_worked_263 (lv_at hlv 1 rfl) ?_
                    refine lv_iconst (v := iI (-1)) hx hb dX12_worked_265 (by decide) ?_
                    refine ir_ne (tgt := 275) hx hb dX12_worked_266 (by decide) (by omega) (by show ((-2147483648) : Int) ≤ (-1) ∧ ((-1) : Int) ≤ 2147483647; decide) (fun c_28 => ?_) (fun c_28 => ?_)
                    · refine lv_iload hx hb dX12_worked_275 (lv_at hlv 2 rfl) ?_
                      refine lv_iload hx hb dX12_worked_277 (lv_at hlv 1 rfl) ?_
                      refine lv_idiv hx hb dX12_worked_279 (fun q => absurd ((iI_eq (a := z_16) (b := 0) (by omega) (by omega)).mp q) (by omega)) ?_
                      refine lt_z (fun z_29 ez_29 lz_29 hz_29 => ?_)
                      refine lv_istore (lv' := [(7, vI z_29), (6, vI z_16), (5, vI z_15), (2, vI z_13), (4, vI z_9), (3, vI qk), (0, vR mm), (1, vI n)]) hx hb dX12_worked_280 hlv (by decide) rfl (fun ls hlv => ?_)
                      refine lv_goto (tgt := 353) hx hb dX12_worked_282 (by decide) ?_
                      exact jn353 z_29 _ _ _ ⟨_, rfl, (by show (-2147483648) ≤ z_29 ∧ z_29 ≤ 2147483647; omega), hP.sub [0, 1, 2, 3, 4, 5, 6] rfl, hD.sub [0, 1, 2, 3, 4, 5, 6] (by decide) rfl, hS, lv_sub hlv [0, 1, 2, 3, 4, 5, 6, 7] rfl⟩
                    · refine lv_iload hx hb dX12_worked_269 (lv_at hlv 2 rfl) ?_
                      refine lv_ineg hx hb dX12_worked_271 ?_
                      refine lt_z (fun z_30 ez_30 lz_30 hz_30 => ?_)
                      refine lv_goto (tgt := 280) hx hb dX12_worked_272 (by decide) ?_
                      refine lv_istore (lv' := [(7, vI z_30), (6, vI z_16), (5, vI z_15), (2, vI z_13), (4, vI z_9), (3, vI qk), (0, vR mm), (1, vI n)]) hx hb dX12_worked_280 hlv (by decide) rfl (fun ls hlv => ?_)
                      refine lv_goto (tgt := 353) hx hb dX12_worked_282 (by decide) ?_
                      exact jn353 z_30 _ _ _ ⟨_, rfl, (by show (-2147483648) ≤ z_30 ∧ z_30 ≤ 2147483647; omega), hP.sub [0, 1, 2, 3, 4, 5, 6] rfl, hD.sub [0, 1, 2, 3, 4, 5, 6] (by decide) rfl, hS, lv_sub hlv [0, 1, 2, 3, 4, 5, 6, 7] rfl⟩
                  · refine lv_iconst (v := iI 0) hx hb dX12_worked_259 (by decide) ?_
                    refine lv_goto (tgt := 280) hx hb dX12_worked_260 (by decide) ?_
                    refine lv_istore (lv' := [(7, vI 0), (6, vI z_16), (5, vI z_15), (2, vI z_13), (4, vI z_9), (3, vI qk), (0, vR mm), (1, vI n)]) hx hb dX12_worked_280 hlv (by decide) rfl (fun ls hlv => ?_)
                    refine lv_goto (tgt := 353) hx hb dX12_worked_282 (by decide) ?_
                    exact jn353 0 _ _ _ ⟨_, rfl, (by show ((-2147483648) : Int) ≤ 0 ∧ (0 : Int) ≤ 2147483647; decide), hP.sub [0, 1, 2, 3, 4, 5, 6] rfl, hD.sub [0, 1, 2, 3, 4, 5, 6] (by decide) rfl, hS, lv_sub hlv [0, 1, 2, 3, 4, 5, 6, 7] rfl⟩
                by_cases k_31 : z_9 = 6
                · refine lt_i (y := iI 6) (by rw [k_31]) ?_
                  refine lv_tableIn (tgt := 285) hx hb dX12_worked_174 (by decide) (by decide) rfl (by decide) ?_
                  refine lv_iload hx hb dX12_worked_285 (lv_at hlv 2 rfl) ?_
                  refine lv_iload hx hb dX12_worked_287 (lv_at hlv 1 rfl) ?_
                  refine ir_ge (tgt := 296) hx hb dX12_worked_289 (by decide) (by omega) (by omega) (fun c_32 => ?_) (fun c_32 => ?_)
                  · refine lv_iconst (v := iI 0) hx hb dX12_worked_296 (by decide) ?_
                    refine lv_istore (lv' := [(7, vI 0), (6, vI z_16), (5, vI z_15), (2, vI z_13), (4, vI z_9), (3, vI qk), (0, vR mm), (1, vI n)]) hx hb dX12_worked_297 hlv (by decide) rfl (fun ls hlv => ?_)
                    refine lv_goto (tgt := 353) hx hb dX12_worked_299 (by decide) ?_
                    exact jn353 0 _ _ _ ⟨_, rfl, (by show ((-2147483648) : Int) ≤ 0 ∧ (0 : Int) ≤ 2147483647; decide), hP.sub [0, 1, 2, 3, 4, 5, 6] rfl, hD.sub [0, 1, 2, 3, 4, 5, 6] (by decide) rfl, hS, lv_sub hlv [0, 1, 2, 3, 4, 5, 6, 7] rfl⟩
                  · refine lv_iconst (v := iI 1) hx hb dX12_worked_292 (by decide) ?_
                    refine lv_goto (tgt := 297) hx hb dX12_worked_293 (by decide) ?_
                    refine lv_istore (lv' := [(7, vI 1), (6, vI z_16), (5, vI z_15), (2, vI z_13), (4, vI z_9), (3, vI qk), (0, vR mm), (1, vI n)]) hx hb dX12_worked_297 hlv (by decide) rfl (fun ls hlv => ?_)
                    refine lv_goto (tgt := 353) hx hb dX12_worked_299 (by decide) ?_
                    exact jn353 1 _ _ _ ⟨_, rfl, (by show ((-2147483648) : Int) ≤ 1 ∧ (1 : Int) ≤ 2147483647; decide), hP.sub [0, 1, 2, 3, 4, 5, 6] rfl, hD.sub [0, 1, 2, 3, 4, 5, 6] (by decide) rfl, hS, lv_sub hlv [0, 1, 2, 3, 4, 5, 6, 7] rfl⟩
                by_cases k_33 : z_9 = 7
                · refine lt_i (y := iI 7) (by rw [k_33]) ?_
                  refine lv_tableIn (tgt := 302) hx hb dX12_worked_174 (by decide) (by decide) rfl (by decide) ?_
                  refine lv_iload hx hb dX12_worked_302 (lv_at hlv 2 rfl) ?_
                  refine lv_iload hx hb dX12_worked_304 (lv_at hlv 1 rfl) ?_
                  refine ir_le (tgt := 313) hx hb dX12_worked_306 (by decide) (by omega) (by omega) (fun c_34 => ?_) (fun c_34 => ?_)
                  · refine lv_iconst (v := iI 0) hx hb dX12_worked_313 (by decide) ?_
                    refine lv_istore (lv' := [(7, vI 0), (6, vI z_16), (5, vI z_15), (2, vI z_13), (4, vI z_9), (3, vI qk), (0, vR mm), (1, vI n)]) hx hb dX12_worked_314 hlv (by decide) rfl (fun ls hlv => ?_)
                    refine lv_goto (tgt := 353) hx hb dX12_worked_316 (by decide) ?_
                    exact jn353 0 _ _ _ ⟨_, rfl, (by show ((-2147483648) : Int) ≤ 0 ∧ (0 : Int) ≤ 2147483647; decide), hP.sub [0, 1, 2, 3, 4, 5, 6] rfl, hD.sub [0, 1, 2, 3, 4, 5, 6] (by decide) rfl, hS, lv_sub hlv [0, 1, 2, 3, 4, 5, 6, 7] rfl⟩
                  · refine lv_iconst (v := iI 1) hx hb dX12_worked_309 (by decide) ?_
                    refine lv_goto (tgt := 314) hx hb dX12_worked_310 (by decide) ?_
                    refine lv_istore (lv' := [(7, vI 1), (6, vI z_16), (5, vI z_15), (2, vI z_13), (4, vI z_9), (3, vI qk), (0, vR mm), (1, vI n)]) hx hb dX12_worked_314 hlv (by decide) rfl (fun ls hlv => ?_)
                    refine lv_goto (tgt := 353) hx hb dX12_worked_316 (by decide) ?_
                    exact jn353 1 _ _ _ ⟨_, rfl, (by show ((-2147483648) : Int) ≤ 1 ∧ (1 : Int) ≤ 2147483647; decide), hP.sub [0, 1, 2, 3, 4, 5, 6] rfl, hD.sub [0, 1, 2, 3, 4, 5, 6] (by decide) rfl, hS, lv_sub hlv [0, 1, 2, 3, 4, 5, 6, 7] rfl⟩
                by_cases k_35 : z_9 = 8
                · refine lt_i (y := iI 8) (by rw [k_35]) ?_
                  refine lv_tableIn (tgt := 319) hx hb dX12_worked_174 (by decide) (by decide) rfl (by decide) ?_
                  refine lv_iload hx hb dX12_worked_319 (lv_at hlv 2 rfl) ?_
                  refine lv_iload hx hb dX12_worked_321 (lv_at hlv 1 rfl) ?_
                  refine ir_ne (tgt := 330) hx hb dX12_worked_323 (by decide) (by omega) (by omega) (fun c_36 => ?_) (fun c_36 => ?_)
                  · refine lv_iconst (v := iI 0) hx hb dX12_worked_330 (by decide) ?_
                    refine lv_istore (lv' := [(7, vI 0), (6, vI z_16), (5, vI z_15), (2, vI z_13), (4, vI z_9), (3, vI qk), (0, vR mm), (1, vI n)]) hx hb dX12_worked_331 hlv (by decide) rfl (fun ls hlv => ?_)
                    refine lv_goto (tgt := 353) hx hb dX12_worked_333 (by decide) ?_
                    exact jn353 0 _ _ _ ⟨_, rfl, (by show ((-2147483648) : Int) ≤ 0 ∧ (0 : Int) ≤ 2147483647; decide), hP.sub [0, 1, 2, 3, 4, 5, 6] rfl, hD.sub [0, 1, 2, 3, 4, 5, 6] (by decide) rfl, hS, lv_sub hlv [0, 1, 2, 3, 4, 5, 6, 7] rfl⟩
                  · refine lv_iconst (v := iI 1) hx hb dX12_worked_326 (by decide) ?_
                    refine lv_goto (tgt := 331) hx hb dX12_worked_327 (by decide) ?_
                    refine lv_istore (lv' := [(7, vI 1), (6, vI z_16), (5, vI z_15), (2, vI z_13), (4, vI z_9), (3, vI qk), (0, vR mm), (1, vI n)]) hx hb dX12_worked_331 hlv (by decide) rfl (fun ls hlv => ?_)
                    refine lv_goto (tgt := 353) hx hb dX12_worked_333 (by decide) ?_
                    exact jn353 1 _ _ _ ⟨_, rfl, (by show ((-2147483648) : Int) ≤ 1 ∧ (1 : Int) ≤ 2147483647; decide), hP.sub [0, 1, 2, 3, 4, 5, 6] rfl, hD.sub [0, 1, 2, 3, 4, 5, 6] (by decide) rfl, hS, lv_sub hlv [0, 1, 2, 3, 4, 5, 6, 7] rfl⟩
                by_cases k_37 : z_9 = 9
                · refine lt_i (y := iI 9) (by rw [k_37]) ?_
                  refine lv_tableIn (tgt := 346) hx hb dX12_worked_174 (by decide) (by decide) rfl (by decide) ?_
                  refine lv_iload hx hb dX12_worked_346 (lv_at hlv 2 rfl) ?_
                  refine lv_iload hx hb dX12_worked_348 (lv_at hlv 1 rfl) ?_
                  refine lv_ior hx hb dX12_worked_350 ?_
                  refine lt_z (fun z_38 ez_38 lz_38 hz_38 => ?_)
                  refine lv_istore (lv' := [(7, vI z_38), (6, vI z_16), (5, vI z_15), (2, vI z_13), (4, vI z_9), (3, vI qk), (0, vR mm), (1, vI n)]) hx hb dX12_worked_351 hlv (by decide) rfl (fun ls hlv => ?_)
                  exact jn353 z_38 _ _ _ ⟨_, rfl, (by show (-2147483648) ≤ z_38 ∧ z_38 ≤ 2147483647; omega), hP.sub [0, 1, 2, 3, 4, 5, 6] rfl, hD.sub [0, 1, 2, 3, 4, 5, 6] (by decide) rfl, hS, lv_sub hlv [0, 1, 2, 3, 4, 5, 6, 7] rfl⟩
                by_cases k_39 : z_9 = 10
                · refine lt_i (y := iI 10) (by rw [k_39]) ?_
                  refine lv_tableIn (tgt := 336) hx hb dX12_worked_174 (by decide) (by decide) rfl (by decide) ?_
                  refine lv_iload hx hb dX12_worked_336 (lv_at hlv 2 rfl) ?_
                  refine lv_iload hx hb dX12_worked_338 (lv_at hlv 1 rfl) ?_
                  refine lv_iand hx hb dX12_worked_340 ?_
                  refine lt_z (fun z_40 ez_40 lz_40 hz_40 => ?_)
                  refine lv_istore (lv' := [(7, vI z_40), (6, vI z_16), (5, vI z_15), (2, vI z_13), (4, vI z_9), (3, vI qk), (0, vR mm), (1, vI n)]) hx hb dX12_worked_341 hlv (by decide) rfl (fun ls hlv => ?_)
                  refine lv_goto (tgt := 353) hx hb dX12_worked_343 (by decide) ?_
                  exact jn353 z_40 _ _ _ ⟨_, rfl, (by show (-2147483648) ≤ z_40 ∧ z_40 ≤ 2147483647; omega), hP.sub [0, 1, 2, 3, 4, 5, 6] rfl, hD.sub [0, 1, 2, 3, 4, 5, 6] (by decide) rfl, hS, lv_sub hlv [0, 1, 2, 3, 4, 5, 6, 7] rfl⟩
                refine lv_tableOut (tgt := 346) hx hb dX12_worked_174 (by rw [iI_to (by omega) (by omega)]; omega) (by decide) ?_
                refine lv_iload hx hb dX12_worked_346 (lv_at hlv 2 rfl) ?_
                refine lv_iload hx hb dX12_worked_348 (lv_at hlv 1 rfl) ?_
                refine lv_ior hx hb dX12_worked_350 ?_
                refine lt_z (fun z_41 ez_41 lz_41 hz_41 => ?_)
                refine lv_istore (lv' := [(7, vI z_41), (6, vI z_16), (5, vI z_15), (2, vI z_13), (4, vI z_9), (3, vI qk), (0, vR mm), (1, vI n)]) hx hb dX12_worked_351 hlv (by decide) rfl (fun ls hlv => ?_)
                exact jn353 z_41 _ _ _ ⟨_, rfl, (by show (-2147483648) ≤ z_41 ∧ z_41 ≤ 2147483647; omega), hP.sub [0, 1, 2, 3, 4, 5, 6] rfl, hD.sub [0, 1, 2, 3, 4, 5, 6] (by decide) rfl, hS, lv_sub hlv [0, 1, 2, 3, 4, 5, 6, 7] rfl⟩
            · obtain ⟨z_42, hz_42⟩ : ∃ z : Int, z = qn + (-2) := ⟨_, rfl⟩
              refine lv_iinc (v := iI z_42) (lv' := [(2, vI z_42), (4, vI z_9), (3, vI qk), (0, vR mm), (1, vI n)]) hx hb dX12_worked_105 hlv (k := 2) rfl (by rw [hz_42]; exact (Int32.ofInt_add _ _).symm) (by decide) rfl (fun ls hlv => ?_)
              refine lv_aload_n hx hb dX12_worked_108 rfl (lv_at hlv 3 rfl) ?_
              refine va_get (D := D) (ci := 12) (v := vR m27) (C := RX12) (T := TX12) (N := 38) hx hb hts hi12 hown hG.1 hP 0 rfl rfl 27 (by decide) lf62 (fun _ h9 => h9) rfl dX12_worked_109 ?_
              refine lv_iload_n hx hb dX12_worked_112 rfl (lv_at hlv 0 rfl) ?_
              refine lv_iconst (v := iI 1) hx hb dX12_worked_113 (by decide) ?_
              refine lv_isub hx hb dX12_worked_114 ?_
              refine lt_e (e0 := z_42 - 1) (Int32.ofInt_sub _ _).symm (fun z_43 hz_43 => ?_)
              refine lv_aload_n hx hb dX12_worked_115 rfl (lv_at hlv 3 rfl) ?_
              refine va_get (D := D) (ci := 12) (v := vR m27) (C := RX12) (T := TX12) (N := 38) hx hb hts hi12 hown hG.1 hP 0 rfl rfl 27 (by decide) lf62 (fun _ h9 => h9) rfl dX12_worked_116 ?_
              refine lv_iload_n hx hb dX12_worked_119 rfl (lv_at hlv 0 rfl) ?_
              refine lv_iconst (v := iI 1) hx hb dX12_worked_120 (by decide) ?_
              refine lv_isub hx hb dX12_worked_121 ?_
              refine lt_e (e0 := z_42 - 1) (Int32.ofInt_sub _ _).symm (fun z_44 hz_44 => ?_)
              refine va_iald hx hb hG.1 hP 5 0 rfl rfl (iI_in (by omega) (by decide)) dX12_worked_122 ?_
              refine lt_z (fun z_45 ez_45 lz_45 hz_45 => ?_)
              refine lv_iconst (v := iI 1) hx hb dX12_worked_123 (by decide) ?_
              refine ir_ne (tgt := 136) hx hb dX12_worked_124 (by decide) (by omega) (by show ((-2147483648) : Int) ≤ 1 ∧ (1 : Int) ≤ 2147483647; decide) (fun c_46 => ?_) (fun c_46 => ?_)
              · refine lv_aload_n hx hb dX12_worked_136 rfl (lv_at hlv 3 rfl) ?_
                refine va_get (D := D) (ci := 12) (v := vR m27) (C := RX12) (T := TX12) (N := 38) hx hb hts hi12 hown hG.1 hP 0 rfl rfl 27 (by decide) lf62 (fun _ h9 => h9) rfl dX12_worked_137 ?_
                refine lv_iload_n hx hb dX12_worked_140 rfl (lv_at hlv 0 rfl) ?_
                refine lv_iconst (v := iI 1) hx hb dX12_worked_141 (by decide) ?_
                refine lv_iadd hx hb dX12_worked_142 ?_
                refine lt_e (e0 := z_42 + 1) (Int32.ofInt_add _ _).symm (fun z_47 hz_47 => ?_)
                refine va_iald hx hb hG.1 hP 5 0 rfl rfl (iI_in (by omega) (by decide)) dX12_worked_143 ?_
                refine lt_z (fun z_48 ez_48 lz_48 hz_48 => ?_)
                refine va_iast hx hb hG.1 hP hD hS 5 0 rfl rfl (iI_in (by omega) (by decide)) dX12_worked_144 (fun H locs hP hD hS => ?_)
                obtain ⟨f_49, hP, hD⟩ := pe9 (fun f_49 => [zO mm 12 [vI th, vR m1, vI tp, vI sz_, vI ap, vI bad, vI bk, vI opn, vI fp, vR m9, vR m10, vR m11, vR m12, vR m13, vR m14, vR m15, vI im, vI nr, vI nl, vR m19, vR m20, vR m21, vI sp_, vR m23, vR m24, vR m25, vR m26, vR m27, vR m28, vI wtc, vI wcl, vI ir, vI ip, vR m33, vI shu, vR m35, vI sfa, vI swr], zI m23 (cy 0) 2480 f23, zI m24 (cy 0) 2480 f24, zI m25 (cy 0) 20 f25, zI m26 (cy 0) 20 f26, zI m27 (cy 0) 620 f_49, zI m28 (cy 0) 7 f28]) _ hP hD
                refine lv_goto (tgt := 363) hx hb dX12_worked_145 (by decide) ?_
                obtain ⟨z_50, hz_50⟩ : ∃ z : Int, z = qk + 1 := ⟨_, rfl⟩
                refine lv_iinc (v := iI z_50) (lv' := [(3, vI z_50), (2, vI z_42), (4, vI z_9), (0, vR mm), (1, vI n)]) hx hb dX12_worked_363 hlv (k := 2) rfl (by rw [hz_50]; exact (Int32.ofInt_add _ _).symm) (by decide) rfl (fun ls hlv => ?_)
                refine lv_goto (tgt := 9) hx hb dX12_worked_366 (by decide) ?_
                exact ih9 z_42 z_50 f_49 H locs ls (by omega) (by omega) (by omega) (by omega) (by omega) (by rw [show z_50.toNat = qk.toNat + 1 by omega]; omega) (by omega)  (hP.sub [0, 1, 2, 3, 4, 5, 6] rfl) (hD.sub [0, 1, 2, 3, 4, 5, 6] (by decide) rfl) hS (lv_sub hlv [0, 1, 3, 4] rfl)
              · refine lv_aload_n hx hb dX12_worked_127 rfl (lv_at hlv 3 rfl) ?_
                refine va_get (D := D) (ci := 12) (v := vR m27) (C := RX12) (T := TX12) (N := 38) hx hb hts hi12 hown hG.1 hP 0 rfl rfl 27 (by decide) lf62 (fun _ h9 => h9) rfl dX12_worked_128 ?_
                refine lv_iload_n hx hb dX12_worked_131 rfl (lv_at hlv 0 rfl) ?_
                refine va_iald hx hb hG.1 hP 5 0 rfl rfl (iI_in (by omega) (by decide)) dX12_worked_132 ?_
                refine lt_z (fun z_51 ez_51 lz_51 hz_51 => ?_)
                refine lv_goto (tgt := 144) hx hb dX12_worked_133 (by decide) ?_
                refine va_iast hx hb hG.1 hP hD hS 5 0 rfl rfl (iI_in (by omega) (by decide)) dX12_worked_144 (fun H locs hP hD hS => ?_)
                obtain ⟨f_52, hP, hD⟩ := pe9 (fun f_52 => [zO mm 12 [vI th, vR m1, vI tp, vI sz_, vI ap, vI bad, vI bk, vI opn, vI fp, vR m9, vR m10, vR m11, vR m12, vR m13, vR m14, vR m15, vI im, vI nr, vI nl, vR m19, vR m20, vR m21, vI sp_, vR m23, vR m24, vR m25, vR m26, vR m27, vR m28, vI wtc, vI wcl, vI ir, vI ip, vR m33, vI shu, vR m35, vI sfa, vI swr], zI m23 (cy 0) 2480 f23, zI m24 (cy 0) 2480 f24, zI m25 (cy 0) 20 f25, zI m26 (cy 0) 20 f26, zI m27 (cy 0) 620 f_52, zI m28 (cy 0) 7 f28]) _ hP hD
                refine lv_goto (tgt := 363) hx hb dX12_worked_145 (by decide) ?_
                obtain ⟨z_53, hz_53⟩ : ∃ z : Int, z = qk + 1 := ⟨_, rfl⟩
                refine lv_iinc (v := iI z_53) (lv' := [(3, vI z_53), (2, vI z_42), (4, vI z_9), (0, vR mm), (1, vI n)]) hx hb dX12_worked_363 hlv (k := 2) rfl (by rw [hz_53]; exact (Int32.ofInt_add _ _).symm) (by decide) rfl (fun ls hlv => ?_)
                refine lv_goto (tgt := 9) hx hb dX12_worked_366 (by decide) ?_
                exact ih9 z_42 z_53 f_52 H locs ls (by omega) (by omega) (by omega) (by omega) (by omega) (by rw [show z_53.toNat = qk.toNat + 1 by omega]; omega) (by omega)  (hP.sub [0, 1, 2, 3, 4, 5, 6] rfl) (hD.sub [0, 1, 2, 3, 4, 5, 6] (by decide) rfl) hS (lv_sub hlv [0, 1, 3, 4] rfl)
          · refine lv_aload_n hx hb dX12_worked_77 rfl (lv_at hlv 3 rfl) ?_
            refine va_get (D := D) (ci := 12) (v := vR m27) (C := RX12) (T := TX12) (N := 38) hx hb hts hi12 hown hG.1 hP 0 rfl rfl 27 (by decide) lf62 (fun _ h9 => h9) rfl dX12_worked_78 ?_
            refine lv_iload_n hx hb dX12_worked_81 rfl (lv_at hlv 2 rfl) ?_
            refine lv_iconst (v := iI 1) hx hb dX12_worked_82 (by decide) ?_
            refine lv_isub hx hb dX12_worked_83 ?_
            refine lt_e (e0 := qn - 1) (Int32.ofInt_sub _ _).symm (fun z_54 hz_54 => ?_)
            refine lv_iconst (v := iI 1) hx hb dX12_worked_84 (by decide) ?_
            refine lv_aload_n hx hb dX12_worked_85 rfl (lv_at hlv 3 rfl) ?_
            refine va_get (D := D) (ci := 12) (v := vR m27) (C := RX12) (T := TX12) (N := 38) hx hb hts hi12 hown hG.1 hP 0 rfl rfl 27 (by decide) lf62 (fun _ h9 => h9) rfl dX12_worked_86 ?_
            refine lv_iload_n hx hb dX12_worked_89 rfl (lv_at hlv 2 rfl) ?_
            refine lv_iconst (v := iI 1) hx hb dX12_worked_90 (by decide) ?_
            refine lv_isub hx hb dX12_worked_91 ?_
            refine lt_e (e0 := qn - 1) (Int32.ofInt_sub _ _).symm (fun z_55 hz_55 => ?_)
            refine va_iald hx hb hG.1 hP 5 0 rfl rfl (iI_in (by omega) (by decide)) dX12_worked_92 ?_
            refine lt_z (fun z_56 ez_56 lz_56 hz_56 => ?_)
            refine lv_isub hx hb dX12_worked_93 ?_
            refine lt_z (fun z_57 ez_57 lz_57 hz_57 => ?_)
            refine va_iast hx hb hG.1 hP hD hS 5 0 rfl rfl (iI_in (by omega) (by decide)) dX12_worked_94 (fun H locs hP hD hS => ?_)
            obtain ⟨f_58, hP, hD⟩ := pe9 (fun f_58 => [zO mm 12 [vI th, vR m1, vI tp, vI sz_, vI ap, vI bad, vI bk, vI opn, vI fp, vR m9, vR m10, vR m11, vR m12, vR m13, vR m14, vR m15, vI im, vI nr, vI nl, vR m19, vR m20, vR m21, vI sp_, vR m23, vR m24, vR m25, vR m26, vR m27, vR m28, vI wtc, vI wcl, vI ir, vI ip, vR m33, vI shu, vR m35, vI sfa, vI swr], zI m23 (cy 0) 2480 f23, zI m24 (cy 0) 2480 f24, zI m25 (cy 0) 20 f25, zI m26 (cy 0) 20 f26, zI m27 (cy 0) 620 f_58, zI m28 (cy 0) 7 f28]) _ hP hD
            refine lv_goto (tgt := 363) hx hb dX12_worked_95 (by decide) ?_
            obtain ⟨z_59, hz_59⟩ : ∃ z : Int, z = qk + 1 := ⟨_, rfl⟩
            refine lv_iinc (v := iI z_59) (lv' := [(3, vI z_59), (4, vI z_9), (2, vI qn), (0, vR mm), (1, vI n)]) hx hb dX12_worked_363 hlv (k := 1) rfl (by rw [hz_59]; exact (Int32.ofInt_add _ _).symm) (by decide) rfl (fun ls hlv => ?_)
            refine lv_goto (tgt := 9) hx hb dX12_worked_366 (by decide) ?_
            exact ih9 qn z_59 f_58 H locs ls (by omega) (by first | exact hl9_0 | omega) (by omega) (by omega) (by omega) (by rw [show z_59.toNat = qk.toNat + 1 by omega]; omega) (by omega)  (hP.sub [0, 1, 2, 3, 4, 5, 6] rfl) (hD.sub [0, 1, 2, 3, 4, 5, 6] (by decide) rfl) hS (lv_sub hlv [0, 2, 3, 4] rfl)
        · refine lv_aload_n hx hb dX12_worked_33 rfl (lv_at hlv 3 rfl) ?_
          refine va_get (D := D) (ci := 12) (v := vR m27) (C := RX12) (T := TX12) (N := 38) hx hb hts hi12 hown hG.1 hP 0 rfl rfl 27 (by decide) lf62 (fun _ h9 => h9) rfl dX12_worked_34 ?_
          refine lv_iload_n hx hb dX12_worked_37 rfl (lv_at hlv 2 rfl) ?_
          refine lv_iload hx hb dX12_worked_38 (lv_at hlv 0 rfl) ?_
          refine iz_ne (tgt := 52) hx hb dX12_worked_40 (by decide) (by omega) (fun c_60 => ?_) (fun c_60 => ?_)
          · refine lv_aload_n hx hb dX12_worked_52 rfl (lv_at hlv 3 rfl) ?_
            refine va_get (D := D) (ci := 12) (v := vR m28) (C := RX12) (T := TX12) (N := 38) hx hb hts hi12 hown hG.1 hP 0 rfl rfl 28 (by decide) lf65 (fun _ h9 => h9) rfl dX12_worked_53 ?_
            refine lv_aload_n hx hb dX12_worked_56 rfl (lv_at hlv 3 rfl) ?_
            refine va_get (D := D) (ci := 12) (v := vR m24) (C := RX12) (T := TX12) (N := 38) hx hb hts hi12 hown hG.1 hP 0 rfl rfl 24 (by decide) lf53 (fun _ h9 => h9) rfl dX12_worked_57 ?_
            refine lv_iload_n hx hb dX12_worked_60 rfl (lv_at hlv 1 rfl) ?_
            refine va_iald hx hb hG.1 hP 2 0 rfl rfl (iI_in (by omega) (by decide)) dX12_worked_61 ?_
            refine lt_nz (i := qk) (by omega) (fun z_61 hz_61 lz_61 uz_61 => ?_)
            have hnm_ := st_name (hdep qk.toNat (by omega) (by omega)) (by rw [nz_e f23 qk.toNat, show nz f23 qk.toNat = 1 by omega]) (z := z_61) (by rw [hz_61]; exact nz_e f24 qk.toNat) (by omega)
            refine va_iald hx hb hG.1 hP 6 0 rfl rfl (iI_in (by omega) (by decide)) dX12_worked_62 ?_
            refine lt_z (fun z_62 ez_62 lz_62 hz_62 => ?_)
            refine va_iast hx hb hG.1 hP hD hS 5 0 rfl rfl (iI_in (by omega) (by decide)) dX12_worked_63 (fun H locs hP hD hS => ?_)
            obtain ⟨f_63, hP, hD⟩ := pe9 (fun f_63 => [zO mm 12 [vI th, vR m1, vI tp, vI sz_, vI ap, vI bad, vI bk, vI opn, vI fp, vR m9, vR m10, vR m11, vR m12, vR m13, vR m14, vR m15, vI im, vI nr, vI nl, vR m19, vR m20, vR m21, vI sp_, vR m23, vR m24, vR m25, vR m26, vR m27, vR m28, vI wtc, vI wcl, vI ir, vI ip, vR m33, vI shu, vR m35, vI sfa, vI swr], zI m23 (cy 0) 2480 f23, zI m24 (cy 0) 2480 f24, zI m25 (cy 0) 20 f25, zI m26 (cy 0) 20 f26, zI m27 (cy 0) 620 f_63, zI m28 (cy 0) 7 f28]) _ hP hD
            obtain ⟨z_64, hz_64⟩ : ∃ z : Int, z = qn + 1 := ⟨_, rfl⟩
            refine lv_iinc (v := iI z_64) (lv' := [(2, vI z_64), (4, vI z_9), (3, vI qk), (0, vR mm), (1, vI n)]) hx hb dX12_worked_64 hlv (k := 2) rfl (by rw [hz_64]; exact (Int32.ofInt_add _ _).symm) (by decide) rfl (fun ls hlv => ?_)
            refine lv_goto (tgt := 363) hx hb dX12_worked_67 (by decide) ?_
            obtain ⟨z_65, hz_65⟩ : ∃ z : Int, z = qk + 1 := ⟨_, rfl⟩
            refine lv_iinc (v := iI z_65) (lv' := [(3, vI z_65), (2, vI z_64), (4, vI z_9), (0, vR mm), (1, vI n)]) hx hb dX12_worked_363 hlv (k := 2) rfl (by rw [hz_65]; exact (Int32.ofInt_add _ _).symm) (by decide) rfl (fun ls hlv => ?_)
            refine lv_goto (tgt := 9) hx hb dX12_worked_366 (by decide) ?_
            exact ih9 z_64 z_65 f_63 H locs ls (by omega) (by omega) (by omega) (by omega) (by omega) (by rw [show z_65.toNat = qk.toNat + 1 by omega]; omega) (by omega)  (hP.sub [0, 1, 2, 3, 4, 5, 6] rfl) (hD.sub [0, 1, 2, 3, 4, 5, 6] (by decide) rfl) hS (lv_sub hlv [0, 1, 3, 4] rfl)
          · refine lv_aload_n hx hb dX12_worked_43 rfl (lv_at hlv 3 rfl) ?_
            refine va_get (D := D) (ci := 12) (v := vR m24) (C := RX12) (T := TX12) (N := 38) hx hb hts hi12 hown hG.1 hP 0 rfl rfl 24 (by decide) lf53 (fun _ h9 => h9) rfl dX12_worked_44 ?_
            refine lv_iload_n hx hb dX12_worked_47 rfl (lv_at hlv 1 rfl) ?_
            refine va_iald hx hb hG.1 hP 2 0 rfl rfl (iI_in (by omega) (by decide)) dX12_worked_48 ?_
            refine lt_nz (i := qk) (by omega) (fun z_66 hz_66 lz_66 uz_66 => ?_)
            refine lv_goto (tgt := 63) hx hb dX12_worked_49 (by decide) ?_
            refine va_iast hx hb hG.1 hP hD hS 5 0 rfl rfl (iI_in (by omega) (by decide)) dX12_worked_63 (fun H locs hP hD hS => ?_)
            obtain ⟨f_67, hP, hD⟩ := pe9 (fun f_67 => [zO mm 12 [vI th, vR m1, vI tp, vI sz_, vI ap, vI bad, vI bk, vI opn, vI fp, vR m9, vR m10, vR m11, vR m12, vR m13, vR m14, vR m15, vI im, vI nr, vI nl, vR m19, vR m20, vR m21, vI sp_, vR m23, vR m24, vR m25, vR m26, vR m27, vR m28, vI wtc, vI wcl, vI ir, vI ip, vR m33, vI shu, vR m35, vI sfa, vI swr], zI m23 (cy 0) 2480 f23, zI m24 (cy 0) 2480 f24, zI m25 (cy 0) 20 f25, zI m26 (cy 0) 20 f26, zI m27 (cy 0) 620 f_67, zI m28 (cy 0) 7 f28]) _ hP hD
            obtain ⟨z_68, hz_68⟩ : ∃ z : Int, z = qn + 1 := ⟨_, rfl⟩
            refine lv_iinc (v := iI z_68) (lv' := [(2, vI z_68), (4, vI z_9), (3, vI qk), (0, vR mm), (1, vI n)]) hx hb dX12_worked_64 hlv (k := 2) rfl (by rw [hz_68]; exact (Int32.ofInt_add _ _).symm) (by decide) rfl (fun ls hlv => ?_)
            refine lv_goto (tgt := 363) hx hb dX12_worked_67 (by decide) ?_
            obtain ⟨z_69, hz_69⟩ : ∃ z : Int, z = qk + 1 := ⟨_, rfl⟩
            refine lv_iinc (v := iI z_69) (lv' := [(3, vI z_69), (2, vI z_68), (4, vI z_9), (0, vR mm), (1, vI n)]) hx hb dX12_worked_363 hlv (k := 2) rfl (by rw [hz_69]; exact (Int32.ofInt_add _ _).symm) (by decide) rfl (fun ls hlv => ?_)
            refine lv_goto (tgt := 9) hx hb dX12_worked_366 (by decide) ?_
            exact ih9 z_68 z_69 f_67 H locs ls (by omega) (by omega) (by omega) (by omega) (by omega) (by rw [show z_69.toNat = qk.toNat + 1 by omega]; omega) (by omega)  (hP.sub [0, 1, 2, 3, 4, 5, 6] rfl) (hD.sub [0, 1, 2, 3, 4, 5, 6] (by decide) rfl) hS (lv_sub hlv [0, 1, 3, 4] rfl)
end
section
theorem dX12_drives_0 : decode cX12_drives 0 = .ok (.aload_n 0, 1) := by decide +kernel
theorem dX12_drives_1 : decode cX12_drives 1 = .ok (.iload 6, 2) := by decide +kernel
theorem dX12_drives_100 : decode cX12_drives 100 = .ok (.invokevirtual 347, 3) := by decide +kernel
theorem dX12_drives_103 : decode cX12_drives 103 = .ok (.invokevirtual 337, 3) := by decide +kernel
theorem dX12_drives_106 : decode cX12_drives 106 = .ok (.aload_n 0, 1) := by decide +kernel
theorem dX12_drives_107 : decode cX12_drives 107 = .ok (.aload_n 0, 1) := by decide +kernel
theorem dX12_drives_108 : decode cX12_drives 108 = .ok (.iconst 5, 1) := by decide +kernel
theorem dX12_drives_109 : decode cX12_drives 109 = .ok (.iload_n 1, 1) := by decide +kernel
theorem dX12_drives_11 : decode cX12_drives 11 = .ok (.iload_n 3, 1) := by decide +kernel
theorem dX12_drives_110 : decode cX12_drives 110 = .ok (.imul, 1) := by decide +kernel
theorem dX12_drives_111 : decode cX12_drives 111 = .ok (.iconst 3, 1) := by decide +kernel
theorem dX12_drives_112 : decode cX12_drives 112 = .ok (.iadd, 1) := by decide +kernel
theorem dX12_drives_113 : decode cX12_drives 113 = .ok (.invokevirtual 341, 3) := by decide +kernel
theorem dX12_drives_116 : decode cX12_drives 116 = .ok (.iconst 1, 1) := by decide +kernel
theorem dX12_drives_117 : decode cX12_drives 117 = .ok (.iload 4, 2) := by decide +kernel
theorem dX12_drives_119 : decode cX12_drives 119 = .ok (.invokestatic 356, 3) := by decide +kernel
theorem dX12_drives_12 : decode cX12_drives 12 = .ok (.putfield 344, 3) := by decide +kernel
theorem dX12_drives_122 : decode cX12_drives 122 = .ok (.putfield 353, 3) := by decide +kernel
theorem dX12_drives_125 : decode cX12_drives 125 = .ok (.return_, 1) := by decide +kernel
theorem dX12_drives_15 : decode cX12_drives 15 = .ok (.iload 6, 2) := by decide +kernel
theorem dX12_drives_17 : decode cX12_drives 17 = .ok (.iconst 2, 1) := by decide +kernel
theorem dX12_drives_18 : decode cX12_drives 18 = .ok (.if_icmp .ne 48, 3) := by decide +kernel
theorem dX12_drives_21 : decode cX12_drives 21 = .ok (.aload_n 0, 1) := by decide +kernel
theorem dX12_drives_22 : decode cX12_drives 22 = .ok (.aload_n 0, 1) := by decide +kernel
theorem dX12_drives_23 : decode cX12_drives 23 = .ok (.getfield 29, 3) := by decide +kernel
theorem dX12_drives_26 : decode cX12_drives 26 = .ok (.bipush 96, 2) := by decide +kernel
theorem dX12_drives_28 : decode cX12_drives 28 = .ok (.iload_n 2, 1) := by decide +kernel
theorem dX12_drives_29 : decode cX12_drives 29 = .ok (.iload_n 3, 1) := by decide +kernel
theorem dX12_drives_3 : decode cX12_drives 3 = .ok (.iconst 3, 1) := by decide +kernel
theorem dX12_drives_30 : decode cX12_drives 30 = .ok (.invokestatic 289, 3) := by decide +kernel
theorem dX12_drives_33 : decode cX12_drives 33 = .ok (.iadd, 1) := by decide +kernel
theorem dX12_drives_34 : decode cX12_drives 34 = .ok (.iaload, 1) := by decide +kernel
theorem dX12_drives_35 : decode cX12_drives 35 = .ok (.iload 4, 2) := by decide +kernel
theorem dX12_drives_37 : decode cX12_drives 37 = .ok (.iload 5, 2) := by decide +kernel
theorem dX12_drives_39 : decode cX12_drives 39 = .ok (.iload_n 3, 1) := by decide +kernel
theorem dX12_drives_4 : decode cX12_drives 4 = .ok (.if_icmp .ne 7, 3) := by decide +kernel
theorem dX12_drives_40 : decode cX12_drives 40 = .ok (.aload_n 0, 1) := by decide +kernel
theorem dX12_drives_41 : decode cX12_drives 41 = .ok (.iload_n 2, 1) := by decide +kernel
theorem dX12_drives_42 : decode cX12_drives 42 = .ok (.invokevirtual 347, 3) := by decide +kernel
theorem dX12_drives_45 : decode cX12_drives 45 = .ok (.invokevirtual 337, 3) := by decide +kernel
theorem dX12_drives_48 : decode cX12_drives 48 = .ok (.aload_n 0, 1) := by decide +kernel
theorem dX12_drives_49 : decode cX12_drives 49 = .ok (.aload_n 0, 1) := by decide +kernel
theorem dX12_drives_50 : decode cX12_drives 50 = .ok (.iload_n 3, 1) := by decide +kernel
theorem dX12_drives_51 : decode cX12_drives 51 = .ok (.aload_n 0, 1) := by decide +kernel
theorem dX12_drives_52 : decode cX12_drives 52 = .ok (.iconst 5, 1) := by decide +kernel
theorem dX12_drives_53 : decode cX12_drives 53 = .ok (.iload_n 1, 1) := by decide +kernel
theorem dX12_drives_54 : decode cX12_drives 54 = .ok (.imul, 1) := by decide +kernel
theorem dX12_drives_55 : decode cX12_drives 55 = .ok (.iconst 4, 1) := by decide +kernel
theorem dX12_drives_56 : decode cX12_drives 56 = .ok (.iadd, 1) := by decide +kernel
theorem dX12_drives_57 : decode cX12_drives 57 = .ok (.invokevirtual 341, 3) := by decide +kernel
theorem dX12_drives_60 : decode cX12_drives 60 = .ok (.invokevirtual 350, 3) := by decide +kernel
theorem dX12_drives_63 : decode cX12_drives 63 = .ok (.putfield 344, 3) := by decide +kernel
theorem dX12_drives_66 : decode cX12_drives 66 = .ok (.aload_n 0, 1) := by decide +kernel
theorem dX12_drives_67 : decode cX12_drives 67 = .ok (.iload 4, 2) := by decide +kernel
theorem dX12_drives_69 : decode cX12_drives 69 = .ok (.putfield 353, 3) := by decide +kernel
theorem dX12_drives_7 : decode cX12_drives 7 = .ok (.iconst 0, 1) := by decide +kernel
theorem dX12_drives_72 : decode cX12_drives 72 = .ok (.iload 6, 2) := by decide +kernel
theorem dX12_drives_74 : decode cX12_drives 74 = .ok (.iconst 1, 1) := by decide +kernel
theorem dX12_drives_75 : decode cX12_drives 75 = .ok (.if_icmp .eq 4, 3) := by decide +kernel
theorem dX12_drives_78 : decode cX12_drives 78 = .ok (.return_, 1) := by decide +kernel
theorem dX12_drives_79 : decode cX12_drives 79 = .ok (.aload_n 0, 1) := by decide +kernel
theorem dX12_drives_8 : decode cX12_drives 8 = .ok (.goto 4, 3) := by decide +kernel
theorem dX12_drives_80 : decode cX12_drives 80 = .ok (.aload_n 0, 1) := by decide +kernel
theorem dX12_drives_81 : decode cX12_drives 81 = .ok (.getfield 29, 3) := by decide +kernel
theorem dX12_drives_84 : decode cX12_drives 84 = .ok (.bipush 96, 2) := by decide +kernel
theorem dX12_drives_86 : decode cX12_drives 86 = .ok (.iload_n 2, 1) := by decide +kernel
theorem dX12_drives_87 : decode cX12_drives 87 = .ok (.iload_n 3, 1) := by decide +kernel
theorem dX12_drives_88 : decode cX12_drives 88 = .ok (.invokestatic 289, 3) := by decide +kernel
theorem dX12_drives_91 : decode cX12_drives 91 = .ok (.iadd, 1) := by decide +kernel
theorem dX12_drives_92 : decode cX12_drives 92 = .ok (.iaload, 1) := by decide +kernel
theorem dX12_drives_93 : decode cX12_drives 93 = .ok (.iload 4, 2) := by decide +kernel
theorem dX12_drives_95 : decode cX12_drives 95 = .ok (.iload 5, 2) := by decide +kernel
theorem dX12_drives_97 : decode cX12_drives 97 = .ok (.iload_n 3, 1) := by decide +kernel
theorem dX12_drives_98 : decode cX12_drives 98 = .ok (.aload_n 0, 1) := by decide +kernel
theorem dX12_drives_99 : decode cX12_drives 99 = .ok (.iload_n 2, 1) := by decide +kernel
theorem dX12_heldSum_0 : decode cX12_heldSum 0 = .ok (.iload_n 1, 1) := by decide +kernel
theorem dX12_heldSum_1 : decode cX12_heldSum 1 = .ok (.i2l, 1) := by decide +kernel
theorem dX12_heldSum_12 : decode cX12_heldSum 12 = .ok (.iconst 0, 1) := by decide +kernel
theorem dX12_heldSum_13 : decode cX12_heldSum 13 = .ok (.goto 28, 3) := by decide +kernel
theorem dX12_heldSum_16 : decode cX12_heldSum 16 = .ok (.lload_n 3, 1) := by decide +kernel
theorem dX12_heldSum_17 : decode cX12_heldSum 17 = .ok (.aload_n 0, 1) := by decide +kernel
theorem dX12_heldSum_18 : decode cX12_heldSum 18 = .ok (.getfield 23, 3) := by decide +kernel
theorem dX12_heldSum_2 : decode cX12_heldSum 2 = .ok (.iload_n 2, 1) := by decide +kernel
theorem dX12_heldSum_21 : decode cX12_heldSum 21 = .ok (.iconst 1, 1) := by decide +kernel
theorem dX12_heldSum_22 : decode cX12_heldSum 22 = .ok (.iaload, 1) := by decide +kernel
theorem dX12_heldSum_23 : decode cX12_heldSum 23 = .ok (.i2l, 1) := by decide +kernel
theorem dX12_heldSum_24 : decode cX12_heldSum 24 = .ok (.lcmp, 1) := by decide +kernel
theorem dX12_heldSum_25 : decode cX12_heldSum 25 = .ok (.ifCond .lt 14, 3) := by decide +kernel
theorem dX12_heldSum_28 : decode cX12_heldSum 28 = .ok (.aload_n 0, 1) := by decide +kernel
theorem dX12_heldSum_29 : decode cX12_heldSum 29 = .ok (.getfield 23, 3) := by decide +kernel
theorem dX12_heldSum_3 : decode cX12_heldSum 3 = .ok (.i2l, 1) := by decide +kernel
theorem dX12_heldSum_32 : decode cX12_heldSum 32 = .ok (.iconst 1, 1) := by decide +kernel
theorem dX12_heldSum_33 : decode cX12_heldSum 33 = .ok (.iaload, 1) := by decide +kernel
theorem dX12_heldSum_34 : decode cX12_heldSum 34 = .ok (.iconst 1, 1) := by decide +kernel
theorem dX12_heldSum_35 : decode cX12_heldSum 35 = .ok (.isub, 1) := by decide +kernel
theorem dX12_heldSum_36 : decode cX12_heldSum 36 = .ok (.goto 5, 3) := by decide +kernel
theorem dX12_heldSum_39 : decode cX12_heldSum 39 = .ok (.lload_n 3, 1) := by decide +kernel
theorem dX12_heldSum_4 : decode cX12_heldSum 4 = .ok (.ladd, 1) := by decide +kernel
theorem dX12_heldSum_40 : decode cX12_heldSum 40 = .ok (.l2i, 1) := by decide +kernel
theorem dX12_heldSum_41 : decode cX12_heldSum 41 = .ok (.ireturn, 1) := by decide +kernel
theorem dX12_heldSum_5 : decode cX12_heldSum 5 = .ok (.lstore_n 3, 1) := by decide +kernel
theorem dX12_heldSum_6 : decode cX12_heldSum 6 = .ok (.lload_n 3, 1) := by decide +kernel
theorem dX12_heldSum_7 : decode cX12_heldSum 7 = .ok (.lconst 0, 1) := by decide +kernel
theorem dX12_heldSum_8 : decode cX12_heldSum 8 = .ok (.lcmp, 1) := by decide +kernel
theorem dX12_heldSum_9 : decode cX12_heldSum 9 = .ok (.ifCond .ge 7, 3) := by decide +kernel
theorem dX12_held_0 : decode cX12_held 0 = .ok (.iload_n 0, 1) := by decide +kernel
theorem dX12_held_1 : decode cX12_held 1 = .ok (.iload_n 1, 1) := by decide +kernel
theorem dX12_held_10 : decode cX12_held 10 = .ok (.iload_n 2, 1) := by decide +kernel
theorem dX12_held_11 : decode cX12_held 11 = .ok (.if_icmp .le 7, 3) := by decide +kernel
theorem dX12_held_14 : decode cX12_held 14 = .ok (.iload_n 2, 1) := by decide +kernel
theorem dX12_held_15 : decode cX12_held 15 = .ok (.goto 4, 3) := by decide +kernel
theorem dX12_held_18 : decode cX12_held 18 = .ok (.iload_n 0, 1) := by decide +kernel
theorem dX12_held_19 : decode cX12_held 19 = .ok (.ireturn, 1) := by decide +kernel
theorem dX12_held_2 : decode cX12_held 2 = .ok (.if_icmp .ge 7, 3) := by decide +kernel
theorem dX12_held_5 : decode cX12_held 5 = .ok (.iload_n 1, 1) := by decide +kernel
theorem dX12_held_6 : decode cX12_held 6 = .ok (.goto 13, 3) := by decide +kernel
theorem dX12_held_9 : decode cX12_held 9 = .ok (.iload_n 0, 1) := by decide +kernel
theorem dX12_isCar_0 : decode cX12_isCar 0 = .ok (.iload_n 1, 1) := by decide +kernel
theorem dX12_isCar_1 : decode cX12_isCar 1 = .ok (.iconst 0, 1) := by decide +kernel
theorem dX12_isCar_10 : decode cX12_isCar 10 = .ok (.invokestatic 279, 3) := by decide +kernel
theorem dX12_isCar_13 : decode cX12_isCar 13 = .ok (.ifCond .eq 37, 3) := by decide +kernel
theorem dX12_isCar_16 : decode cX12_isCar 16 = .ok (.iload_n 2, 1) := by decide +kernel
theorem dX12_isCar_17 : decode cX12_isCar 17 = .ok (.iconst 1, 1) := by decide +kernel
theorem dX12_isCar_18 : decode cX12_isCar 18 = .ok (.bipush 60, 2) := by decide +kernel
theorem dX12_isCar_2 : decode cX12_isCar 2 = .ok (.aload_n 0, 1) := by decide +kernel
theorem dX12_isCar_20 : decode cX12_isCar 20 = .ok (.invokestatic 279, 3) := by decide +kernel
theorem dX12_isCar_23 : decode cX12_isCar 23 = .ok (.ifCond .eq 27, 3) := by decide +kernel
theorem dX12_isCar_26 : decode cX12_isCar 26 = .ok (.iload_n 3, 1) := by decide +kernel
theorem dX12_isCar_27 : decode cX12_isCar 27 = .ok (.iconst 1, 1) := by decide +kernel
theorem dX12_isCar_28 : decode cX12_isCar 28 = .ok (.bipush 9, 2) := by decide +kernel
theorem dX12_isCar_3 : decode cX12_isCar 3 = .ok (.getfield 23, 3) := by decide +kernel
theorem dX12_isCar_30 : decode cX12_isCar 30 = .ok (.invokestatic 279, 3) := by decide +kernel
theorem dX12_isCar_33 : decode cX12_isCar 33 = .ok (.ifCond .eq 17, 3) := by decide +kernel
theorem dX12_isCar_36 : decode cX12_isCar 36 = .ok (.iload 4, 2) := by decide +kernel
theorem dX12_isCar_38 : decode cX12_isCar 38 = .ok (.iconst 0, 1) := by decide +kernel
theorem dX12_isCar_39 : decode cX12_isCar 39 = .ok (.iconst 3, 1) := by decide +kernel
theorem dX12_isCar_40 : decode cX12_isCar 40 = .ok (.invokestatic 279, 3) := by decide +kernel
theorem dX12_isCar_43 : decode cX12_isCar 43 = .ok (.ifCond .eq 7, 3) := by decide +kernel
theorem dX12_isCar_46 : decode cX12_isCar 46 = .ok (.iconst 1, 1) := by decide +kernel
theorem dX12_isCar_47 : decode cX12_isCar 47 = .ok (.goto 4, 3) := by decide +kernel
theorem dX12_isCar_50 : decode cX12_isCar 50 = .ok (.iconst 0, 1) := by decide +kernel
theorem dX12_isCar_51 : decode cX12_isCar 51 = .ok (.ireturn, 1) := by decide +kernel
theorem dX12_isCar_6 : decode cX12_isCar 6 = .ok (.iconst 1, 1) := by decide +kernel
theorem dX12_isCar_7 : decode cX12_isCar 7 = .ok (.iaload, 1) := by decide +kernel
theorem dX12_isCar_8 : decode cX12_isCar 8 = .ok (.iconst 1, 1) := by decide +kernel
theorem dX12_isCar_9 : decode cX12_isCar 9 = .ok (.isub, 1) := by decide +kernel
theorem dX12_isSheltered_0 : decode cX12_isSheltered 0 = .ok (.iconst 0, 1) := by decide +kernel
theorem dX12_isSheltered_1 : decode cX12_isSheltered 1 = .ok (.istore_n 2, 1) := by decide +kernel
theorem dX12_isSheltered_12 : decode cX12_isSheltered 12 = .ok (.iload_n 1, 1) := by decide +kernel
theorem dX12_isSheltered_13 : decode cX12_isSheltered 13 = .ok (.aload_n 0, 1) := by decide +kernel
theorem dX12_isSheltered_14 : decode cX12_isSheltered 14 = .ok (.getfield 23, 3) := by decide +kernel
theorem dX12_isSheltered_17 : decode cX12_isSheltered 17 = .ok (.bipush 24, 2) := by decide +kernel
theorem dX12_isSheltered_19 : decode cX12_isSheltered 19 = .ok (.iconst 2, 1) := by decide +kernel
theorem dX12_isSheltered_2 : decode cX12_isSheltered 2 = .ok (.iload_n 2, 1) := by decide +kernel
theorem dX12_isSheltered_20 : decode cX12_isSheltered 20 = .ok (.iload_n 2, 1) := by decide +kernel
theorem dX12_isSheltered_21 : decode cX12_isSheltered 21 = .ok (.imul, 1) := by decide +kernel
theorem dX12_isSheltered_22 : decode cX12_isSheltered 22 = .ok (.iadd, 1) := by decide +kernel
theorem dX12_isSheltered_23 : decode cX12_isSheltered 23 = .ok (.iaload, 1) := by decide +kernel
theorem dX12_isSheltered_24 : decode cX12_isSheltered 24 = .ok (.aload_n 0, 1) := by decide +kernel
theorem dX12_isSheltered_25 : decode cX12_isSheltered 25 = .ok (.getfield 23, 3) := by decide +kernel
theorem dX12_isSheltered_28 : decode cX12_isSheltered 28 = .ok (.bipush 24, 2) := by decide +kernel
theorem dX12_isSheltered_3 : decode cX12_isSheltered 3 = .ok (.aload_n 0, 1) := by decide +kernel
theorem dX12_isSheltered_30 : decode cX12_isSheltered 30 = .ok (.iconst 2, 1) := by decide +kernel
theorem dX12_isSheltered_31 : decode cX12_isSheltered 31 = .ok (.iload_n 2, 1) := by decide +kernel
theorem dX12_isSheltered_32 : decode cX12_isSheltered 32 = .ok (.imul, 1) := by decide +kernel
theorem dX12_isSheltered_33 : decode cX12_isSheltered 33 = .ok (.iadd, 1) := by decide +kernel
theorem dX12_isSheltered_34 : decode cX12_isSheltered 34 = .ok (.iconst 1, 1) := by decide +kernel
theorem dX12_isSheltered_35 : decode cX12_isSheltered 35 = .ok (.iadd, 1) := by decide +kernel
theorem dX12_isSheltered_36 : decode cX12_isSheltered 36 = .ok (.iaload, 1) := by decide +kernel
theorem dX12_isSheltered_37 : decode cX12_isSheltered 37 = .ok (.invokestatic 279, 3) := by decide +kernel
theorem dX12_isSheltered_4 : decode cX12_isSheltered 4 = .ok (.getfield 23, 3) := by decide +kernel
theorem dX12_isSheltered_40 : decode cX12_isSheltered 40 = .ok (.ifCond .eq 5, 3) := by decide +kernel
theorem dX12_isSheltered_43 : decode cX12_isSheltered 43 = .ok (.iconst 1, 1) := by decide +kernel
theorem dX12_isSheltered_44 : decode cX12_isSheltered 44 = .ok (.ireturn, 1) := by decide +kernel
theorem dX12_isSheltered_45 : decode cX12_isSheltered 45 = .ok (.iinc 2 1, 3) := by decide +kernel
theorem dX12_isSheltered_48 : decode cX12_isSheltered 48 = .ok (.goto (-46), 3) := by decide +kernel
theorem dX12_isSheltered_51 : decode cX12_isSheltered 51 = .ok (.iconst 0, 1) := by decide +kernel
theorem dX12_isSheltered_52 : decode cX12_isSheltered 52 = .ok (.ireturn, 1) := by decide +kernel
theorem dX12_isSheltered_7 : decode cX12_isSheltered 7 = .ok (.iconst 4, 1) := by decide +kernel
theorem dX12_isSheltered_8 : decode cX12_isSheltered 8 = .ok (.iaload, 1) := by decide +kernel
theorem dX12_isSheltered_9 : decode cX12_isSheltered 9 = .ok (.if_icmp .ge 42, 3) := by decide +kernel
theorem dX12_name_0 : decode cX12_name 0 = .ok (.aload_n 0, 1) := by decide +kernel
theorem dX12_name_1 : decode cX12_name 1 = .ok (.getfield 65, 3) := by decide +kernel
theorem dX12_name_11 : decode cX12_name 11 = .ok (.iconst 1, 1) := by decide +kernel
theorem dX12_name_12 : decode cX12_name 12 = .ok (.iload_n 2, 1) := by decide +kernel
theorem dX12_name_13 : decode cX12_name 13 = .ok (.iastore, 1) := by decide +kernel
theorem dX12_name_14 : decode cX12_name 14 = .ok (.aload_n 0, 1) := by decide +kernel
theorem dX12_name_15 : decode cX12_name 15 = .ok (.getfield 65, 3) := by decide +kernel
theorem dX12_name_18 : decode cX12_name 18 = .ok (.iconst 2, 1) := by decide +kernel
theorem dX12_name_19 : decode cX12_name 19 = .ok (.iload_n 3, 1) := by decide +kernel
theorem dX12_name_20 : decode cX12_name 20 = .ok (.iastore, 1) := by decide +kernel
theorem dX12_name_21 : decode cX12_name 21 = .ok (.aload_n 0, 1) := by decide +kernel
theorem dX12_name_22 : decode cX12_name 22 = .ok (.getfield 65, 3) := by decide +kernel
theorem dX12_name_25 : decode cX12_name 25 = .ok (.iconst 3, 1) := by decide +kernel
theorem dX12_name_26 : decode cX12_name 26 = .ok (.iload 4, 2) := by decide +kernel
theorem dX12_name_28 : decode cX12_name 28 = .ok (.iastore, 1) := by decide +kernel
theorem dX12_name_29 : decode cX12_name 29 = .ok (.aload_n 0, 1) := by decide +kernel
theorem dX12_name_30 : decode cX12_name 30 = .ok (.getfield 65, 3) := by decide +kernel
theorem dX12_name_33 : decode cX12_name 33 = .ok (.iconst 5, 1) := by decide +kernel
theorem dX12_name_34 : decode cX12_name 34 = .ok (.iload 5, 2) := by decide +kernel
theorem dX12_name_36 : decode cX12_name 36 = .ok (.iastore, 1) := by decide +kernel
theorem dX12_name_37 : decode cX12_name 37 = .ok (.aload_n 0, 1) := by decide +kernel
theorem dX12_name_38 : decode cX12_name 38 = .ok (.getfield 65, 3) := by decide +kernel
theorem dX12_name_4 : decode cX12_name 4 = .ok (.iconst 0, 1) := by decide +kernel
theorem dX12_name_41 : decode cX12_name 41 = .ok (.iconst 4, 1) := by decide +kernel
theorem dX12_name_42 : decode cX12_name 42 = .ok (.iconst 0, 1) := by decide +kernel
theorem dX12_name_43 : decode cX12_name 43 = .ok (.iastore, 1) := by decide +kernel
theorem dX12_name_44 : decode cX12_name 44 = .ok (.aload_n 0, 1) := by decide +kernel
theorem dX12_name_45 : decode cX12_name 45 = .ok (.getfield 65, 3) := by decide +kernel
theorem dX12_name_48 : decode cX12_name 48 = .ok (.bipush 6, 2) := by decide +kernel
theorem dX12_name_5 : decode cX12_name 5 = .ok (.iload_n 1, 1) := by decide +kernel
theorem dX12_name_50 : decode cX12_name 50 = .ok (.iconst 0, 1) := by decide +kernel
theorem dX12_name_51 : decode cX12_name 51 = .ok (.iastore, 1) := by decide +kernel
theorem dX12_name_52 : decode cX12_name 52 = .ok (.return_, 1) := by decide +kernel
theorem dX12_name_6 : decode cX12_name 6 = .ok (.iastore, 1) := by decide +kernel
theorem dX12_name_7 : decode cX12_name 7 = .ok (.aload_n 0, 1) := by decide +kernel
theorem dX12_name_8 : decode cX12_name 8 = .ok (.getfield 65, 3) := by decide +kernel
theorem dX12_peopleAt_0 : decode cX12_peopleAt 0 = .ok (.iconst 0, 1) := by decide +kernel
theorem dX12_peopleAt_1 : decode cX12_peopleAt 1 = .ok (.istore_n 2, 1) := by decide +kernel
theorem dX12_peopleAt_12 : decode cX12_peopleAt 12 = .ok (.iaload, 1) := by decide +kernel
theorem dX12_peopleAt_13 : decode cX12_peopleAt 13 = .ok (.if_icmp .ge 31, 3) := by decide +kernel
theorem dX12_peopleAt_16 : decode cX12_peopleAt 16 = .ok (.iload_n 2, 1) := by decide +kernel
theorem dX12_peopleAt_17 : decode cX12_peopleAt 17 = .ok (.aload_n 0, 1) := by decide +kernel
theorem dX12_peopleAt_18 : decode cX12_peopleAt 18 = .ok (.getfield 29, 3) := by decide +kernel
theorem dX12_peopleAt_2 : decode cX12_peopleAt 2 = .ok (.iconst 0, 1) := by decide +kernel
theorem dX12_peopleAt_21 : decode cX12_peopleAt 21 = .ok (.sipush 216, 3) := by decide +kernel
theorem dX12_peopleAt_24 : decode cX12_peopleAt 24 = .ok (.iload_n 3, 1) := by decide +kernel
theorem dX12_peopleAt_25 : decode cX12_peopleAt 25 = .ok (.iadd, 1) := by decide +kernel
theorem dX12_peopleAt_26 : decode cX12_peopleAt 26 = .ok (.iaload, 1) := by decide +kernel
theorem dX12_peopleAt_27 : decode cX12_peopleAt 27 = .ok (.iload_n 1, 1) := by decide +kernel
theorem dX12_peopleAt_28 : decode cX12_peopleAt 28 = .ok (.if_icmp .ne 7, 3) := by decide +kernel
theorem dX12_peopleAt_3 : decode cX12_peopleAt 3 = .ok (.istore_n 3, 1) := by decide +kernel
theorem dX12_peopleAt_31 : decode cX12_peopleAt 31 = .ok (.iconst 1, 1) := by decide +kernel
theorem dX12_peopleAt_32 : decode cX12_peopleAt 32 = .ok (.goto 4, 3) := by decide +kernel
theorem dX12_peopleAt_35 : decode cX12_peopleAt 35 = .ok (.iconst 0, 1) := by decide +kernel
theorem dX12_peopleAt_36 : decode cX12_peopleAt 36 = .ok (.iadd, 1) := by decide +kernel
theorem dX12_peopleAt_37 : decode cX12_peopleAt 37 = .ok (.istore_n 2, 1) := by decide +kernel
theorem dX12_peopleAt_38 : decode cX12_peopleAt 38 = .ok (.iinc 3 1, 3) := by decide +kernel
theorem dX12_peopleAt_4 : decode cX12_peopleAt 4 = .ok (.iload_n 3, 1) := by decide +kernel
theorem dX12_peopleAt_41 : decode cX12_peopleAt 41 = .ok (.goto (-37), 3) := by decide +kernel
theorem dX12_peopleAt_44 : decode cX12_peopleAt 44 = .ok (.iload_n 2, 1) := by decide +kernel
theorem dX12_peopleAt_45 : decode cX12_peopleAt 45 = .ok (.ireturn, 1) := by decide +kernel
theorem dX12_peopleAt_5 : decode cX12_peopleAt 5 = .ok (.aload_n 0, 1) := by decide +kernel
theorem dX12_peopleAt_6 : decode cX12_peopleAt 6 = .ok (.getfield 29, 3) := by decide +kernel
theorem dX12_peopleAt_9 : decode cX12_peopleAt 9 = .ok (.sipush 215, 3) := by decide +kernel
def vs_m_name : List Cond := .code yX12_name cX12_name 6 none :: (([.fieldLink RX12 65 "KerbSplashModel" "names" "[I"] : List Cond) ++ ((wsX120) ++ ([])))
theorem gd_m_name : vs_m_name.all goodWord = true := gd_C (by decide +kernel) (gd_A (by decide +kernel) (gd_A (by decide +kernel) rfl))
set_option maxHeartbeats 4000000 in
set_option maxRecDepth 100000 in
theorem m_name (l : Launch) (hl : l.stackTraces = false) (D : va_G) (cy : Nat → ClassId) (sa : Nat → Nat) (mm m1 m9 m10 m11 m12 m13 m14 m15 m19 m20 m21 m23 m24 m25 m26 m27 m28 m33 m35 : Nat) (th tp sz_ ap bad bk opn fp im nr nl sp_ wtc wcl ir ip shu sfa swr : Int) (f28 : Nat → Int32) (a_ b_ c_ d_ e_ : Int) (sz : Nat) (hr_th : (-2147483648) ≤ th ∧ th ≤ 2147483647) (hr_tp : 0 ≤ tp ∧ tp ≤ 600) (hr_sz_ : 0 ≤ sz_ ∧ sz_ ≤ 600) (hr_ap : 0 ≤ ap ∧ ap ≤ 602) (hr_bad : (-1) ≤ bad ∧ bad ≤ 602) (hr_bk : 0 ≤ bk ∧ bk ≤ 4) (hr_opn : 0 ≤ opn ∧ opn ≤ 7) (hr_fp : (-2147483648) ≤ fp ∧ fp ≤ 2147483647) (hr_im : 0 ≤ im ∧ im ≤ 3) (hr_nr : 0 ≤ nr ∧ nr ≤ 4) (hr_nl : 0 ≤ nl ∧ nl ≤ 4) (hr_sp_ : 0 ≤ sp_ ∧ sp_ ≤ 602) (hr_wtc : (-2147483648) ≤ wtc ∧ wtc ≤ 2147483647) (hr_wcl : 0 ≤ wcl ∧ wcl ≤ 95) (hr_ir : 0 ≤ ir ∧ ir ≤ 5) (hr_ip : (-2147483648) ≤ ip ∧ ip ≤ 2147483647) (hr_shu : (-2147483648) ≤ shu ∧ shu ≤ 2147483647) (hr_sfa : (-2147483648) ≤ sfa ∧ sfa ≤ 2147483647) (hr_swr : (-2147483648) ≤ swr ∧ swr ≤ 2147483647) (hr_a_ : (-2147483648) ≤ a_ ∧ a_ ≤ 2147483647) (hr_b_ : (-2147483648) ≤ b_ ∧ b_ ≤ 2147483647) (hr_c_ : (-2147483648) ≤ c_ ∧ c_ ≤ 2147483647) (hr_d_ : (-2147483648) ≤ d_ ∧ d_ ≤ 2147483647) (hr_e_ : (-2147483648) ≤ e_ ∧ e_ ≤ 2147483647) : mV9 l yX12_name vs_m_name ({ frames := 0, cells := 0, slots := 0, locals := 0 }) D cy sa sz [vR mm, vI a_, vI b_, vI c_, vI d_, vI e_] [zO mm 12 [vI th, vR m1, vI tp, vI sz_, vI ap, vI bad, vI bk, vI opn, vI fp, vR m9, vR m10, vR m11, vR m12, vR m13, vR m14, vR m15, vI im, vI nr, vI nl, vR m19, vR m20, vR m21, vI sp_, vR m23, vR m24, vR m25, vR m26, vR m27, vR m28, vI wtc, vI wcl, vI ir, vI ip, vR m33, vI shu, vR m35, vI sfa, vI swr], zI m28 (cy 0) 7 f28] (fun u : SV => True) (fun u : SV => [zO mm 12 [vI th, vR m1, vI tp, vI sz_, vI ap, vI bad, vI bk, vI opn, vI fp, vR m9, vR m10, vR m11, vR m12, vR m13, vR m14, vR m15, vI im, vI nr, vI nl, vR m19, vR m20, vR m21, vI sp_, vR m23, vR m24, vR m25, vR m26, vR m27, vR m28, vI wtc, vI wcl, vI ir, vI ip, vR m33, vI shu, vR m35, vI sfa, vI swr], zI m28 (cy 0) 7 (u.2.2 0)]) 0 0 := by
  refine Met.ofW (cc := cX12_name) (maxL := 6) (ret := none) (by decide) rfl ?_
  intro p e s m args below meth c s₁ B hml hv
  obtain ⟨rfl, hsz, hP, hG, hD0, hT⟩ := hv
  have hx := B.exec
  have hb := B.bytes
  have hr := B.returns
  have hts := atoms_spec (ws := vs_m_name) B.pre
  have hown : s.vm.findClass RX12 = some m.cls := findClass_of_methodNamed B.named
  have hlocks := B.notSynchronized
  subst hsz
  have hD := hD0.self (sz := s.heap.size)
  generalize hAe : va_A [zO mm 12 [vI th, vR m1, vI tp, vI sz_, vI ap, vI bad, vI bk, vI opn, vI fp, vR m9, vR m10, vR m11, vR m12, vR m13, vR m14, vR m15, vI im, vI nr, vI nl, vR m19, vR m20, vR m21, vI sp_, vR m23, vR m24, vR m25, vR m26, vR m27, vR m28, vI wtc, vI wcl, vI ir, vI ip, vR m33, vI shu, vR m35, vI sfa, vI swr], zI m28 (cy 0) 7 f28] s.heap.size = A at hD hT ⊢
  have hA : ∀ q : Nat, s.heap.size ≤ q → A q := fun q h => by rw [← hAe]; exact Or.inr h
  have hS : va_S A s.heap s.heap [] := va_S.rf
  have hl0 := lv_entry ([vR mm, vI a_, vI b_, vI c_, vI d_, vI e_]) (n := 6) (Nat.le_of_ble_eq_true rfl)
  rw [lg_entry_eq]
  generalize (lg_sl ([vR mm, vI a_, vI b_, vI c_, vI d_, vI e_]) ++ List.replicate (6 - (lg_sl ([vR mm, vI a_, vI b_, vI c_, vI d_, vI e_])).length) Slot.unset).toArray = ls at hl0 ⊢
  have hlv : lv_has ls 6 [(0, vR mm), (1, vI a_), (2, vI b_), (3, vI c_), (4, vI d_), (5, vI e_)] := hl0
  have lf65 := hts (.fieldLink RX12 65 "KerbSplashModel" "names" "[I") (List.mem_of_getElem? (i := 1) rfl)
  have hi12 : ∀ w ∈ wsX120, w ∈ vs_m_name := fun w h => List.mem_cons_of_mem _ (List.mem_append_right _ (List.mem_append_left _ h))
  refine lv_aload_n hx hb dX12_name_0 rfl (lv_at hlv 0 rfl) ?_
  refine va_get (D := D) (ci := 12) (v := vR m28) (C := RX12) (T := TX12) (N := 38) hx hb hts hi12 hown hG.1 hP 0 rfl rfl 28 (by decide) lf65 (fun _ h9 => h9) rfl dX12_name_1 ?_
  refine lv_iconst (v := iI 0) hx hb dX12_name_4 (by decide) ?_
  refine lv_iload_n hx hb dX12_name_5 rfl (lv_at hlv 1 rfl) ?_
  refine va_iast hx hb hG.1 hP hD hS 1 0 rfl rfl (iI_in (by omega) (by decide)) dX12_name_6 (fun H locs hP hD hS => ?_)
  obtain ⟨f_1, hP, hD⟩ := pe9 (fun f_1 => [zO mm 12 [vI th, vR m1, vI tp, vI sz_, vI ap, vI bad, vI bk, vI opn, vI fp, vR m9, vR m10, vR m11, vR m12, vR m13, vR m14, vR m15, vI im, vI nr, vI nl, vR m19, vR m20, vR m21, vI sp_, vR m23, vR m24, vR m25, vR m26, vR m27, vR m28, vI wtc, vI wcl, vI ir, vI ip, vR m33, vI shu, vR m35, vI sfa, vI swr], zI m28 (cy 0) 7 f_1]) _ hP hD
  refine lv_aload_n hx hb dX12_name_7 rfl (lv_at hlv 0 rfl) ?_
  refine va_get (D := D) (ci := 12) (v := vR m28) (C := RX12) (T := TX12) (N := 38) hx hb hts hi12 hown hG.1 hP 0 rfl rfl 28 (by decide) lf65 (fun _ h9 => h9) rfl dX12_name_8 ?_
  refine lv_iconst (v := iI 1) hx hb dX12_name_11 (by decide) ?_
  refine lv_iload_n hx hb dX12_name_12 rfl (lv_at hlv 2 rfl) ?_
  refine va_iast hx hb hG.1 hP hD hS 1 0 rfl rfl (iI_in (by omega) (by decide)) dX12_name_13 (fun H locs hP hD hS => ?_)
  obtain ⟨f_2, hP, hD⟩ := pe9 (fun f_2 => [zO mm 12 [vI th, vR m1, vI tp, vI sz_, vI ap, vI bad, vI bk, vI opn, vI fp, vR m9, vR m10, vR m11, vR m12, vR m13, vR m14, vR m15, vI im, vI nr, vI nl, vR m19, vR m20, vR m21, vI sp_, vR m23, vR m24, vR m25, vR m26, vR m27, vR m28, vI wtc, vI wcl, vI ir, vI ip, vR m33, vI shu, vR m35, vI sfa, vI swr], zI m28 (cy 0) 7 f_2]) _ hP hD
  refine lv_aload_n hx hb dX12_name_14 rfl (lv_at hlv 0 rfl) ?_
  refine va_get (D := D) (ci := 12) (v := vR m28) (C := RX12) (T := TX12) (N := 38) hx hb hts hi12 hown hG.1 hP 0 rfl rfl 28 (by decide) lf65 (fun _ h9 => h9) rfl dX12_name_15 ?_
  refine lv_iconst (v := iI 2) hx hb dX12_name_18 (by decide) ?_
  refine lv_iload_n hx hb dX12_name_19 rfl (lv_at hlv 3 rfl) ?_
  refine va_iast hx hb hG.1 hP hD hS 1 0 rfl rfl (iI_in (by omega) (by decide)) dX12_name_20 (fun H locs hP hD hS => ?_)
  obtain ⟨f_3, hP, hD⟩ := pe9 (fun f_3 => [zO mm 12 [vI th, vR m1, vI tp, vI sz_, vI ap, vI bad, vI bk, vI opn, vI fp, vR m9, vR m10, vR m11, vR m12, vR m13, vR m14, vR m15, vI im, vI nr, vI nl, vR m19, vR m20, vR m21, vI sp_, vR m23, vR m24, vR m25, vR m26, vR m27, vR m28, vI wtc, vI wcl, vI ir, vI ip, vR m33, vI shu, vR m35, vI sfa, vI swr], zI m28 (cy 0) 7 f_3]) _ hP hD
  refine lv_aload_n hx hb dX12_name_21 rfl (lv_at hlv 0 rfl) ?_
  refine va_get (D := D) (ci := 12) (v := vR m28) (C := RX12) (T := TX12) (N := 38) hx hb hts hi12 hown hG.1 hP 0 rfl rfl 28 (by decide) lf65 (fun _ h9 => h9) rfl dX12_name_22 ?_
  refine lv_iconst (v := iI 3) hx hb dX12_name_25 (by decide) ?_
  refine lv_iload hx hb dX12_name_26 (lv_at hlv 4 rfl) ?_
  refine va_iast hx hb hG.1 hP hD hS 1 0 rfl rfl (iI_in (by omega) (by decide)) dX12_name_28 (fun H locs hP hD hS => ?_)
  obtain ⟨f_4, hP, hD⟩ := pe9 (fun f_4 => [zO mm 12 [vI th, vR m1, vI tp, vI sz_, vI ap, vI bad, vI bk, vI opn, vI fp, vR m9, vR m10, vR m11, vR m12, vR m13, vR m14, vR m15, vI im, vI nr, vI nl, vR m19, vR m20, vR m21, vI sp_, vR m23, vR m24, vR m25, vR m26, vR m27, vR m28, vI wtc, vI wcl, vI ir, vI ip, vR m33, vI shu, vR m35, vI sfa, vI swr], zI m28 (cy 0) 7 f_4]) _ hP hD
  refine lv_aload_n hx hb dX12_name_29 rfl (lv_at hlv 0 rfl) ?_
  refine va_get (D := D) (ci := 12) (v := vR m28) (C := RX12) (T := TX12) (N := 38) hx hb hts hi12 hown hG.1 hP 0 rfl rfl 28 (by decide) lf65 (fun _ h9 => h9) rfl dX12_name_30 ?_
  refine lv_iconst (v := iI 5) hx hb dX12_name_33 (by decide) ?_
  refine lv_iload hx hb dX12_name_34 (lv_at hlv 5 rfl) ?_
  refine va_iast hx hb hG.1 hP hD hS 1 0 rfl rfl (iI_in (by omega) (by decide)) dX12_name_36 (fun H locs hP hD hS => ?_)
  obtain ⟨f_5, hP, hD⟩ := pe9 (fun f_5 => [zO mm 12 [vI th, vR m1, vI tp, vI sz_, vI ap, vI bad, vI bk, vI opn, vI fp, vR m9, vR m10, vR m11, vR m12, vR m13, vR m14, vR m15, vI im, vI nr, vI nl, vR m19, vR m20, vR m21, vI sp_, vR m23, vR m24, vR m25, vR m26, vR m27, vR m28, vI wtc, vI wcl, vI ir, vI ip, vR m33, vI shu, vR m35, vI sfa, vI swr], zI m28 (cy 0) 7 f_5]) _ hP hD
  refine lv_aload_n hx hb dX12_name_37 rfl (lv_at hlv 0 rfl) ?_
  refine va_get (D := D) (ci := 12) (v := vR m28) (C := RX12) (T := TX12) (N := 38) hx hb hts hi12 hown hG.1 hP 0 rfl rfl 28 (by decide) lf65 (fun _ h9 => h9) rfl dX12_name_38 ?_
  refine lv_iconst (v := iI 4) hx hb dX12_name_41 (by decide) ?_
  refine lv_iconst (v := iI 0) hx hb dX12_name_42 (by decide) ?_
  refine va_iast hx hb hG.1 hP hD hS 1 0 rfl rfl (iI_in (by omega) (by decide)) dX12_name_43 (fun H locs hP hD hS => ?_)
  obtain ⟨f_6, hP, hD⟩ := pe9 (fun f_6 => [zO mm 12 [vI th, vR m1, vI tp, vI sz_, vI ap, vI bad, vI bk, vI opn, vI fp, vR m9, vR m10, vR m11, vR m12, vR m13, vR m14, vR m15, vI im, vI nr, vI nl, vR m19, vR m20, vR m21, vI sp_, vR m23, vR m24, vR m25, vR m26, vR m27, vR m28, vI wtc, vI wcl, vI ir, vI ip, vR m33, vI shu, vR m35, vI sfa, vI swr], zI m28 (cy 0) 7 f_6]) _ hP hD
  refine lv_aload_n hx hb dX12_name_44 rfl (lv_at hlv 0 rfl) ?_
  refine va_get (D := D) (ci := 12) (v := vR m28) (C := RX12) (T := TX12) (N := 38) hx hb hts hi12 hown hG.1 hP 0 rfl rfl 28 (by decide) lf65 (fun _ h9 => h9) rfl dX12_name_45 ?_
  refine lv_bipush (v := iI 6) hx hb dX12_name_48 (by decide) ?_
  refine lv_iconst (v := iI 0) hx hb dX12_name_50 (by decide) ?_
  refine va_iast hx hb hG.1 hP hD hS 1 0 rfl rfl (iI_in (by omega) (by decide)) dX12_name_51 (fun H locs hP hD hS => ?_)
  obtain ⟨f_7, hP, hD⟩ := pe9 (fun f_7 => [zO mm 12 [vI th, vR m1, vI tp, vI sz_, vI ap, vI bad, vI bk, vI opn, vI fp, vR m9, vR m10, vR m11, vR m12, vR m13, vR m14, vR m15, vI im, vI nr, vI nl, vR m19, vR m20, vR m21, vI sp_, vR m23, vR m24, vR m25, vR m26, vR m27, vR m28, vI wtc, vI wcl, vI ir, vI ip, vR m33, vI shu, vR m35, vI sfa, vI swr], zI m28 (cy 0) 7 f_7]) _ hP hD
  refine W.widen (k := 0) (n := 0) (Nat.le_of_ble_eq_true rfl) (Nat.le_of_ble_eq_true rfl) ?_
  exact W.vret hx hb hr (fun t ht hW => ⟨⟨((fun k => ([] : List Nat).getD k 0), (fun k => ([] : List Int).getD k 0), (fun k => ([f_7] : List (Nat → Int32)).getD k (fun _ => 0))), rfl, trivial, at9 ht hP hD [0, 1] (by decide +kernel) rfl⟩, hS.F ht⟩) hS.2.2 dX12_name_52
def vs_m_held : List Cond := .code yX12_held cX12_held 3 (some .int) :: (([] : List Cond) ++ ([]))
theorem gd_m_held : vs_m_held.all goodWord = true := gd_C (by decide +kernel) (gd_A (by decide +kernel) rfl)
set_option maxHeartbeats 4000000 in
set_option maxRecDepth 100000 in
theorem m_held (l : Launch) (hl : l.stackTraces = false) (D : va_G) (cy : Nat → ClassId) (sa : Nat → Nat) (n a b : Int) (sz : Nat) (hr_n : (-2147483648) ≤ n ∧ n ≤ 2147483647) (hr_a : (-2147483648) ≤ a ∧ a ≤ 2147483647) (hr_b : (-2147483648) ≤ b ∧ b ≤ 2147483647) : mI9 l yX12_held vs_m_held ({ frames := 0, cells := 0, slots := 0, locals := 0 }) D cy sa sz [vI n, vI a, vI b] [] (fun (r : Int32) (u : SV) => r = iI (u.2.1 0) ∧ ((-2147483648) ≤ u.2.1 0 ∧ u.2.1 0 ≤ 2147483647) ∧ (a ≤ b → a ≤ u.2.1 0 ∧ u.2.1 0 ≤ b)) (fun u : SV => []) 0 0 := by
  refine Met.ofW (cc := cX12_held) (maxL := 3) (ret := (some .int)) (by decide) rfl ?_
  intro p e s m args below meth c s₁ B hml hv
  obtain ⟨rfl, hsz, hP, hG, hD0, hT⟩ := hv
  have hx := B.exec
  have hb := B.bytes
  have hr := B.returns
  have hts := atoms_spec (ws := vs_m_held) B.pre
  have hown : s.vm.findClass RX12 = some m.cls := findClass_of_methodNamed B.named
  have hlocks := B.notSynchronized
  subst hsz
  have hD := hD0.self (sz := s.heap.size)
  generalize hAe : va_A [] s.heap.size = A at hD hT ⊢
  have hA : ∀ q : Nat, s.heap.size ≤ q → A q := fun q h => by rw [← hAe]; exact Or.inr h
  have hS : va_S A s.heap s.heap [] := va_S.rf
  have hl0 := lv_entry ([vI n, vI a, vI b]) (n := 3) (Nat.le_of_ble_eq_true rfl)
  rw [lg_entry_eq]
  generalize (lg_sl ([vI n, vI a, vI b]) ++ List.replicate (3 - (lg_sl ([vI n, vI a, vI b])).length) Slot.unset).toArray = ls at hl0 ⊢
  have hlv : lv_has ls 3 [(0, vI n), (1, vI a), (2, vI b)] := hl0
  refine lv_iload_n hx hb dX12_held_0 rfl (lv_at hlv 0 rfl) ?_
  refine lv_iload_n hx hb dX12_held_1 rfl (lv_at hlv 1 rfl) ?_
  refine ir_ge (tgt := 9) hx hb dX12_held_2 (by decide) (by first | exact hr_n | omega) (by first | exact hr_a | omega) (fun c_1 => ?_) (fun c_1 => ?_)
  · refine lv_iload_n hx hb dX12_held_9 rfl (lv_at hlv 0 rfl) ?_
    refine lv_iload_n hx hb dX12_held_10 rfl (lv_at hlv 2 rfl) ?_
    refine ir_le (tgt := 18) hx hb dX12_held_11 (by decide) (by first | exact hr_n | omega) (by first | exact hr_b | omega) (fun c_2 => ?_) (fun c_2 => ?_)
    · refine lv_iload_n hx hb dX12_held_18 rfl (lv_at hlv 0 rfl) ?_
      refine W.widen (k := 0) (n := 0) (Nat.le_of_ble_eq_true rfl) (Nat.le_of_ble_eq_true rfl) ?_
      exact W.iret (v := iI n) hx hb hr (fun t ht hW => ⟨⟨iI n, ((fun k => ([] : List Nat).getD k 0), (fun k => ([n] : List Int).getD k 0), (fun k => ([] : List (Nat → Int32)).getD k (fun _ => 0))), rfl, ⟨rfl, (by show ((-2147483648) ≤ n ∧ n ≤ 2147483647); first | exact hr_n | omega), (by show (a ≤ b → a ≤ n ∧ n ≤ b); omega)⟩, at9 ht hP hD [] (by decide +kernel) rfl⟩, hS.F ht⟩) hS.2.2 dX12_held_19
    · refine lv_iload_n hx hb dX12_held_14 rfl (lv_at hlv 2 rfl) ?_
      refine lv_goto (tgt := 19) hx hb dX12_held_15 (by decide) ?_
      refine W.widen (k := 0) (n := 0) (Nat.le_of_ble_eq_true rfl) (Nat.le_of_ble_eq_true rfl) ?_
      exact W.iret (v := iI b) hx hb hr (fun t ht hW => ⟨⟨iI b, ((fun k => ([] : List Nat).getD k 0), (fun k => ([b] : List Int).getD k 0), (fun k => ([] : List (Nat → Int32)).getD k (fun _ => 0))), rfl, ⟨rfl, (by show ((-2147483648) ≤ b ∧ b ≤ 2147483647); first | exact hr_b | omega), (by show (a ≤ b → a ≤ b ∧ b ≤ b); omega)⟩, at9 ht hP hD [] (by decide +kernel) rfl⟩, hS.F ht⟩) hS.2.2 dX12_held_19
  · refine lv_iload_n hx hb dX12_held_5 rfl (lv_at hlv 1 rfl) ?_
    refine lv_goto (tgt := 19) hx hb dX12_held_6 (by decide) ?_
    refine W.widen (k := 0) (n := 0) (Nat.le_of_ble_eq_true rfl) (Nat.le_of_ble_eq_true rfl) ?_
    exact W.iret (v := iI a) hx hb hr (fun t ht hW => ⟨⟨iI a, ((fun k => ([] : List Nat).getD k 0), (fun k => ([a] : List Int).getD k 0), (fun k => ([] : List (Nat → Int32)).getD k (fun _ => 0))), rfl, ⟨rfl, (by show ((-2147483648) ≤ a ∧ a ≤ 2147483647); first | exact hr_a | omega), (by show (a ≤ b → a ≤ a ∧ a ≤ b); omega)⟩, at9 ht hP hD [] (by decide +kernel) rfl⟩, hS.F ht⟩) hS.2.2 dX12_held_19
def vs_m_peopleAt : List Cond := .code yX12_peopleAt cX12_peopleAt 4 (some .int) :: (([.fieldLink RX12 29 "KerbSplashModel" "s" "[I"] : List Cond) ++ ((wsX120) ++ ([])))
theorem gd_m_peopleAt : vs_m_peopleAt.all goodWord = true := gd_C (by decide +kernel) (gd_A (by decide +kernel) (gd_A (by decide +kernel) rfl))
set_option maxHeartbeats 4000000 in
set_option maxRecDepth 100000 in
theorem m_peopleAt (l : Launch) (hl : l.stackTraces = false) (D : va_G) (cy : Nat → ClassId) (sa : Nat → Nat) (mm m1 m9 m10 m11 m12 m13 m14 m15 m19 m20 m21 m23 m24 m25 m26 m27 m28 m33 m35 : Nat) (th tp sz_ ap bad bk opn fp im nr nl sp_ wtc wcl ir ip shu sfa swr : Int) (f12 : Nat → Int32) (n : Int) (pm : Int) (sz : Nat) (hr_th : (-2147483648) ≤ th ∧ th ≤ 2147483647) (hr_tp : 0 ≤ tp ∧ tp ≤ 600) (hr_sz_ : 0 ≤ sz_ ∧ sz_ ≤ 600) (hr_ap : 0 ≤ ap ∧ ap ≤ 602) (hr_bad : (-1) ≤ bad ∧ bad ≤ 602) (hr_bk : 0 ≤ bk ∧ bk ≤ 4) (hr_opn : 0 ≤ opn ∧ opn ≤ 7) (hr_fp : (-2147483648) ≤ fp ∧ fp ≤ 2147483647) (hr_im : 0 ≤ im ∧ im ≤ 3) (hr_nr : 0 ≤ nr ∧ nr ≤ 4) (hr_nl : 0 ≤ nl ∧ nl ≤ 4) (hr_sp_ : 0 ≤ sp_ ∧ sp_ ≤ 602) (hr_wtc : (-2147483648) ≤ wtc ∧ wtc ≤ 2147483647) (hr_wcl : 0 ≤ wcl ∧ wcl ≤ 95) (hr_ir : 0 ≤ ir ∧ ir ≤ 5) (hr_ip : (-2147483648) ≤ ip ∧ ip ≤ 2147483647) (hr_shu : (-2147483648) ≤ shu ∧ shu ≤ 2147483647) (hr_sfa : (-2147483648) ≤ sfa ∧ sfa ≤ 2147483647) (hr_swr : (-2147483648) ≤ swr ∧ swr ≤ 2147483647) (hr_n : (-2147483648) ≤ n ∧ n ≤ 2147483647) (hr_pm : 8 ≤ pm ∧ pm ≤ 9) (hf12 : SI pm f12) : mI9 l yX12_peopleAt vs_m_peopleAt ({ frames := 0, cells := 0, slots := 0, locals := 0 }) D cy sa sz [vR mm, vI n] [zO mm 12 [vI th, vR m1, vI tp, vI sz_, vI ap, vI bad, vI bk, vI opn, vI fp, vR m9, vR m10, vR m11, vR m12, vR m13, vR m14, vR m15, vI im, vI nr, vI nl, vR m19, vR m20, vR m21, vI sp_, vR m23, vR m24, vR m25, vR m26, vR m27, vR m28, vI wtc, vI wcl, vI ir, vI ip, vR m33, vI shu, vR m35, vI sfa, vI swr], zI m12 (cy 0) 389 f12] (fun (r : Int32) (u : SV) => r = iI (u.2.1 0) ∧ (0 ≤ u.2.1 0 ∧ u.2.1 0 ≤ 9) ∧ SI pm f12) (fun u : SV => [zO mm 12 [vI th, vR m1, vI tp, vI sz_, vI ap, vI bad, vI bk, vI opn, vI fp, vR m9, vR m10, vR m11, vR m12, vR m13, vR m14, vR m15, vI im, vI nr, vI nl, vR m19, vR m20, vR m21, vI sp_, vR m23, vR m24, vR m25, vR m26, vR m27, vR m28, vI wtc, vI wcl, vI ir, vI ip, vR m33, vI shu, vR m35, vI sfa, vI swr], zI m12 (cy 0) 389 f12]) 0 0 := by
  refine Met.ofW (cc := cX12_peopleAt) (maxL := 4) (ret := (some .int)) (by decide) rfl ?_
  intro p e s m args below meth c s₁ B hml hv
  obtain ⟨rfl, hsz, hP, hG, hD0, hT⟩ := hv
  have hx := B.exec
  have hb := B.bytes
  have hr := B.returns
  have hts := atoms_spec (ws := vs_m_peopleAt) B.pre
  have hown : s.vm.findClass RX12 = some m.cls := findClass_of_methodNamed B.named
  have hlocks := B.notSynchronized
  subst hsz
  have hD := hD0.self (sz := s.heap.size)
  generalize hAe : va_A [zO mm 12 [vI th, vR m1, vI tp, vI sz_, vI ap, vI bad, vI bk, vI opn, vI fp, vR m9, vR m10, vR m11, vR m12, vR m13, vR m14, vR m15, vI im, vI nr, vI nl, vR m19, vR m20, vR m21, vI sp_, vR m23, vR m24, vR m25, vR m26, vR m27, vR m28, vI wtc, vI wcl, vI ir, vI ip, vR m33, vI shu, vR m35, vI sfa, vI swr], zI m12 (cy 0) 389 f12] s.heap.size = A at hD hT ⊢
  have hA : ∀ q : Nat, s.heap.size ≤ q → A q := fun q h => by rw [← hAe]; exact Or.inr h
  have hS : va_S A s.heap s.heap [] := va_S.rf
  have hl0 := lv_entry ([vR mm, vI n]) (n := 4) (Nat.le_of_ble_eq_true rfl)
  rw [lg_entry_eq]
  generalize (lg_sl ([vR mm, vI n]) ++ List.replicate (4 - (lg_sl ([vR mm, vI n])).length) Slot.unset).toArray = ls at hl0 ⊢
  have hlv : lv_has ls 4 [(0, vR mm), (1, vI n)] := hl0
  have lf29 := hts (.fieldLink RX12 29 "KerbSplashModel" "s" "[I") (List.mem_of_getElem? (i := 1) rfl)
  have hi12 : ∀ w ∈ wsX120, w ∈ vs_m_peopleAt := fun w h => List.mem_cons_of_mem _ (List.mem_append_right _ (List.mem_append_left _ h))
  refine lv_iconst (v := iI 0) hx hb dX12_peopleAt_0 (by decide) ?_
  refine lv_istore_n (lv' := [(2, vI 0), (0, vR mm), (1, vI n)]) hx hb dX12_peopleAt_1 rfl hlv (by decide) rfl (fun ls hlv => ?_)
  refine lv_iconst (v := iI 0) hx hb dX12_peopleAt_2 (by decide) ?_
  refine lv_istore_n (lv' := [(3, vI 0), (2, vI 0), (0, vR mm), (1, vI n)]) hx hb dX12_peopleAt_3 rfl hlv (by decide) rfl (fun ls hlv => ?_)
  refine (?_ : ∀ (fu : Nat) (q2 : Int) (q3 : Int) (H : Heap) (locs : List Loc) (ls : Array Slot), 9 - q3 < (fu : Int) → (0 ≤ q2 ∧ q2 ≤ 9) → (0 ≤ q3 ∧ q3 ≤ 9) → (q2 ≤ q3) → va_P D vwCl [zO mm 12 [vI th, vR m1, vI tp, vI sz_, vI ap, vI bad, vI bk, vI opn, vI fp, vR m9, vR m10, vR m11, vR m12, vR m13, vR m14, vR m15, vI im, vI nr, vI nl, vR m19, vR m20, vR m21, vI sp_, vR m23, vR m24, vR m25, vR m26, vR m27, vR m28, vI wtc, vI wcl, vI ir, vI ip, vR m33, vI shu, vR m35, vI sfa, vI swr], zI m12 (cy 0) 389 f12] H → va_D A [zO mm 12 [vI th, vR m1, vI tp, vI sz_, vI ap, vI bad, vI bk, vI opn, vI fp, vR m9, vR m10, vR m11, vR m12, vR m13, vR m14, vR m15, vI im, vI nr, vI nl, vR m19, vR m20, vR m21, vI sp_, vR m23, vR m24, vR m25, vR m26, vR m27, vR m28, vI wtc, vI wcl, vI ir, vI ip, vR m33, vI shu, vR m35, vI sfa, vI swr], zI m12 (cy 0) 389 f12] → va_S A s.heap H locs → lv_has ls 4 [(3, vI q3), (2, vI q2), (0, vR mm), (1, vI n)] → W p l e _ s m _ below meth c H locs _ _ _ (F0 m 4 ls [])) (((9 - 0) + 1 : Int)).toNat 0 0 _ _ _ (by omega) (by show (0 : Int) ≤ 0 ∧ (0 : Int) ≤ 9; decide) (by show (0 : Int) ≤ 0 ∧ (0 : Int) ≤ 9; decide) (by omega)  hP hD hS hlv
  clear hP hD hS hlv
  intro fu
  induction fu with
  | zero => intro q2 q3 H locs ls hm4 hl4_0 hl4_1 hl4_2  hP hD hS hlv; omega
  | succ fu ih4 =>
    intro q2 q3 H locs ls hm4 hl4_0 hl4_1 hl4_2  hP hD hS hlv
    refine lv_iload_n hx hb dX12_peopleAt_4 rfl (lv_at hlv 0 rfl) ?_
    refine lv_aload_n hx hb dX12_peopleAt_5 rfl (lv_at hlv 2 rfl) ?_
    refine va_get (D := D) (ci := 12) (v := vR m12) (C := RX12) (T := TX12) (N := 38) hx hb hts hi12 hown hG.1 hP 0 rfl rfl 12 (by decide) lf29 (fun _ h9 => h9) rfl dX12_peopleAt_6 ?_
    refine lv_sipush (v := iI 215) hx hb dX12_peopleAt_9 (by decide) ?_
    refine va_iald hx hb hG.1 hP 1 0 rfl rfl (iI_in (by omega) (by decide)) dX12_peopleAt_12 ?_
    refine lt_nz (i := 215) (by omega) (fun z_1 hz_1 lz_1 uz_1 => ?_)
    have hz_1 : z_1 = nz f12 215 := hz_1
    have hbz_1_7 := hf12.2.2.1
    refine ir_ge (tgt := 44) hx hb dX12_peopleAt_13 (by decide) (by first | exact rgw hl4_1 (by decide) (by decide) | omega) (by omega) (fun c_2 => ?_) (fun c_2 => ?_)
    · refine lv_iload_n hx hb dX12_peopleAt_44 rfl (lv_at hlv 1 rfl) ?_
      refine W.widen (k := 0) (n := 0) (Nat.le_of_ble_eq_true rfl) (Nat.le_of_ble_eq_true rfl) ?_
      exact W.iret (v := iI q2) hx hb hr (fun t ht hW => ⟨⟨iI q2, ((fun k => ([] : List Nat).getD k 0), (fun k => ([q2] : List Int).getD k 0), (fun k => ([] : List (Nat → Int32)).getD k (fun _ => 0))), rfl, ⟨rfl, (by show (0 ≤ q2 ∧ q2 ≤ 9); first | exact hl4_0 | omega), hf12⟩, at9 ht hP hD [0, 1] (by decide +kernel) rfl⟩, hS.F ht⟩) hS.2.2 dX12_peopleAt_45
    · refine lv_iload_n hx hb dX12_peopleAt_16 rfl (lv_at hlv 1 rfl) ?_
      refine lv_aload_n hx hb dX12_peopleAt_17 rfl (lv_at hlv 2 rfl) ?_
      refine va_get (D := D) (ci := 12) (v := vR m12) (C := RX12) (T := TX12) (N := 38) hx hb hts hi12 hown hG.1 hP 0 rfl rfl 12 (by decide) lf29 (fun _ h9 => h9) rfl dX12_peopleAt_18 ?_
      refine lv_sipush (v := iI 216) hx hb dX12_peopleAt_21 (by decide) ?_
      refine lv_iload_n hx hb dX12_peopleAt_24 rfl (lv_at hlv 0 rfl) ?_
      refine lv_iadd hx hb dX12_peopleAt_25 ?_
      refine lt_e (e0 := 216 + q3) (Int32.ofInt_add _ _).symm (fun z_3 hz_3 => ?_)
      refine va_iald hx hb hG.1 hP 1 0 rfl rfl (iI_in (by omega) (by decide)) dX12_peopleAt_26 ?_
      refine lt_nz (i := z_3) (by omega) (fun z_4 hz_4 lz_4 uz_4 => ?_)
      refine lv_iload_n hx hb dX12_peopleAt_27 rfl (lv_at hlv 3 rfl) ?_
      refine ir_ne (tgt := 35) hx hb dX12_peopleAt_28 (by decide) (by omega) (by first | exact hr_n | omega) (fun c_5 => ?_) (fun c_5 => ?_)
      · refine lv_iconst (v := iI 0) hx hb dX12_peopleAt_35 (by decide) ?_
        refine lv_iadd hx hb dX12_peopleAt_36 ?_
        refine lt_i (y := iI q2) (by rw [show iI q2 + iI 0 = iI (q2 + 0) from (Int32.ofInt_add _ _).symm, Int.add_zero]) ?_
        refine lv_istore_n (lv' := [(2, vI q2), (3, vI q3), (0, vR mm), (1, vI n)]) hx hb dX12_peopleAt_37 rfl hlv (by decide) rfl (fun ls hlv => ?_)
        obtain ⟨z_6, hz_6⟩ : ∃ z : Int, z = q3 + 1 := ⟨_, rfl⟩
        refine lv_iinc (v := iI z_6) (lv' := [(3, vI z_6), (2, vI q2), (0, vR mm), (1, vI n)]) hx hb dX12_peopleAt_38 hlv (k := 1) rfl (by rw [hz_6]; exact (Int32.ofInt_add _ _).symm) (by decide) rfl (fun ls hlv => ?_)
        refine lv_goto (tgt := 4) hx hb dX12_peopleAt_41 (by decide) ?_
        exact ih4 q2 z_6 H locs ls (by omega) (by first | exact hl4_0 | omega) (by omega) (by omega)  (hP.sub [0, 1] rfl) (hD.sub [0, 1] (by decide) rfl) hS (lv_sub hlv [0, 1, 2, 3] rfl)
      · refine lv_iconst (v := iI 1) hx hb dX12_peopleAt_31 (by decide) ?_
        refine lv_goto (tgt := 36) hx hb dX12_peopleAt_32 (by decide) ?_
        refine lv_iadd hx hb dX12_peopleAt_36 ?_
        refine lt_e (e0 := q2 + 1) (Int32.ofInt_add _ _).symm (fun z_7 hz_7 => ?_)
        refine lv_istore_n (lv' := [(2, vI z_7), (3, vI q3), (0, vR mm), (1, vI n)]) hx hb dX12_peopleAt_37 rfl hlv (by decide) rfl (fun ls hlv => ?_)
        obtain ⟨z_8, hz_8⟩ : ∃ z : Int, z = q3 + 1 := ⟨_, rfl⟩
        refine lv_iinc (v := iI z_8) (lv' := [(3, vI z_8), (2, vI z_7), (0, vR mm), (1, vI n)]) hx hb dX12_peopleAt_38 hlv (k := 1) rfl (by rw [hz_8]; exact (Int32.ofInt_add _ _).symm) (by decide) rfl (fun ls hlv => ?_)
        refine lv_goto (tgt := 4) hx hb dX12_peopleAt_41 (by decide) ?_
        exact ih4 z_7 z_8 H locs ls (by omega) (by omega) (by omega) (by omega)  (hP.sub [0, 1] rfl) (hD.sub [0, 1] (by decide) rfl) hS (lv_sub hlv [0, 1, 2, 3] rfl)
def vs_m_isSheltered : List Cond := .code yX12_isSheltered cX12_isSheltered 3 (some .boolean) :: (([.fieldLink RX12 23 "KerbSplashModel" "b" "[I"] : List Cond) ++ ((wsX120) ++ ((va_wsS RX12 279 yX12_within vs_m_within) ++ ([]))))
theorem gd_m_isSheltered : vs_m_isSheltered.all goodWord = true := gd_C (by decide +kernel) (gd_A (by decide +kernel) (gd_A (by decide +kernel) (gd_A (gd_S gd_m_within (by decide +kernel)) rfl)))
set_option maxHeartbeats 4000000 in
set_option maxRecDepth 100000 in
theorem m_isSheltered (l : Launch) (hl : l.stackTraces = false) (D : va_G) (cy : Nat → ClassId) (sa : Nat → Nat) (mm m1 m9 m10 m11 m12 m13 m14 m15 m19 m20 m21 m23 m24 m25 m26 m27 m28 m33 m35 : Nat) (th tp sz_ ap bad bk opn fp im nr nl sp_ wtc wcl ir ip shu sfa swr : Int) (f10 : Nat → Int32) (n : Int) (sz : Nat) (hr_th : (-2147483648) ≤ th ∧ th ≤ 2147483647) (hr_tp : 0 ≤ tp ∧ tp ≤ 600) (hr_sz_ : 0 ≤ sz_ ∧ sz_ ≤ 600) (hr_ap : 0 ≤ ap ∧ ap ≤ 602) (hr_bad : (-1) ≤ bad ∧ bad ≤ 602) (hr_bk : 0 ≤ bk ∧ bk ≤ 4) (hr_opn : 0 ≤ opn ∧ opn ≤ 7) (hr_fp : (-2147483648) ≤ fp ∧ fp ≤ 2147483647) (hr_im : 0 ≤ im ∧ im ≤ 3) (hr_nr : 0 ≤ nr ∧ nr ≤ 4) (hr_nl : 0 ≤ nl ∧ nl ≤ 4) (hr_sp_ : 0 ≤ sp_ ∧ sp_ ≤ 602) (hr_wtc : (-2147483648) ≤ wtc ∧ wtc ≤ 2147483647) (hr_wcl : 0 ≤ wcl ∧ wcl ≤ 95) (hr_ir : 0 ≤ ir ∧ ir ≤ 5) (hr_ip : (-2147483648) ≤ ip ∧ ip ≤ 2147483647) (hr_shu : (-2147483648) ≤ shu ∧ shu ≤ 2147483647) (hr_sfa : (-2147483648) ≤ sfa ∧ sfa ≤ 2147483647) (hr_swr : (-2147483648) ≤ swr ∧ swr ≤ 2147483647) (hr_n : (-2147483648) ≤ n ∧ n ≤ 2147483647) (hf10 : BI f10) : mI9 l yX12_isSheltered vs_m_isSheltered ({ frames := 1, cells := 0, slots := 0, locals := 22 }) D cy sa sz [vR mm, vI n] [zO mm 12 [vI th, vR m1, vI tp, vI sz_, vI ap, vI bad, vI bk, vI opn, vI fp, vR m9, vR m10, vR m11, vR m12, vR m13, vR m14, vR m15, vI im, vI nr, vI nl, vR m19, vR m20, vR m21, vI sp_, vR m23, vR m24, vR m25, vR m26, vR m27, vR m28, vI wtc, vI wcl, vI ir, vI ip, vR m33, vI shu, vR m35, vI sfa, vI swr], zI m10 (cy 0) 68 f10] (fun (r : Int32) (u : SV) => r = iI (u.2.1 0) ∧ (0 ≤ u.2.1 0 ∧ u.2.1 0 ≤ 1) ∧ BI f10) (fun u : SV => [zO mm 12 [vI th, vR m1, vI tp, vI sz_, vI ap, vI bad, vI bk, vI opn, vI fp, vR m9, vR m10, vR m11, vR m12, vR m13, vR m14, vR m15, vI im, vI nr, vI nl, vR m19, vR m20, vR m21, vI sp_, vR m23, vR m24, vR m25, vR m26, vR m27, vR m28, vI wtc, vI wcl, vI ir, vI ip, vR m33, vI shu, vR m35, vI sfa, vI swr], zI m10 (cy 0) 68 f10]) 0 0 := by
  refine Met.ofW (cc := cX12_isSheltered) (maxL := 3) (ret := (some .boolean)) (by decide) rfl ?_
  intro p e s m args below meth c s₁ B hml hv
  obtain ⟨rfl, hsz, hP, hG, hD0, hT⟩ := hv
  have hx := B.exec
  have hb := B.bytes
  have hr := B.returns
  have hts := atoms_spec (ws := vs_m_isSheltered) B.pre
  have hown : s.vm.findClass RX12 = some m.cls := findClass_of_methodNamed B.named
  have hlocks := B.notSynchronized
  subst hsz
  have hD := hD0.self (sz := s.heap.size)
  generalize hAe : va_A [zO mm 12 [vI th, vR m1, vI tp, vI sz_, vI ap, vI bad, vI bk, vI opn, vI fp, vR m9, vR m10, vR m11, vR m12, vR m13, vR m14, vR m15, vI im, vI nr, vI nl, vR m19, vR m20, vR m21, vI sp_, vR m23, vR m24, vR m25, vR m26, vR m27, vR m28, vI wtc, vI wcl, vI ir, vI ip, vR m33, vI shu, vR m35, vI sfa, vI swr], zI m10 (cy 0) 68 f10] s.heap.size = A at hD hT ⊢
  have hA : ∀ q : Nat, s.heap.size ≤ q → A q := fun q h => by rw [← hAe]; exact Or.inr h
  have hS : va_S A s.heap s.heap [] := va_S.rf
  have hl0 := lv_entry ([vR mm, vI n]) (n := 3) (Nat.le_of_ble_eq_true rfl)
  rw [lg_entry_eq]
  generalize (lg_sl ([vR mm, vI n]) ++ List.replicate (3 - (lg_sl ([vR mm, vI n])).length) Slot.unset).toArray = ls at hl0 ⊢
  have hlv : lv_has ls 3 [(0, vR mm), (1, vI n)] := hl0
  have lf23 := hts (.fieldLink RX12 23 "KerbSplashModel" "b" "[I") (List.mem_of_getElem? (i := 1) rfl)
  have hi12 : ∀ w ∈ wsX120, w ∈ vs_m_isSheltered := fun w h => List.mem_cons_of_mem _ (List.mem_append_right _ (List.mem_append_left _ h))
  have gg_1 : GoodIn vs_m_isSheltered (va_wsS RX12 279 yX12_within vs_m_within) := goodIn_sub (fun w h => List.mem_cons_of_mem _ (List.mem_append_right _ (List.mem_append_right _ (List.mem_append_left _ h)))) (gd_S gd_m_within (by decide +kernel))
  refine lv_iconst (v := iI 0) hx hb dX12_isSheltered_0 (by decide) ?_
  refine lv_istore_n (lv' := [(2, vI 0), (0, vR mm), (1, vI n)]) hx hb dX12_isSheltered_1 rfl hlv (by decide) rfl (fun ls hlv => ?_)
  refine (?_ : ∀ (fu : Nat) (q2 : Int) (H : Heap) (locs : List Loc) (ls : Array Slot), 2 - q2 < (fu : Int) → (0 ≤ q2 ∧ q2 ≤ 2) → va_P D vwCl [zO mm 12 [vI th, vR m1, vI tp, vI sz_, vI ap, vI bad, vI bk, vI opn, vI fp, vR m9, vR m10, vR m11, vR m12, vR m13, vR m14, vR m15, vI im, vI nr, vI nl, vR m19, vR m20, vR m21, vI sp_, vR m23, vR m24, vR m25, vR m26, vR m27, vR m28, vI wtc, vI wcl, vI ir, vI ip, vR m33, vI shu, vR m35, vI sfa, vI swr], zI m10 (cy 0) 68 f10] H → va_D A [zO mm 12 [vI th, vR m1, vI tp, vI sz_, vI ap, vI bad, vI bk, vI opn, vI fp, vR m9, vR m10, vR m11, vR m12, vR m13, vR m14, vR m15, vI im, vI nr, vI nl, vR m19, vR m20, vR m21, vI sp_, vR m23, vR m24, vR m25, vR m26, vR m27, vR m28, vI wtc, vI wcl, vI ir, vI ip, vR m33, vI shu, vR m35, vI sfa, vI swr], zI m10 (cy 0) 68 f10] → va_S A s.heap H locs → lv_has ls 3 [(2, vI q2), (0, vR mm), (1, vI n)] → W p l e _ s m _ below meth c H locs _ _ _ (F0 m 2 ls [])) (((2 - 0) + 1 : Int)).toNat 0 _ _ _ (by omega) (by show (0 : Int) ≤ 0 ∧ (0 : Int) ≤ 2; decide)  hP hD hS hlv
  clear hP hD hS hlv
  intro fu
  induction fu with
  | zero => intro q2 H locs ls hm2 hl2_0  hP hD hS hlv; omega
  | succ fu ih2 =>
    intro q2 H locs ls hm2 hl2_0  hP hD hS hlv
    refine lv_iload_n hx hb dX12_isSheltered_2 rfl (lv_at hlv 0 rfl) ?_
    refine lv_aload_n hx hb dX12_isSheltered_3 rfl (lv_at hlv 1 rfl) ?_
    refine va_get (D := D) (ci := 12) (v := vR m10) (C := RX12) (T := TX12) (N := 38) hx hb hts hi12 hown hG.1 hP 0 rfl rfl 10 (by decide) lf23 (fun _ h9 => h9) rfl dX12_isSheltered_4 ?_
    refine lv_iconst (v := iI 4) hx hb dX12_isSheltered_7 (by decide) ?_
    refine va_iald hx hb hG.1 hP 1 0 rfl rfl (iI_in (by omega) (by decide)) dX12_isSheltered_8 ?_
    refine lt_nz (i := 4) (by omega) (fun z_1 hz_1 lz_1 uz_1 => ?_)
    have hz_1 : z_1 = nz f10 4 := hz_1
    have hbz_1_7 := hf10.1.2.2.2.2.1
    refine ir_ge (tgt := 51) hx hb dX12_isSheltered_9 (by decide) (by first | exact rgw hl2_0 (by decide) (by decide) | omega) (by omega) (fun c_2 => ?_) (fun c_2 => ?_)
    · refine lv_iconst (v := iI 0) hx hb dX12_isSheltered_51 (by decide) ?_
      refine W.widen (k := 0) (n := 0) (Nat.le_of_ble_eq_true rfl) (Nat.le_of_ble_eq_true rfl) ?_
      exact W.zret (v := iI 0) hx hb hr (by first | rfl | decide) (fun t ht hW => ⟨⟨iI 0, ((fun k => ([] : List Nat).getD k 0), (fun k => ([0] : List Int).getD k 0), (fun k => ([] : List (Nat → Int32)).getD k (fun _ => 0))), rfl, ⟨rfl, (by show (0 ≤ 0 ∧ 0 ≤ 1); show (0 : Int) ≤ 0 ∧ (0 : Int) ≤ 1; decide), hf10⟩, at9 ht hP hD [0, 1] (by decide +kernel) rfl⟩, hS.F ht⟩) hS.2.2 dX12_isSheltered_52
    · refine lv_iload_n hx hb dX12_isSheltered_12 rfl (lv_at hlv 2 rfl) ?_
      refine lv_aload_n hx hb dX12_isSheltered_13 rfl (lv_at hlv 1 rfl) ?_
      refine va_get (D := D) (ci := 12) (v := vR m10) (C := RX12) (T := TX12) (N := 38) hx hb hts hi12 hown hG.1 hP 0 rfl rfl 10 (by decide) lf23 (fun _ h9 => h9) rfl dX12_isSheltered_14 ?_
      refine lv_bipush (v := iI 24) hx hb dX12_isSheltered_17 (by decide) ?_
      refine lv_iconst (v := iI 2) hx hb dX12_isSheltered_19 (by decide) ?_
      refine lv_iload_n hx hb dX12_isSheltered_20 rfl (lv_at hlv 0 rfl) ?_
      refine lv_imul hx hb dX12_isSheltered_21 ?_
      refine lt_e (e0 := 2 * q2) (Int32.ofInt_mul _ _).symm (fun z_3 hz_3 => ?_)
      refine lv_iadd hx hb dX12_isSheltered_22 ?_
      refine lt_e (e0 := 24 + z_3) (Int32.ofInt_add _ _).symm (fun z_4 hz_4 => ?_)
      refine va_iald hx hb hG.1 hP 1 0 rfl rfl (iI_in (by omega) (by decide)) dX12_isSheltered_23 ?_
      refine lt_nz (i := z_4) (by omega) (fun z_5 hz_5 lz_5 uz_5 => ?_)
      refine lv_aload_n hx hb dX12_isSheltered_24 rfl (lv_at hlv 1 rfl) ?_
      refine va_get (D := D) (ci := 12) (v := vR m10) (C := RX12) (T := TX12) (N := 38) hx hb hts hi12 hown hG.1 hP 0 rfl rfl 10 (by decide) lf23 (fun _ h9 => h9) rfl dX12_isSheltered_25 ?_
      refine lv_bipush (v := iI 24) hx hb dX12_isSheltered_28 (by decide) ?_
      refine lv_iconst (v := iI 2) hx hb dX12_isSheltered_30 (by decide) ?_
      refine lv_iload_n hx hb dX12_isSheltered_31 rfl (lv_at hlv 0 rfl) ?_
      refine lv_imul hx hb dX12_isSheltered_32 ?_
      refine lt_e (e0 := 2 * q2) (Int32.ofInt_mul _ _).symm (fun z_6 hz_6 => ?_)
      refine lv_iadd hx hb dX12_isSheltered_33 ?_
      refine lt_e (e0 := 24 + z_6) (Int32.ofInt_add _ _).symm (fun z_7 hz_7 => ?_)
      refine lv_iconst (v := iI 1) hx hb dX12_isSheltered_34 (by decide) ?_
      refine lv_iadd hx hb dX12_isSheltered_35 ?_
      refine lt_e (e0 := z_7 + 1) (Int32.ofInt_add _ _).symm (fun z_8 hz_8 => ?_)
      refine va_iald hx hb hG.1 hP 1 0 rfl rfl (iI_in (by omega) (by decide)) dX12_isSheltered_36 ?_
      refine lt_nz (i := z_8) (by omega) (fun z_9 hz_9 lz_9 uz_9 => ?_)
      refine cjr_i [true, true] (fun pre9 => (va_runS (As := [vI n, vI z_5, vI z_9]) (rest := []) ⟨hx, hb, hml, hown, hts⟩ (m_within l hl D cy sa n z_5 z_9 H.size (by first | exact hr_n | omega) (by omega) (by omega)) (va_cwS 3 hts gg_1 rfl rfl rfl (by decide +kernel) ⟨Nat.le_of_ble_eq_true rfl, Nat.le_of_ble_eq_true rfl⟩) ⟨pcW.blind, pre9⟩ rfl rfl hlv.1 rfl (lv_room (Nat.le_of_ble_eq_true rfl)) dX12_isSheltered_37 ⟨Nat.le_of_ble_eq_true rfl, Nat.le_of_ble_eq_true rfl⟩)) hP hD hS hA hG hT [] rfl (by decide +kernel) (fun r1 u1 H locs hw1 hq9 hS => ?_)
      obtain ⟨rfl, hq1_1, hq1_2, hq1_3⟩ := hw1
      obtain ⟨hP, hD⟩ := pd9 [zO mm 12 [vI th, vR m1, vI tp, vI sz_, vI ap, vI bad, vI bk, vI opn, vI fp, vR m9, vR m10, vR m11, vR m12, vR m13, vR m14, vR m15, vI im, vI nr, vI nl, vR m19, vR m20, vR m21, vI sp_, vR m23, vR m24, vR m25, vR m26, vR m27, vR m28, vI wtc, vI wcl, vI ir, vI ip, vR m33, vI shu, vR m35, vI sfa, vI swr], zI m10 (cy 0) 68 f10] hq9
      refine iz_eq (tgt := 45) hx hb dX12_isSheltered_40 (by decide) (by first | exact rgw hq1_1 (by decide) (by decide) | omega) (fun c_10 => ?_) (fun c_10 => ?_)
      · obtain ⟨z_11, hz_11⟩ : ∃ z : Int, z = q2 + 1 := ⟨_, rfl⟩
        refine lv_iinc (v := iI z_11) (lv' := [(2, vI z_11), (0, vR mm), (1, vI n)]) hx hb dX12_isSheltered_45 hlv (k := 0) rfl (by rw [hz_11]; exact (Int32.ofInt_add _ _).symm) (by decide) rfl (fun ls hlv => ?_)
        refine lv_goto (tgt := 2) hx hb dX12_isSheltered_48 (by decide) ?_
        exact ih2 z_11 H locs ls (by omega) (by omega)  (hP.sub [0, 1] rfl) (hD.sub [0, 1] (by decide) rfl) hS (lv_sub hlv [0, 1, 2] rfl)
      · refine lv_iconst (v := iI 1) hx hb dX12_isSheltered_43 (by decide) ?_
        refine W.widen (k := 0) (n := 0) (Nat.le_of_ble_eq_true rfl) (Nat.le_of_ble_eq_true rfl) ?_
        exact W.zret (v := iI 1) hx hb hr (by first | rfl | decide) (fun t ht hW => ⟨⟨iI 1, ((fun k => ([] : List Nat).getD k 0), (fun k => ([1] : List Int).getD k 0), (fun k => ([] : List (Nat → Int32)).getD k (fun _ => 0))), rfl, ⟨rfl, (by show (0 ≤ 1 ∧ 1 ≤ 1); show (0 : Int) ≤ 1 ∧ (1 : Int) ≤ 1; decide), hf10⟩, at9 ht hP hD [0, 1] (by decide +kernel) rfl⟩, hS.F ht⟩) hS.2.2 dX12_isSheltered_44
def vs_m_heldSum : List Cond := .code yX12_heldSum cX12_heldSum 5 (some .int) :: (([.fieldLink RX12 23 "KerbSplashModel" "b" "[I"] : List Cond) ++ ((wsX120) ++ ([])))
theorem gd_m_heldSum : vs_m_heldSum.all goodWord = true := gd_C (by decide +kernel) (gd_A (by decide +kernel) (gd_A (by decide +kernel) rfl))
set_option maxHeartbeats 4000000 in
set_option maxRecDepth 100000 in
theorem m_heldSum (l : Launch) (hl : l.stackTraces = false) (D : va_G) (cy : Nat → ClassId) (sa : Nat → Nat) (mm m1 m9 m10 m11 m12 m13 m14 m15 m19 m20 m21 m23 m24 m25 m26 m27 m28 m33 m35 : Nat) (th tp sz_ ap bad bk opn fp im nr nl sp_ wtc wcl ir ip shu sfa swr : Int) (f10 : Nat → Int32) (n k : Int) (sz : Nat) (hr_th : (-2147483648) ≤ th ∧ th ≤ 2147483647) (hr_tp : 0 ≤ tp ∧ tp ≤ 600) (hr_sz_ : 0 ≤ sz_ ∧ sz_ ≤ 600) (hr_ap : 0 ≤ ap ∧ ap ≤ 602) (hr_bad : (-1) ≤ bad ∧ bad ≤ 602) (hr_bk : 0 ≤ bk ∧ bk ≤ 4) (hr_opn : 0 ≤ opn ∧ opn ≤ 7) (hr_fp : (-2147483648) ≤ fp ∧ fp ≤ 2147483647) (hr_im : 0 ≤ im ∧ im ≤ 3) (hr_nr : 0 ≤ nr ∧ nr ≤ 4) (hr_nl : 0 ≤ nl ∧ nl ≤ 4) (hr_sp_ : 0 ≤ sp_ ∧ sp_ ≤ 602) (hr_wtc : (-2147483648) ≤ wtc ∧ wtc ≤ 2147483647) (hr_wcl : 0 ≤ wcl ∧ wcl ≤ 95) (hr_ir : 0 ≤ ir ∧ ir ≤ 5) (hr_ip : (-2147483648) ≤ ip ∧ ip ≤ 2147483647) (hr_shu : (-2147483648) ≤ shu ∧ shu ≤ 2147483647) (hr_sfa : (-2147483648) ≤ sfa ∧ sfa ≤ 2147483647) (hr_swr : (-2147483648) ≤ swr ∧ swr ≤ 2147483647) (hr_n : 0 ≤ n ∧ n ≤ 5) (hr_k : (-2147483648) ≤ k ∧ k ≤ 2147483647) (hp0 : 1 ≤ nz f10 1) (hf10 : BI f10) : mI9 l yX12_heldSum vs_m_heldSum ({ frames := 0, cells := 0, slots := 0, locals := 0 }) D cy sa sz [vR mm, vI n, vI k] [zO mm 12 [vI th, vR m1, vI tp, vI sz_, vI ap, vI bad, vI bk, vI opn, vI fp, vR m9, vR m10, vR m11, vR m12, vR m13, vR m14, vR m15, vI im, vI nr, vI nl, vR m19, vR m20, vR m21, vI sp_, vR m23, vR m24, vR m25, vR m26, vR m27, vR m28, vI wtc, vI wcl, vI ir, vI ip, vR m33, vI shu, vR m35, vI sfa, vI swr], zI m10 (cy 0) 68 f10] (fun (r : Int32) (u : SV) => r = iI (u.2.1 0) ∧ (0 ≤ u.2.1 0 ∧ u.2.1 0 ≤ 5) ∧ BI f10) (fun u : SV => [zO mm 12 [vI th, vR m1, vI tp, vI sz_, vI ap, vI bad, vI bk, vI opn, vI fp, vR m9, vR m10, vR m11, vR m12, vR m13, vR m14, vR m15, vI im, vI nr, vI nl, vR m19, vR m20, vR m21, vI sp_, vR m23, vR m24, vR m25, vR m26, vR m27, vR m28, vI wtc, vI wcl, vI ir, vI ip, vR m33, vI shu, vR m35, vI sfa, vI swr], zI m10 (cy 0) 68 f10]) 0 0 := by
  refine Met.ofW (cc := cX12_heldSum) (maxL := 5) (ret := (some .int)) (by decide) rfl ?_
  intro p e s m args below meth c s₁ B hml hv
  obtain ⟨rfl, hsz, hP, hG, hD0, hT⟩ := hv
  have hx := B.exec
  have hb := B.bytes
  have hr := B.returns
  have hts := atoms_spec (ws := vs_m_heldSum) B.pre
  have hown : s.vm.findClass RX12 = some m.cls := findClass_of_methodNamed B.named
  have hlocks := B.notSynchronized
  subst hsz
  have hD := hD0.self (sz := s.heap.size)
  generalize hAe : va_A [zO mm 12 [vI th, vR m1, vI tp, vI sz_, vI ap, vI bad, vI bk, vI opn, vI fp, vR m9, vR m10, vR m11, vR m12, vR m13, vR m14, vR m15, vI im, vI nr, vI nl, vR m19, vR m20, vR m21, vI sp_, vR m23, vR m24, vR m25, vR m26, vR m27, vR m28, vI wtc, vI wcl, vI ir, vI ip, vR m33, vI shu, vR m35, vI sfa, vI swr], zI m10 (cy 0) 68 f10] s.heap.size = A at hD hT ⊢
  have hA : ∀ q : Nat, s.heap.size ≤ q → A q := fun q h => by rw [← hAe]; exact Or.inr h
  have hS : va_S A s.heap s.heap [] := va_S.rf
  have hl0 := lv_entry ([vR mm, vI n, vI k]) (n := 5) (Nat.le_of_ble_eq_true rfl)
  rw [lg_entry_eq]
  generalize (lg_sl ([vR mm, vI n, vI k]) ++ List.replicate (5 - (lg_sl ([vR mm, vI n, vI k])).length) Slot.unset).toArray = ls at hl0 ⊢
  have hlv : lv_has ls 5 [(0, vR mm), (1, vI n), (2, vI k)] := hl0
  have lf23 := hts (.fieldLink RX12 23 "KerbSplashModel" "b" "[I") (List.mem_of_getElem? (i := 1) rfl)
  have hi12 : ∀ w ∈ wsX120, w ∈ vs_m_heldSum := fun w h => List.mem_cons_of_mem _ (List.mem_append_right _ (List.mem_append_left _ h))
  refine lv_iload_n hx hb dX12_heldSum_0 rfl (lv_at hlv 1 rfl) ?_
  refine lv_i2l (v := jJ n) hx hb dX12_heldSum_1 (jJ_i (by omega)) ?_
  refine lv_iload_n hx hb dX12_heldSum_2 rfl (lv_at hlv 2 rfl) ?_
  refine lv_i2l (v := jJ k) hx hb dX12_heldSum_3 (jJ_i (by omega)) ?_
  refine lv_ladd hx hb dX12_heldSum_4 ?_
  obtain ⟨z_1, hz_1⟩ : ∃ z : Int, z = n + k := ⟨_, rfl⟩
  refine lt_l (y := jJ z_1) (by rw [hz_1]; exact (Int64.ofInt_add _ _).symm) ?_
  refine lv_lstore_n (lv' := [(3, vJ z_1), (0, vR mm), (1, vI n), (2, vI k)]) hx hb dX12_heldSum_5 rfl hlv (by decide) rfl (fun ls hlv => ?_)
  refine lv_lload_n hx hb dX12_heldSum_6 rfl (lv_at hlv 0 rfl) ?_
  refine lv_lconst (v := jJ 0) hx hb dX12_heldSum_7 (by decide) ?_
  refine W.lcmp hx hb dX12_heldSum_8 ?_
  refine lt_lc (by omega) (by omega) (fun z_2 hz_2 => ?_)
  refine iz_ge (tgt := 16) hx hb dX12_heldSum_9 (by decide) (by omega) (fun c_3 => ?_) (fun c_3 => ?_)
  · refine lv_lload_n hx hb dX12_heldSum_16 rfl (lv_at hlv 0 rfl) ?_
    refine lv_aload_n hx hb dX12_heldSum_17 rfl (lv_at hlv 1 rfl) ?_
    refine va_get (D := D) (ci := 12) (v := vR m10) (C := RX12) (T := TX12) (N := 38) hx hb hts hi12 hown hG.1 hP 0 rfl rfl 10 (by decide) lf23 (fun _ h9 => h9) rfl dX12_heldSum_18 ?_
    refine lv_iconst (v := iI 1) hx hb dX12_heldSum_21 (by decide) ?_
    refine va_iald hx hb hG.1 hP 1 0 rfl rfl (iI_in (by omega) (by decide)) dX12_heldSum_22 ?_
    refine lt_nz (i := 1) (by omega) (fun z_4 hz_4 lz_4 uz_4 => ?_)
    have hz_4 : z_4 = nz f10 1 := hz_4
    have hbz_4_7 := hf10.1.2.1
    have hbz_4_8 := hf10.2.1
    have hbz_4_9 := hf10.2.2
    refine lv_i2l (v := jJ z_4) hx hb dX12_heldSum_23 (jJ_i (by omega)) ?_
    refine W.lcmp hx hb dX12_heldSum_24 ?_
    refine lt_lc (by omega) (by omega) (fun z_5 hz_5 => ?_)
    refine iz_lt (tgt := 39) hx hb dX12_heldSum_25 (by decide) (by omega) (fun c_6 => ?_) (fun c_6 => ?_)
    · refine lv_lload_n hx hb dX12_heldSum_39 rfl (lv_at hlv 0 rfl) ?_
      refine lv_l2i (v := iI z_1) hx hb dX12_heldSum_40 (jJ_l (by omega)) ?_
      refine W.widen (k := 0) (n := 0) (Nat.le_of_ble_eq_true rfl) (Nat.le_of_ble_eq_true rfl) ?_
      exact W.iret (v := iI z_1) hx hb hr (fun t ht hW => ⟨⟨iI z_1, ((fun k => ([] : List Nat).getD k 0), (fun k => ([z_1] : List Int).getD k 0), (fun k => ([] : List (Nat → Int32)).getD k (fun _ => 0))), rfl, ⟨rfl, (by show (0 ≤ z_1 ∧ z_1 ≤ 5); omega), hf10⟩, at9 ht hP hD [0, 1] (by decide +kernel) rfl⟩, hS.F ht⟩) hS.2.2 dX12_heldSum_41
    · refine lv_aload_n hx hb dX12_heldSum_28 rfl (lv_at hlv 1 rfl) ?_
      refine va_get (D := D) (ci := 12) (v := vR m10) (C := RX12) (T := TX12) (N := 38) hx hb hts hi12 hown hG.1 hP 0 rfl rfl 10 (by decide) lf23 (fun _ h9 => h9) rfl dX12_heldSum_29 ?_
      refine lv_iconst (v := iI 1) hx hb dX12_heldSum_32 (by decide) ?_
      refine va_iald hx hb hG.1 hP 1 0 rfl rfl (iI_in (by omega) (by decide)) dX12_heldSum_33 ?_
      refine lt_nz (i := 1) (by omega) (fun z_7 hz_7 lz_7 uz_7 => ?_)
      have hz_7 : z_7 = nz f10 1 := hz_7
      have hbz_7_6 := hf10.1.2.1
      have hbz_7_7 := hf10.2.1
      have hbz_7_8 := hf10.2.2
      refine lv_iconst (v := iI 1) hx hb dX12_heldSum_34 (by decide) ?_
      refine lv_isub hx hb dX12_heldSum_35 ?_
      refine lt_e (e0 := z_7 - 1) (Int32.ofInt_sub _ _).symm (fun z_8 hz_8 => ?_)
      refine lv_goto (tgt := 41) hx hb dX12_heldSum_36 (by decide) ?_
      refine W.widen (k := 0) (n := 0) (Nat.le_of_ble_eq_true rfl) (Nat.le_of_ble_eq_true rfl) ?_
      exact W.iret (v := iI z_8) hx hb hr (fun t ht hW => ⟨⟨iI z_8, ((fun k => ([] : List Nat).getD k 0), (fun k => ([z_8] : List Int).getD k 0), (fun k => ([] : List (Nat → Int32)).getD k (fun _ => 0))), rfl, ⟨rfl, (by show (0 ≤ z_8 ∧ z_8 ≤ 5); omega), hf10⟩, at9 ht hP hD [0, 1] (by decide +kernel) rfl⟩, hS.F ht⟩) hS.2.2 dX12_heldSum_41
  · refine lv_iconst (v := iI 0) hx hb dX12_heldSum_12 (by decide) ?_
    refine lv_goto (tgt := 41) hx hb dX12_heldSum_13 (by decide) ?_
    refine W.widen (k := 0) (n := 0) (Nat.le_of_ble_eq_true rfl) (Nat.le_of_ble_eq_true rfl) ?_
    exact W.iret (v := iI 0) hx hb hr (fun t ht hW => ⟨⟨iI 0, ((fun k => ([] : List Nat).getD k 0), (fun k => ([0] : List Int).getD k 0), (fun k => ([] : List (Nat → Int32)).getD k (fun _ => 0))), rfl, ⟨rfl, (by show (0 ≤ 0 ∧ 0 ≤ 5); show (0 : Int) ≤ 0 ∧ (0 : Int) ≤ 5; decide), hf10⟩, at9 ht hP hD [0, 1] (by decide +kernel) rfl⟩, hS.F ht⟩) hS.2.2 dX12_heldSum_41
def vs_m_isCar : List Cond := .code yX12_isCar cX12_isCar 5 (some .boolean) :: (([.fieldLink RX12 23 "KerbSplashModel" "b" "[I"] : List Cond) ++ ((wsX120) ++ ((va_wsS RX12 279 yX12_within vs_m_within) ++ ([]))))
theorem gd_m_isCar : vs_m_isCar.all goodWord = true := gd_C (by decide +kernel) (gd_A (by decide +kernel) (gd_A (by decide +kernel) (gd_A (gd_S gd_m_within (by decide +kernel)) rfl)))
set_option maxHeartbeats 4000000 in
set_option maxRecDepth 100000 in
theorem m_isCar (l : Launch) (hl : l.stackTraces = false) (D : va_G) (cy : Nat → ClassId) (sa : Nat → Nat) (mm m1 m9 m10 m11 m12 m13 m14 m15 m19 m20 m21 m23 m24 m25 m26 m27 m28 m33 m35 : Nat) (th tp sz_ ap bad bk opn fp im nr nl sp_ wtc wcl ir ip shu sfa swr : Int) (f10 : Nat → Int32) (p1 p2 p3 p4 : Int) (sz : Nat) (hr_th : (-2147483648) ≤ th ∧ th ≤ 2147483647) (hr_tp : 0 ≤ tp ∧ tp ≤ 600) (hr_sz_ : 0 ≤ sz_ ∧ sz_ ≤ 600) (hr_ap : 0 ≤ ap ∧ ap ≤ 602) (hr_bad : (-1) ≤ bad ∧ bad ≤ 602) (hr_bk : 0 ≤ bk ∧ bk ≤ 4) (hr_opn : 0 ≤ opn ∧ opn ≤ 7) (hr_fp : (-2147483648) ≤ fp ∧ fp ≤ 2147483647) (hr_im : 0 ≤ im ∧ im ≤ 3) (hr_nr : 0 ≤ nr ∧ nr ≤ 4) (hr_nl : 0 ≤ nl ∧ nl ≤ 4) (hr_sp_ : 0 ≤ sp_ ∧ sp_ ≤ 602) (hr_wtc : (-2147483648) ≤ wtc ∧ wtc ≤ 2147483647) (hr_wcl : 0 ≤ wcl ∧ wcl ≤ 95) (hr_ir : 0 ≤ ir ∧ ir ≤ 5) (hr_ip : (-2147483648) ≤ ip ∧ ip ≤ 2147483647) (hr_shu : (-2147483648) ≤ shu ∧ shu ≤ 2147483647) (hr_sfa : (-2147483648) ≤ sfa ∧ sfa ≤ 2147483647) (hr_swr : (-2147483648) ≤ swr ∧ swr ≤ 2147483647) (hr_p1 : (-2147483648) ≤ p1 ∧ p1 ≤ 2147483647) (hr_p2 : (-2147483648) ≤ p2 ∧ p2 ≤ 2147483647) (hr_p3 : (-2147483648) ≤ p3 ∧ p3 ≤ 2147483647) (hr_p4 : (-2147483648) ≤ p4 ∧ p4 ≤ 2147483647) (hf10 : BI f10) : mI9 l yX12_isCar vs_m_isCar ({ frames := 1, cells := 0, slots := 0, locals := 22 }) D cy sa sz [vR mm, vI p1, vI p2, vI p3, vI p4] [zO mm 12 [vI th, vR m1, vI tp, vI sz_, vI ap, vI bad, vI bk, vI opn, vI fp, vR m9, vR m10, vR m11, vR m12, vR m13, vR m14, vR m15, vI im, vI nr, vI nl, vR m19, vR m20, vR m21, vI sp_, vR m23, vR m24, vR m25, vR m26, vR m27, vR m28, vI wtc, vI wcl, vI ir, vI ip, vR m33, vI shu, vR m35, vI sfa, vI swr], zI m10 (cy 0) 68 f10] (fun (r : Int32) (u : SV) => r = iI (u.2.1 0) ∧ (0 ≤ u.2.1 0 ∧ u.2.1 0 ≤ 1) ∧ (u.2.1 0 = 1 → 0 ≤ p1 ∧ p1 < nz f10 1 ∧ p1 ≤ 5) ∧ BI f10) (fun u : SV => [zO mm 12 [vI th, vR m1, vI tp, vI sz_, vI ap, vI bad, vI bk, vI opn, vI fp, vR m9, vR m10, vR m11, vR m12, vR m13, vR m14, vR m15, vI im, vI nr, vI nl, vR m19, vR m20, vR m21, vI sp_, vR m23, vR m24, vR m25, vR m26, vR m27, vR m28, vI wtc, vI wcl, vI ir, vI ip, vR m33, vI shu, vR m35, vI sfa, vI swr], zI m10 (cy 0) 68 f10]) 0 0 := by
  refine Met.ofW (cc := cX12_isCar) (maxL := 5) (ret := (some .boolean)) (by decide) rfl ?_
  intro p e s m args below meth c s₁ B hml hv
  obtain ⟨rfl, hsz, hP, hG, hD0, hT⟩ := hv
  have hx := B.exec
  have hb := B.bytes
  have hr := B.returns
  have hts := atoms_spec (ws := vs_m_isCar) B.pre
  have hown : s.vm.findClass RX12 = some m.cls := findClass_of_methodNamed B.named
  have hlocks := B.notSynchronized
  subst hsz
  have hD := hD0.self (sz := s.heap.size)
  generalize hAe : va_A [zO mm 12 [vI th, vR m1, vI tp, vI sz_, vI ap, vI bad, vI bk, vI opn, vI fp, vR m9, vR m10, vR m11, vR m12, vR m13, vR m14, vR m15, vI im, vI nr, vI nl, vR m19, vR m20, vR m21, vI sp_, vR m23, vR m24, vR m25, vR m26, vR m27, vR m28, vI wtc, vI wcl, vI ir, vI ip, vR m33, vI shu, vR m35, vI sfa, vI swr], zI m10 (cy 0) 68 f10] s.heap.size = A at hD hT ⊢
  have hA : ∀ q : Nat, s.heap.size ≤ q → A q := fun q h => by rw [← hAe]; exact Or.inr h
  have hS : va_S A s.heap s.heap [] := va_S.rf
  have hl0 := lv_entry ([vR mm, vI p1, vI p2, vI p3, vI p4]) (n := 5) (Nat.le_of_ble_eq_true rfl)
  rw [lg_entry_eq]
  generalize (lg_sl ([vR mm, vI p1, vI p2, vI p3, vI p4]) ++ List.replicate (5 - (lg_sl ([vR mm, vI p1, vI p2, vI p3, vI p4])).length) Slot.unset).toArray = ls at hl0 ⊢
  have hlv : lv_has ls 5 [(0, vR mm), (1, vI p1), (2, vI p2), (3, vI p3), (4, vI p4)] := hl0
  have lf23 := hts (.fieldLink RX12 23 "KerbSplashModel" "b" "[I") (List.mem_of_getElem? (i := 1) rfl)
  have hi12 : ∀ w ∈ wsX120, w ∈ vs_m_isCar := fun w h => List.mem_cons_of_mem _ (List.mem_append_right _ (List.mem_append_left _ h))
  have gg_1 : GoodIn vs_m_isCar (va_wsS RX12 279 yX12_within vs_m_within) := goodIn_sub (fun w h => List.mem_cons_of_mem _ (List.mem_append_right _ (List.mem_append_right _ (List.mem_append_left _ h)))) (gd_S gd_m_within (by decide +kernel))
  refine lv_iload_n hx hb dX12_isCar_0 rfl (lv_at hlv 1 rfl) ?_
  refine lv_iconst (v := iI 0) hx hb dX12_isCar_1 (by decide) ?_
  refine lv_aload_n hx hb dX12_isCar_2 rfl (lv_at hlv 0 rfl) ?_
  refine va_get (D := D) (ci := 12) (v := vR m10) (C := RX12) (T := TX12) (N := 38) hx hb hts hi12 hown hG.1 hP 0 rfl rfl 10 (by decide) lf23 (fun _ h9 => h9) rfl dX12_isCar_3 ?_
  refine lv_iconst (v := iI 1) hx hb dX12_isCar_6 (by decide) ?_
  refine va_iald hx hb hG.1 hP 1 0 rfl rfl (iI_in (by omega) (by decide)) dX12_isCar_7 ?_
  refine lt_nz (i := 1) (by omega) (fun z_1 hz_1 lz_1 uz_1 => ?_)
  have hz_1 : z_1 = nz f10 1 := hz_1
  have hbz_1_8 := hf10.1.2.1
  have hbz_1_9 := hf10.2.1
  have hbz_1_10 := hf10.2.2
  refine lv_iconst (v := iI 1) hx hb dX12_isCar_8 (by decide) ?_
  refine lv_isub hx hb dX12_isCar_9 ?_
  refine lt_e (e0 := z_1 - 1) (Int32.ofInt_sub _ _).symm (fun z_2 hz_2 => ?_)
  refine cjr_i [true, true] (fun pre9 => (va_runS (As := [vI p1, vI 0, vI z_2]) (rest := []) ⟨hx, hb, hml, hown, hts⟩ (m_within l hl D cy sa p1 0 z_2 s.heap.size (by first | exact hr_p1 | omega) (by show ((-2147483648) : Int) ≤ 0 ∧ (0 : Int) ≤ 2147483647; decide) (by omega)) (va_cwS 3 hts gg_1 rfl rfl rfl (by decide +kernel) ⟨Nat.le_of_ble_eq_true rfl, Nat.le_of_ble_eq_true rfl⟩) ⟨pcW.blind, pre9⟩ rfl rfl hlv.1 rfl (lv_room (Nat.le_of_ble_eq_true rfl)) dX12_isCar_10 ⟨Nat.le_of_ble_eq_true rfl, Nat.le_of_ble_eq_true rfl⟩)) hP hD hS hA hG hT [] rfl (by decide +kernel) (fun r1 u1 H locs hw1 hq9 hS => ?_)
  obtain ⟨rfl, hq1_1, hq1_2, hq1_3⟩ := hw1
  obtain ⟨hP, hD⟩ := pd9 [zO mm 12 [vI th, vR m1, vI tp, vI sz_, vI ap, vI bad, vI bk, vI opn, vI fp, vR m9, vR m10, vR m11, vR m12, vR m13, vR m14, vR m15, vI im, vI nr, vI nl, vR m19, vR m20, vR m21, vI sp_, vR m23, vR m24, vR m25, vR m26, vR m27, vR m28, vI wtc, vI wcl, vI ir, vI ip, vR m33, vI shu, vR m35, vI sfa, vI swr], zI m10 (cy 0) 68 f10] hq9
  refine iz_eq (tgt := 50) hx hb dX12_isCar_13 (by decide) (by first | exact rgw hq1_1 (by decide) (by decide) | omega) (fun c_3 => ?_) (fun c_3 => ?_)
  · refine lv_iconst (v := iI 0) hx hb dX12_isCar_50 (by decide) ?_
    refine W.widen (k := 0) (n := 0) (Nat.le_of_ble_eq_true rfl) (Nat.le_of_ble_eq_true rfl) ?_
    exact W.zret (v := iI 0) hx hb hr (by first | rfl | decide) (fun t ht hW => ⟨⟨iI 0, ((fun k => ([] : List Nat).getD k 0), (fun k => ([0] : List Int).getD k 0), (fun k => ([] : List (Nat → Int32)).getD k (fun _ => 0))), rfl, ⟨rfl, (by show (0 ≤ 0 ∧ 0 ≤ 1); show (0 : Int) ≤ 0 ∧ (0 : Int) ≤ 1; decide), (by show (0 = 1 → 0 ≤ p1 ∧ p1 < nz f10 1 ∧ p1 ≤ 5); omega), hf10⟩, at9 ht hP hD [0, 1] (by decide +kernel) rfl⟩, hS.F ht⟩) hS.2.2 dX12_isCar_51
  · refine lv_iload_n hx hb dX12_isCar_16 rfl (lv_at hlv 2 rfl) ?_
    refine lv_iconst (v := iI 1) hx hb dX12_isCar_17 (by decide) ?_
    refine lv_bipush (v := iI 60) hx hb dX12_isCar_18 (by decide) ?_
    refine cjr_i [true, true] (fun pre9 => (va_runS (As := [vI p2, vI 1, vI 60]) (rest := []) ⟨hx, hb, hml, hown, hts⟩ (m_within l hl D cy sa p2 1 60 H.size (by first | exact hr_p2 | omega) (by show ((-2147483648) : Int) ≤ 1 ∧ (1 : Int) ≤ 2147483647; decide) (by show ((-2147483648) : Int) ≤ 60 ∧ (60 : Int) ≤ 2147483647; decide)) (va_cwS 3 hts gg_1 rfl rfl rfl (by decide +kernel) ⟨Nat.le_of_ble_eq_true rfl, Nat.le_of_ble_eq_true rfl⟩) ⟨pcW.blind, pre9⟩ rfl rfl hlv.1 rfl (lv_room (Nat.le_of_ble_eq_true rfl)) dX12_isCar_20 ⟨Nat.le_of_ble_eq_true rfl, Nat.le_of_ble_eq_true rfl⟩)) hP hD hS hA hG hT [] rfl (by decide +kernel) (fun r2 u2 H locs hw2 hq9 hS => ?_)
    obtain ⟨rfl, hq2_1, hq2_2, hq2_3⟩ := hw2
    obtain ⟨hP, hD⟩ := pd9 [zO mm 12 [vI th, vR m1, vI tp, vI sz_, vI ap, vI bad, vI bk, vI opn, vI fp, vR m9, vR m10, vR m11, vR m12, vR m13, vR m14, vR m15, vI im, vI nr, vI nl, vR m19, vR m20, vR m21, vI sp_, vR m23, vR m24, vR m25, vR m26, vR m27, vR m28, vI wtc, vI wcl, vI ir, vI ip, vR m33, vI shu, vR m35, vI sfa, vI swr], zI m10 (cy 0) 68 f10] hq9
    refine iz_eq (tgt := 50) hx hb dX12_isCar_23 (by decide) (by first | exact rgw hq2_1 (by decide) (by decide) | omega) (fun c_4 => ?_) (fun c_4 => ?_)
    · refine lv_iconst (v := iI 0) hx hb dX12_isCar_50 (by decide) ?_
      refine W.widen (k := 0) (n := 0) (Nat.le_of_ble_eq_true rfl) (Nat.le_of_ble_eq_true rfl) ?_
      exact W.zret (v := iI 0) hx hb hr (by first | rfl | decide) (fun t ht hW => ⟨⟨iI 0, ((fun k => ([] : List Nat).getD k 0), (fun k => ([0] : List Int).getD k 0), (fun k => ([] : List (Nat → Int32)).getD k (fun _ => 0))), rfl, ⟨rfl, (by show (0 ≤ 0 ∧ 0 ≤ 1); show (0 : Int) ≤ 0 ∧ (0 : Int) ≤ 1; decide), (by show (0 = 1 → 0 ≤ p1 ∧ p1 < nz f10 1 ∧ p1 ≤ 5); omega), hf10⟩, at9 ht hP hD [0, 1] (by decide +kernel) rfl⟩, hS.F ht⟩) hS.2.2 dX12_isCar_51
    · refine lv_iload_n hx hb dX12_isCar_26 rfl (lv_at hlv 3 rfl) ?_
      refine lv_iconst (v := iI 1) hx hb dX12_isCar_27 (by decide) ?_
      refine lv_bipush (v := iI 9) hx hb dX12_isCar_28 (by decide) ?_
      refine cjr_i [true, true] (fun pre9 => (va_runS (As := [vI p3, vI 1, vI 9]) (rest := []) ⟨hx, hb, hml, hown, hts⟩ (m_within l hl D cy sa p3 1 9 H.size (by first | exact hr_p3 | omega) (by show ((-2147483648) : Int) ≤ 1 ∧ (1 : Int) ≤ 2147483647; decide) (by show ((-2147483648) : Int) ≤ 9 ∧ (9 : Int) ≤ 2147483647; decide)) (va_cwS 3 hts gg_1 rfl rfl rfl (by decide +kernel) ⟨Nat.le_of_ble_eq_true rfl, Nat.le_of_ble_eq_true rfl⟩) ⟨pcW.blind, pre9⟩ rfl rfl hlv.1 rfl (lv_room (Nat.le_of_ble_eq_true rfl)) dX12_isCar_30 ⟨Nat.le_of_ble_eq_true rfl, Nat.le_of_ble_eq_true rfl⟩)) hP hD hS hA hG hT [] rfl (by decide +kernel) (fun r3 u3 H locs hw3 hq9 hS => ?_)
      obtain ⟨rfl, hq3_1, hq3_2, hq3_3⟩ := hw3
      obtain ⟨hP, hD⟩ := pd9 [zO mm 12 [vI th, vR m1, vI tp, vI sz_, vI ap, vI bad, vI bk, vI opn, vI fp, vR m9, vR m10, vR m11, vR m12, vR m13, vR m14, vR m15, vI im, vI nr, vI nl, vR m19, vR m20, vR m21, vI sp_, vR m23, vR m24, vR m25, vR m26, vR m27, vR m28, vI wtc, vI wcl, vI ir, vI ip, vR m33, vI shu, vR m35, vI sfa, vI swr], zI m10 (cy 0) 68 f10] hq9
      refine iz_eq (tgt := 50) hx hb dX12_isCar_33 (by decide) (by first | exact rgw hq3_1 (by decide) (by decide) | omega) (fun c_5 => ?_) (fun c_5 => ?_)
      · refine lv_iconst (v := iI 0) hx hb dX12_isCar_50 (by decide) ?_
        refine W.widen (k := 0) (n := 0) (Nat.le_of_ble_eq_true rfl) (Nat.le_of_ble_eq_true rfl) ?_
        exact W.zret (v := iI 0) hx hb hr (by first | rfl | decide) (fun t ht hW => ⟨⟨iI 0, ((fun k => ([] : List Nat).getD k 0), (fun k => ([0] : List Int).getD k 0), (fun k => ([] : List (Nat → Int32)).getD k (fun _ => 0))), rfl, ⟨rfl, (by show (0 ≤ 0 ∧ 0 ≤ 1); show (0 : Int) ≤ 0 ∧ (0 : Int) ≤ 1; decide), (by show (0 = 1 → 0 ≤ p1 ∧ p1 < nz f10 1 ∧ p1 ≤ 5); omega), hf10⟩, at9 ht hP hD [0, 1] (by decide +kernel) rfl⟩, hS.F ht⟩) hS.2.2 dX12_isCar_51
      · refine lv_iload hx hb dX12_isCar_36 (lv_at hlv 4 rfl) ?_
        refine lv_iconst (v := iI 0) hx hb dX12_isCar_38 (by decide) ?_
        refine lv_iconst (v := iI 3) hx hb dX12_isCar_39 (by decide) ?_
        refine cjr_i [true, true] (fun pre9 => (va_runS (As := [vI p4, vI 0, vI 3]) (rest := []) ⟨hx, hb, hml, hown, hts⟩ (m_within l hl D cy sa p4 0 3 H.size (by first | exact hr_p4 | omega) (by show ((-2147483648) : Int) ≤ 0 ∧ (0 : Int) ≤ 2147483647; decide) (by show ((-2147483648) : Int) ≤ 3 ∧ (3 : Int) ≤ 2147483647; decide)) (va_cwS 3 hts gg_1 rfl rfl rfl (by decide +kernel) ⟨Nat.le_of_ble_eq_true rfl, Nat.le_of_ble_eq_true rfl⟩) ⟨pcW.blind, pre9⟩ rfl rfl hlv.1 rfl (lv_room (Nat.le_of_ble_eq_true rfl)) dX12_isCar_40 ⟨Nat.le_of_ble_eq_true rfl, Nat.le_of_ble_eq_true rfl⟩)) hP hD hS hA hG hT [] rfl (by decide +kernel) (fun r4 u4 H locs hw4 hq9 hS => ?_)
        obtain ⟨rfl, hq4_1, hq4_2, hq4_3⟩ := hw4
        obtain ⟨hP, hD⟩ := pd9 [zO mm 12 [vI th, vR m1, vI tp, vI sz_, vI ap, vI bad, vI bk, vI opn, vI fp, vR m9, vR m10, vR m11, vR m12, vR m13, vR m14, vR m15, vI im, vI nr, vI nl, vR m19, vR m20, vR m21, vI sp_, vR m23, vR m24, vR m25, vR m26, vR m27, vR m28, vI wtc, vI wcl, vI ir, vI ip, vR m33, vI shu, vR m35, vI sfa, vI swr], zI m10 (cy 0) 68 f10] hq9
        refine iz_eq (tgt := 50) hx hb dX12_isCar_43 (by decide) (by first | exact rgw hq4_1 (by decide) (by decide) | omega) (fun c_6 => ?_) (fun c_6 => ?_)
        · refine lv_iconst (v := iI 0) hx hb dX12_isCar_50 (by decide) ?_
          refine W.widen (k := 0) (n := 0) (Nat.le_of_ble_eq_true rfl) (Nat.le_of_ble_eq_true rfl) ?_
          exact W.zret (v := iI 0) hx hb hr (by first | rfl | decide) (fun t ht hW => ⟨⟨iI 0, ((fun k => ([] : List Nat).getD k 0), (fun k => ([0] : List Int).getD k 0), (fun k => ([] : List (Nat → Int32)).getD k (fun _ => 0))), rfl, ⟨rfl, (by show (0 ≤ 0 ∧ 0 ≤ 1); show (0 : Int) ≤ 0 ∧ (0 : Int) ≤ 1; decide), (by show (0 = 1 → 0 ≤ p1 ∧ p1 < nz f10 1 ∧ p1 ≤ 5); omega), hf10⟩, at9 ht hP hD [0, 1] (by decide +kernel) rfl⟩, hS.F ht⟩) hS.2.2 dX12_isCar_51
        · refine lv_iconst (v := iI 1) hx hb dX12_isCar_46 (by decide) ?_
          refine lv_goto (tgt := 51) hx hb dX12_isCar_47 (by decide) ?_
          refine W.widen (k := 0) (n := 0) (Nat.le_of_ble_eq_true rfl) (Nat.le_of_ble_eq_true rfl) ?_
          exact W.zret (v := iI 1) hx hb hr (by first | rfl | decide) (fun t ht hW => ⟨⟨iI 1, ((fun k => ([] : List Nat).getD k 0), (fun k => ([1] : List Int).getD k 0), (fun k => ([] : List (Nat → Int32)).getD k (fun _ => 0))), rfl, ⟨rfl, (by show (0 ≤ 1 ∧ 1 ≤ 1); show (0 : Int) ≤ 1 ∧ (1 : Int) ≤ 1; decide), (by show (1 = 1 → 0 ≤ p1 ∧ p1 < nz f10 1 ∧ p1 ≤ 5); omega), hf10⟩, at9 ht hP hD [0, 1] (by decide +kernel) rfl⟩, hS.F ht⟩) hS.2.2 dX12_isCar_51
def vs_m_drives : List Cond := .code yX12_drives cX12_drives 7 none :: (([.fieldLink RX12 344 "KerbSplashModel" "itsRow" "I", .fieldLink RX12 353 "KerbSplashModel" "itsPace" "I", .fieldLink RX12 29 "KerbSplashModel" "s" "[I"] : List Cond) ++ ((wsX120) ++ ((va_wsS RX12 289 yX12_at vs_m_at) ++ ((wsV RX12 347 RX12 yX12_peopleAt vs_m_peopleAt) ++ ((wsV RX12 337 RX12 yX12_name vs_m_name) ++ ((wsV RX12 341 RX12 yX12_worked vs_m_worked) ++ ((va_wsS RX12 356 yX12_held vs_m_held) ++ ((wsV RX12 350 RX12 yX12_heldSum vs_m_heldSum) ++ ([])))))))))
theorem gd_m_drives : vs_m_drives.all goodWord = true := gd_C (by decide +kernel) (gd_A (by decide +kernel) (gd_A (by decide +kernel) (gd_A (gd_S gd_m_at (by decide +kernel)) (gd_A (gd_V gd_m_peopleAt (by decide +kernel)) (gd_A (gd_V gd_m_name (by decide +kernel)) (gd_A (gd_V gd_m_worked (by decide +kernel)) (gd_A (gd_S gd_m_held (by decide +kernel)) (gd_A (gd_V gd_m_heldSum (by decide +kernel)) rfl))))))))
set_option maxHeartbeats 4000000 in
set_option maxRecDepth 100000 in
theorem m_drives (l : Launch) (hl : l.stackTraces = false) (D : va_G) (cy : Nat → ClassId) (sa : Nat → Nat) (mm m1 m9 m10 m11 m12 m13 m14 m15 m19 m20 m21 m23 m24 m25 m26 m27 m28 m33 m35 : Nat) (th tp sz_ ap bad bk opn fp im nr nl sp_ wtc wcl ir ip shu sfa swr : Int) (f10 f12 f23 f24 f25 f26 f27 f28 : Nat → Int32) (n x p1 p2 p3 p4 : Int) (pm : Int) (sz : Nat) (hr_th : (-2147483648) ≤ th ∧ th ≤ 2147483647) (hr_tp : 0 ≤ tp ∧ tp ≤ 600) (hr_sz_ : 0 ≤ sz_ ∧ sz_ ≤ 600) (hr_ap : 0 ≤ ap ∧ ap ≤ 602) (hr_bad : (-1) ≤ bad ∧ bad ≤ 602) (hr_bk : 0 ≤ bk ∧ bk ≤ 4) (hr_opn : 0 ≤ opn ∧ opn ≤ 7) (hr_fp : (-2147483648) ≤ fp ∧ fp ≤ 2147483647) (hr_im : 0 ≤ im ∧ im ≤ 3) (hr_nr : 0 ≤ nr ∧ nr ≤ 4) (hr_nl : 0 ≤ nl ∧ nl ≤ 4) (hr_sp_ : 0 ≤ sp_ ∧ sp_ ≤ 602) (hr_wtc : (-2147483648) ≤ wtc ∧ wtc ≤ 2147483647) (hr_wcl : 0 ≤ wcl ∧ wcl ≤ 95) (hr_ir : 0 ≤ ir ∧ ir ≤ 5) (hr_ip : (-2147483648) ≤ ip ∧ ip ≤ 2147483647) (hr_shu : (-2147483648) ≤ shu ∧ shu ≤ 2147483647) (hr_sfa : (-2147483648) ≤ sfa ∧ sfa ≤ 2147483647) (hr_swr : (-2147483648) ≤ swr ∧ swr ≤ 2147483647) (hr_n : 0 ≤ n ∧ n ≤ 3) (hr_x : 0 ≤ x ∧ x ≤ 15) (hr_p1 : 0 ≤ p1 ∧ p1 ≤ 5) (hr_p2 : (-2147483648) ≤ p2 ∧ p2 ≤ 2147483647) (hr_p3 : (-2147483648) ≤ p3 ∧ p3 ≤ 2147483647) (hr_p4 : (-2147483648) ≤ p4 ∧ p4 ≤ 2147483647) (hr_pm : 8 ≤ pm ∧ pm ≤ 9) (hp0 : 1 ≤ nz f10 1) (hp1 : n < nl) (hn_li : LI nl f23 f24 f25 f26) (hf10 : BI f10) (hf12 : SI pm f12) : mV9 l yX12_drives vs_m_drives ({ frames := 1, cells := 0, slots := 0, locals := 27 }) D cy sa sz [vR mm, vI n, vI x, vI p1, vI p2, vI p3, vI p4] [zO mm 12 [vI th, vR m1, vI tp, vI sz_, vI ap, vI bad, vI bk, vI opn, vI fp, vR m9, vR m10, vR m11, vR m12, vR m13, vR m14, vR m15, vI im, vI nr, vI nl, vR m19, vR m20, vR m21, vI sp_, vR m23, vR m24, vR m25, vR m26, vR m27, vR m28, vI wtc, vI wcl, vI ir, vI ip, vR m33, vI shu, vR m35, vI sfa, vI swr], zI m10 (cy 0) 68 f10, zI m12 (cy 0) 389 f12, zI m23 (cy 0) 2480 f23, zI m24 (cy 0) 2480 f24, zI m25 (cy 0) 20 f25, zI m26 (cy 0) 20 f26, zI m27 (cy 0) 620 f27, zI m28 (cy 0) 7 f28] (fun u : SV => (0 ≤ u.2.1 0 ∧ u.2.1 0 ≤ 5) ∧ ((-2147483648) ≤ u.2.1 1 ∧ u.2.1 1 ≤ 2147483647) ∧ BI f10 ∧ SI pm f12) (fun u : SV => [zO mm 12 [vI th, vR m1, vI tp, vI sz_, vI ap, vI bad, vI bk, vI opn, vI fp, vR m9, vR m10, vR m11, vR m12, vR m13, vR m14, vR m15, vI im, vI nr, vI nl, vR m19, vR m20, vR m21, vI sp_, vR m23, vR m24, vR m25, vR m26, vR m27, vR m28, vI wtc, vI wcl, vI (u.2.1 0), vI (u.2.1 1), vR m33, vI shu, vR m35, vI sfa, vI swr], zI m10 (cy 0) 68 f10, zI m12 (cy 0) 389 f12, zI m23 (cy 0) 2480 f23, zI m24 (cy 0) 2480 f24, zI m25 (cy 0) 20 f25, zI m26 (cy 0) 20 f26, zI m27 (cy 0) 620 (u.2.2 0), zI m28 (cy 0) 7 (u.2.2 1)]) 0 0 := by
  refine Met.ofW (cc := cX12_drives) (maxL := 7) (ret := none) (by decide) rfl ?_
  intro p e s m args below meth c s₁ B hml hv
  obtain ⟨rfl, hsz, hP, hG, hD0, hT⟩ := hv
  have hx := B.exec
  have hb := B.bytes
  have hr := B.returns
  have hts := atoms_spec (ws := vs_m_drives) B.pre
  have hown : s.vm.findClass RX12 = some m.cls := findClass_of_methodNamed B.named
  have hlocks := B.notSynchronized
  subst hsz
  have hD := hD0.self (sz := s.heap.size)
  generalize hAe : va_A [zO mm 12 [vI th, vR m1, vI tp, vI sz_, vI ap, vI bad, vI bk, vI opn, vI fp, vR m9, vR m10, vR m11, vR m12, vR m13, vR m14, vR m15, vI im, vI nr, vI nl, vR m19, vR m20, vR m21, vI sp_, vR m23, vR m24, vR m25, vR m26, vR m27, vR m28, vI wtc, vI wcl, vI ir, vI ip, vR m33, vI shu, vR m35, vI sfa, vI swr], zI m10 (cy 0) 68 f10, zI m12 (cy 0) 389 f12, zI m23 (cy 0) 2480 f23, zI m24 (cy 0) 2480 f24, zI m25 (cy 0) 20 f25, zI m26 (cy 0) 20 f26, zI m27 (cy 0) 620 f27, zI m28 (cy 0) 7 f28] s.heap.size = A at hD hT ⊢
  have hA : ∀ q : Nat, s.heap.size ≤ q → A q := fun q h => by rw [← hAe]; exact Or.inr h
  have hS : va_S A s.heap s.heap [] := va_S.rf
  have hl0 := lv_entry ([vR mm, vI n, vI x, vI p1, vI p2, vI p3, vI p4]) (n := 7) (Nat.le_of_ble_eq_true rfl)
  rw [lg_entry_eq]
  generalize (lg_sl ([vR mm, vI n, vI x, vI p1, vI p2, vI p3, vI p4]) ++ List.replicate (7 - (lg_sl ([vR mm, vI n, vI x, vI p1, vI p2, vI p3, vI p4])).length) Slot.unset).toArray = ls at hl0 ⊢
  have hlv : lv_has ls 7 [(0, vR mm), (1, vI n), (2, vI x), (3, vI p1), (4, vI p2), (5, vI p3), (6, vI p4)] := hl0
  have lf344 := hts (.fieldLink RX12 344 "KerbSplashModel" "itsRow" "I") (List.mem_of_getElem? (i := 1) rfl)
  have hi12 : ∀ w ∈ wsX120, w ∈ vs_m_drives := fun w h => List.mem_cons_of_mem _ (List.mem_append_right _ (List.mem_append_left _ h))
  have lf353 := hts (.fieldLink RX12 353 "KerbSplashModel" "itsPace" "I") (List.mem_of_getElem? (i := 2) rfl)
  have lf29 := hts (.fieldLink RX12 29 "KerbSplashModel" "s" "[I") (List.mem_of_getElem? (i := 3) rfl)
  have gg_1 : GoodIn vs_m_drives (va_wsS RX12 289 yX12_at vs_m_at) := goodIn_sub (fun w h => List.mem_cons_of_mem _ (List.mem_append_right _ (List.mem_append_right _ (List.mem_append_left _ h)))) (gd_S gd_m_at (by decide +kernel))
  have gg_2 : GoodIn vs_m_drives (wsV RX12 347 RX12 yX12_peopleAt vs_m_peopleAt) := goodIn_sub (fun w h => List.mem_cons_of_mem _ (List.mem_append_right _ (List.mem_append_right _ (List.mem_append_right _ (List.mem_append_left _ h))))) (gd_V gd_m_peopleAt (by decide +kernel))
  have gg_3 : GoodIn vs_m_drives (wsV RX12 337 RX12 yX12_name vs_m_name) := goodIn_sub (fun w h => List.mem_cons_of_mem _ (List.mem_append_right _ (List.mem_append_right _ (List.mem_append_right _ (List.mem_append_right _ (List.mem_append_left _ h)))))) (gd_V gd_m_name (by decide +kernel))
  have gg_4 : GoodIn vs_m_drives (wsV RX12 341 RX12 yX12_worked vs_m_worked) := goodIn_sub (fun w h => List.mem_cons_of_mem _ (List.mem_append_right _ (List.mem_append_right _ (List.mem_append_right _ (List.mem_append_right _ (List.mem_append_right _ (List.mem_append_left _ h))))))) (gd_V gd_m_worked (by decide +kernel))
  have gg_5 : GoodIn vs_m_drives (va_wsS RX12 356 yX12_held vs_m_held) := goodIn_sub (fun w h => List.mem_cons_of_mem _ (List.mem_append_right _ (List.mem_append_right _ (List.mem_append_right _ (List.mem_append_right _ (List.mem_append_right _ (List.mem_append_right _ (List.mem_append_left _ h)))))))) (gd_S gd_m_held (by decide +kernel))
  have gg_6 : GoodIn vs_m_drives (wsV RX12 350 RX12 yX12_heldSum vs_m_heldSum) := goodIn_sub (fun w h => List.mem_cons_of_mem _ (List.mem_append_right _ (List.mem_append_right _ (List.mem_append_right _ (List.mem_append_right _ (List.mem_append_right _ (List.mem_append_right _ (List.mem_append_right _ (List.mem_append_left _ h))))))))) (gd_V gd_m_heldSum (by decide +kernel))
  refine lv_aload_n hx hb dX12_drives_0 rfl (lv_at hlv 0 rfl) ?_
  refine lv_iload hx hb dX12_drives_1 (lv_at hlv 6 rfl) ?_
  refine lv_iconst (v := iI 3) hx hb dX12_drives_3 (by decide) ?_
  refine ir_ne (tgt := 11) hx hb dX12_drives_4 (by decide) (by first | exact hr_p4 | omega) (by show ((-2147483648) : Int) ≤ 3 ∧ (3 : Int) ≤ 2147483647; decide) (fun c_1 => ?_) (fun c_1 => ?_)
  · refine lv_iload_n hx hb dX12_drives_11 rfl (lv_at hlv 3 rfl) ?_
    refine va_put (D := D) (ci := 12) (v := vI p1) (ty := .int) (C := RX12) (T := TX12) (N := 38) hx hb hts hi12 tyX12 tyX12_ok nmX12 hown hG.1 hP hD hS 0 rfl rfl 31 (by decide) lf344 (fun _ h9 => h9) rfl (by decide +kernel) rfl rfl (Nat.le_of_ble_eq_true rfl) dX12_drives_12 (fun H locs hP hD hS => ?_)
    obtain ⟨hP, hD⟩ := pw9 [zO mm 12 [vI th, vR m1, vI tp, vI sz_, vI ap, vI bad, vI bk, vI opn, vI fp, vR m9, vR m10, vR m11, vR m12, vR m13, vR m14, vR m15, vI im, vI nr, vI nl, vR m19, vR m20, vR m21, vI sp_, vR m23, vR m24, vR m25, vR m26, vR m27, vR m28, vI wtc, vI wcl, vI p1, vI ip, vR m33, vI shu, vR m35, vI sfa, vI swr], zI m10 (cy 0) 68 f10, zI m12 (cy 0) 389 f12, zI m23 (cy 0) 2480 f23, zI m24 (cy 0) 2480 f24, zI m25 (cy 0) 20 f25, zI m26 (cy 0) 20 f26, zI m27 (cy 0) 620 f27, zI m28 (cy 0) 7 f28] hP hD
    refine lv_iload hx hb dX12_drives_15 (lv_at hlv 6 rfl) ?_
    refine lv_iconst (v := iI 2) hx hb dX12_drives_17 (by decide) ?_
    refine ir_ne (tgt := 66) hx hb dX12_drives_18 (by decide) (by first | exact hr_p4 | omega) (by show ((-2147483648) : Int) ≤ 2 ∧ (2 : Int) ≤ 2147483647; decide) (fun c_2 => ?_) (fun c_2 => ?_)
    · refine lv_aload_n hx hb dX12_drives_66 rfl (lv_at hlv 0 rfl) ?_
      refine lv_iload hx hb dX12_drives_67 (lv_at hlv 4 rfl) ?_
      refine va_put (D := D) (ci := 12) (v := vI p2) (ty := .int) (C := RX12) (T := TX12) (N := 38) hx hb hts hi12 tyX12 tyX12_ok nmX12 hown hG.1 hP hD hS 0 rfl rfl 32 (by decide) lf353 (fun _ h9 => h9) rfl (by decide +kernel) rfl rfl (Nat.le_of_ble_eq_true rfl) dX12_drives_69 (fun H locs hP hD hS => ?_)
      obtain ⟨hP, hD⟩ := pw9 [zO mm 12 [vI th, vR m1, vI tp, vI sz_, vI ap, vI bad, vI bk, vI opn, vI fp, vR m9, vR m10, vR m11, vR m12, vR m13, vR m14, vR m15, vI im, vI nr, vI nl, vR m19, vR m20, vR m21, vI sp_, vR m23, vR m24, vR m25, vR m26, vR m27, vR m28, vI wtc, vI wcl, vI p1, vI p2, vR m33, vI shu, vR m35, vI sfa, vI swr], zI m10 (cy 0) 68 f10, zI m12 (cy 0) 389 f12, zI m23 (cy 0) 2480 f23, zI m24 (cy 0) 2480 f24, zI m25 (cy 0) 20 f25, zI m26 (cy 0) 20 f26, zI m27 (cy 0) 620 f27, zI m28 (cy 0) 7 f28] hP hD
      refine lv_iload hx hb dX12_drives_72 (lv_at hlv 6 rfl) ?_
      refine lv_iconst (v := iI 1) hx hb dX12_drives_74 (by decide) ?_
      refine ir_eq (tgt := 79) hx hb dX12_drives_75 (by decide) (by first | exact hr_p4 | omega) (by show ((-2147483648) : Int) ≤ 1 ∧ (1 : Int) ≤ 2147483647; decide) (fun c_3 => ?_) (fun c_3 => ?_)
      · refine lv_aload_n hx hb dX12_drives_79 rfl (lv_at hlv 0 rfl) ?_
        refine lv_aload_n hx hb dX12_drives_80 rfl (lv_at hlv 0 rfl) ?_
        refine va_get (D := D) (ci := 12) (v := vR m12) (C := RX12) (T := TX12) (N := 38) hx hb hts hi12 hown hG.1 hP 0 rfl rfl 12 (by decide) lf29 (fun _ h9 => h9) rfl dX12_drives_81 ?_
        refine lv_bipush (v := iI 96) hx hb dX12_drives_84 (by decide) ?_
        refine lv_iload_n hx hb dX12_drives_86 rfl (lv_at hlv 2 rfl) ?_
        refine lv_iload_n hx hb dX12_drives_87 rfl (lv_at hlv 3 rfl) ?_
        refine cjr_i [true, true, true, true, true, true, true, true, true] (fun pre9 => (va_runS (As := [vI x, vI p1]) (rest := [vI 96, vR m12, vR mm]) ⟨hx, hb, hml, hown, hts⟩ (m_at l hl D cy sa x p1 H.size (by first | exact hr_x | omega) (by first | exact hr_p1 | omega)) (va_cwS 2 hts gg_1 rfl rfl rfl (by decide +kernel) ⟨Nat.le_of_ble_eq_true rfl, Nat.le_of_ble_eq_true rfl⟩) ⟨pcW.blind, pre9⟩ rfl rfl hlv.1 rfl (lv_room (Nat.le_of_ble_eq_true rfl)) dX12_drives_88 ⟨Nat.le_of_ble_eq_true rfl, Nat.le_of_ble_eq_true rfl⟩)) hP hD hS hA hG hT [] rfl (by decide +kernel) (fun r1 u1 H locs hw1 hq9 hS => ?_)
        obtain ⟨rfl, hq1_1, hq1_2⟩ := hw1
        obtain ⟨hP, hD⟩ := pd9 [zO mm 12 [vI th, vR m1, vI tp, vI sz_, vI ap, vI bad, vI bk, vI opn, vI fp, vR m9, vR m10, vR m11, vR m12, vR m13, vR m14, vR m15, vI im, vI nr, vI nl, vR m19, vR m20, vR m21, vI sp_, vR m23, vR m24, vR m25, vR m26, vR m27, vR m28, vI wtc, vI wcl, vI p1, vI p2, vR m33, vI shu, vR m35, vI sfa, vI swr], zI m10 (cy 0) 68 f10, zI m12 (cy 0) 389 f12, zI m23 (cy 0) 2480 f23, zI m24 (cy 0) 2480 f24, zI m25 (cy 0) 20 f25, zI m26 (cy 0) 20 f26, zI m27 (cy 0) 620 f27, zI m28 (cy 0) 7 f28] hq9
        refine lv_iadd hx hb dX12_drives_91 ?_
        refine lt_e (e0 := 96 + (u1.2.1 0)) (Int32.ofInt_add _ _).symm (fun z_4 hz_4 => ?_)
        refine va_iald hx hb hG.1 hP 2 0 rfl rfl (iI_in (by omega) (by decide)) dX12_drives_92 ?_
        refine lt_nz (i := z_4) (by omega) (fun z_5 hz_5 lz_5 uz_5 => ?_)
        refine lv_iload hx hb dX12_drives_93 (lv_at hlv 4 rfl) ?_
        refine lv_iload hx hb dX12_drives_95 (lv_at hlv 5 rfl) ?_
        refine lv_iload_n hx hb dX12_drives_97 rfl (lv_at hlv 3 rfl) ?_
        refine lv_aload_n hx hb dX12_drives_98 rfl (lv_at hlv 0 rfl) ?_
        refine lv_iload_n hx hb dX12_drives_99 rfl (lv_at hlv 2 rfl) ?_
        refine cjr_i [false, true, false, true, true, true, true, true, true] (fun pre9 => (va_runV (As := [vI x]) (rest := [vI p1, vI p3, vI p2, vI z_5, vR mm]) ⟨hx, hb, hml, hown, hts⟩ (m_peopleAt l hl D cy sa mm m1 m9 m10 m11 m12 m13 m14 m15 m19 m20 m21 m23 m24 m25 m26 m27 m28 m33 m35 th tp sz_ ap bad bk opn fp im nr nl sp_ wtc wcl p1 p2 shu sfa swr f12 x pm H.size (by first | exact hr_th | omega) (by first | exact hr_tp | omega) (by first | exact hr_sz_ | omega) (by first | exact hr_ap | omega) (by first | exact hr_bad | omega) (by first | exact hr_bk | omega) (by first | exact hr_opn | omega) (by first | exact hr_fp | omega) (by first | exact hr_im | omega) (by first | exact hr_nr | omega) (by first | exact hr_nl | omega) (by first | exact hr_sp_ | omega) (by first | exact hr_wtc | omega) (by first | exact hr_wcl | omega) (by first | exact hr_p1 | omega) (by first | exact hr_p2 | omega) (by first | exact hr_shu | omega) (by first | exact hr_sfa | omega) (by first | exact hr_swr | omega) (by first | exact rgw hr_x (by decide) (by decide) | omega) (by first | exact hr_pm | omega) hf12) (cwV 1 hts gg_2 rfl rfl rfl (by decide +kernel) ⟨Nat.le_of_ble_eq_true rfl, Nat.le_of_ble_eq_true rfl⟩) ⟨pcW.blind, (va_recv hG.1 hP (ci := 12) (q0 := 0) rfl rfl), pre9⟩ rfl rfl hlv.1 rfl (lv_room (Nat.le_of_ble_eq_true rfl)) dX12_drives_100 ⟨Nat.le_of_ble_eq_true rfl, Nat.le_of_ble_eq_true rfl⟩)) hP hD hS hA hG hT [0, 2] rfl (by decide +kernel) (fun r2 u2 H locs hw2 hq9 hS => ?_)
        obtain ⟨rfl, hq2_1, hq2_2⟩ := hw2
        obtain ⟨hP, hD⟩ := pd9 [zI m10 (cy 0) 68 f10, zI m23 (cy 0) 2480 f23, zI m24 (cy 0) 2480 f24, zI m25 (cy 0) 20 f25, zI m26 (cy 0) 20 f26, zI m27 (cy 0) 620 f27, zI m28 (cy 0) 7 f28, zO mm 12 [vI th, vR m1, vI tp, vI sz_, vI ap, vI bad, vI bk, vI opn, vI fp, vR m9, vR m10, vR m11, vR m12, vR m13, vR m14, vR m15, vI im, vI nr, vI nl, vR m19, vR m20, vR m21, vI sp_, vR m23, vR m24, vR m25, vR m26, vR m27, vR m28, vI wtc, vI wcl, vI p1, vI p2, vR m33, vI shu, vR m35, vI sfa, vI swr], zI m12 (cy 0) 389 f12] hq9
        refine cjr_v [true, true, true, true, true, true, false, false, true] (fun pre9 => (va_runV (As := [vI z_5, vI p2, vI p3, vI p1, vI (u2.2.1 0)]) (rest := []) ⟨hx, hb, hml, hown, hts⟩ (m_name l hl D cy sa mm m1 m9 m10 m11 m12 m13 m14 m15 m19 m20 m21 m23 m24 m25 m26 m27 m28 m33 m35 th tp sz_ ap bad bk opn fp im nr nl sp_ wtc wcl p1 p2 shu sfa swr f28 z_5 p2 p3 p1 (u2.2.1 0) H.size (by first | exact hr_th | omega) (by first | exact hr_tp | omega) (by first | exact hr_sz_ | omega) (by first | exact hr_ap | omega) (by first | exact hr_bad | omega) (by first | exact hr_bk | omega) (by first | exact hr_opn | omega) (by first | exact hr_fp | omega) (by first | exact hr_im | omega) (by first | exact hr_nr | omega) (by first | exact hr_nl | omega) (by first | exact hr_sp_ | omega) (by first | exact hr_wtc | omega) (by first | exact hr_wcl | omega) (by first | exact hr_p1 | omega) (by first | exact hr_p2 | omega) (by first | exact hr_shu | omega) (by first | exact hr_sfa | omega) (by first | exact hr_swr | omega) (by omega) (by first | exact hr_p2 | omega) (by first | exact hr_p3 | omega) (by first | exact rgw hr_p1 (by decide) (by decide) | omega) (by first | exact rgw hq2_1 (by decide) (by decide) | omega)) (cwV 5 hts gg_3 rfl rfl rfl (by decide +kernel) ⟨Nat.le_of_ble_eq_true rfl, Nat.le_of_ble_eq_true rfl⟩) ⟨pcW.blind, (va_recv hG.1 hP (ci := 12) (q0 := 7) rfl rfl), pre9⟩ rfl rfl hlv.1 rfl (lv_room (Nat.le_of_ble_eq_true rfl)) dX12_drives_103 ⟨Nat.le_of_ble_eq_true rfl, Nat.le_of_ble_eq_true rfl⟩)) hP hD hS hA hG hT [7, 6] rfl (by decide +kernel) (fun u3 H locs hw3 hq9 hS => ?_)
        obtain ⟨hP, hD⟩ := pd9 [zI m10 (cy 0) 68 f10, zI m23 (cy 0) 2480 f23, zI m24 (cy 0) 2480 f24, zI m25 (cy 0) 20 f25, zI m26 (cy 0) 20 f26, zI m27 (cy 0) 620 f27, zI m12 (cy 0) 389 f12, zO mm 12 [vI th, vR m1, vI tp, vI sz_, vI ap, vI bad, vI bk, vI opn, vI fp, vR m9, vR m10, vR m11, vR m12, vR m13, vR m14, vR m15, vI im, vI nr, vI nl, vR m19, vR m20, vR m21, vI sp_, vR m23, vR m24, vR m25, vR m26, vR m27, vR m28, vI wtc, vI wcl, vI p1, vI p2, vR m33, vI shu, vR m35, vI sfa, vI swr], zI m28 (cy 0) 7 (u3.2.2 0)] hq9
        refine lv_aload_n hx hb dX12_drives_106 rfl (lv_at hlv 0 rfl) ?_
        refine lv_aload_n hx hb dX12_drives_107 rfl (lv_at hlv 0 rfl) ?_
        refine lv_iconst (v := iI 5) hx hb dX12_drives_108 (by decide) ?_
        refine lv_iload_n hx hb dX12_drives_109 rfl (lv_at hlv 1 rfl) ?_
        refine lv_imul hx hb dX12_drives_110 ?_
        refine lt_e (e0 := 5 * n) (Int32.ofInt_mul _ _).symm (fun z_6 hz_6 => ?_)
        refine lv_iconst (v := iI 3) hx hb dX12_drives_111 (by decide) ?_
        refine lv_iadd hx hb dX12_drives_112 ?_
        refine lt_e (e0 := z_6 + 3) (Int32.ofInt_add _ _).symm (fun z_7 hz_7 => ?_)
        refine cjr_i [true, false, false, false, false, false, true, false, false] (fun pre9 => (va_runV (As := [vI z_7]) (rest := [vR mm]) ⟨hx, hb, hml, hown, hts⟩ (m_worked l hl D cy sa mm m1 m9 m10 m11 m12 m13 m14 m15 m19 m20 m21 m23 m24 m25 m26 m27 m28 m33 m35 th tp sz_ ap bad bk opn fp im nr nl sp_ wtc wcl p1 p2 shu sfa swr f23 f24 f25 f26 f27 (u3.2.2 0) z_7 H.size (by first | exact hr_th | omega) (by first | exact hr_tp | omega) (by first | exact hr_sz_ | omega) (by first | exact hr_ap | omega) (by first | exact hr_bad | omega) (by first | exact hr_bk | omega) (by first | exact hr_opn | omega) (by first | exact hr_fp | omega) (by first | exact hr_im | omega) (by first | exact hr_nr | omega) (by first | exact hr_nl | omega) (by first | exact hr_sp_ | omega) (by first | exact hr_wtc | omega) (by first | exact hr_wcl | omega) (by first | exact hr_p1 | omega) (by first | exact hr_p2 | omega) (by first | exact hr_shu | omega) (by first | exact hr_sfa | omega) (by first | exact hr_swr | omega) (by omega) (by omega) hn_li) (cwV 1 hts gg_4 rfl rfl rfl (by decide +kernel) ⟨Nat.le_of_ble_eq_true rfl, Nat.le_of_ble_eq_true rfl⟩) ⟨pcW.blind, (va_recv hG.1 hP (ci := 12) (q0 := 7) rfl rfl), pre9⟩ rfl rfl hlv.1 rfl (lv_room (Nat.le_of_ble_eq_true rfl)) dX12_drives_113 ⟨Nat.le_of_ble_eq_true rfl, Nat.le_of_ble_eq_true rfl⟩)) hP hD hS hA hG hT [7, 1, 2, 3, 4, 5, 8] rfl (by decide +kernel) (fun r4 u4 H locs hw4 hq9 hS => ?_)
        obtain ⟨rfl, hq4_1⟩ := hw4
        obtain ⟨hP, hD⟩ := pd9 [zI m10 (cy 0) 68 f10, zI m12 (cy 0) 389 f12, zO mm 12 [vI th, vR m1, vI tp, vI sz_, vI ap, vI bad, vI bk, vI opn, vI fp, vR m9, vR m10, vR m11, vR m12, vR m13, vR m14, vR m15, vI im, vI nr, vI nl, vR m19, vR m20, vR m21, vI sp_, vR m23, vR m24, vR m25, vR m26, vR m27, vR m28, vI wtc, vI wcl, vI p1, vI p2, vR m33, vI shu, vR m35, vI sfa, vI swr], zI m23 (cy 0) 2480 f23, zI m24 (cy 0) 2480 f24, zI m25 (cy 0) 20 f25, zI m26 (cy 0) 20 f26, zI m27 (cy 0) 620 (u4.2.2 0), zI m28 (cy 0) 7 (u3.2.2 0)] hq9
        refine lv_iconst (v := iI 1) hx hb dX12_drives_116 (by decide) ?_
        refine lv_iload hx hb dX12_drives_117 (lv_at hlv 4 rfl) ?_
        refine cjr_i [true, true, true, true, true, true, true, true, true] (fun pre9 => (va_runS (As := [vI (u4.2.1 0), vI 1, vI p2]) (rest := [vR mm]) ⟨hx, hb, hml, hown, hts⟩ (m_held l hl D cy sa (u4.2.1 0) 1 p2 H.size (by first | exact hq4_1 | omega) (by show ((-2147483648) : Int) ≤ 1 ∧ (1 : Int) ≤ 2147483647; decide) (by first | exact hr_p2 | omega)) (va_cwS 3 hts gg_5 rfl rfl rfl (by decide +kernel) ⟨Nat.le_of_ble_eq_true rfl, Nat.le_of_ble_eq_true rfl⟩) ⟨pcW.blind, pre9⟩ rfl rfl hlv.1 rfl (lv_room (Nat.le_of_ble_eq_true rfl)) dX12_drives_119 ⟨Nat.le_of_ble_eq_true rfl, Nat.le_of_ble_eq_true rfl⟩)) hP hD hS hA hG hT [] rfl (by decide +kernel) (fun r5 u5 H locs hw5 hq9 hS => ?_)
        obtain ⟨rfl, hq5_1, hq5_2⟩ := hw5
        obtain ⟨hP, hD⟩ := pd9 [zI m10 (cy 0) 68 f10, zI m12 (cy 0) 389 f12, zO mm 12 [vI th, vR m1, vI tp, vI sz_, vI ap, vI bad, vI bk, vI opn, vI fp, vR m9, vR m10, vR m11, vR m12, vR m13, vR m14, vR m15, vI im, vI nr, vI nl, vR m19, vR m20, vR m21, vI sp_, vR m23, vR m24, vR m25, vR m26, vR m27, vR m28, vI wtc, vI wcl, vI p1, vI p2, vR m33, vI shu, vR m35, vI sfa, vI swr], zI m23 (cy 0) 2480 f23, zI m24 (cy 0) 2480 f24, zI m25 (cy 0) 20 f25, zI m26 (cy 0) 20 f26, zI m27 (cy 0) 620 (u4.2.2 0), zI m28 (cy 0) 7 (u3.2.2 0)] hq9
        refine va_put (D := D) (ci := 12) (v := vI (u5.2.1 0)) (ty := .int) (C := RX12) (T := TX12) (N := 38) hx hb hts hi12 tyX12 tyX12_ok nmX12 hown hG.1 hP hD hS 2 rfl rfl 32 (by decide) lf353 (fun _ h9 => h9) rfl (by decide +kernel) rfl rfl (Nat.le_of_ble_eq_true rfl) dX12_drives_122 (fun H locs hP hD hS => ?_)
        obtain ⟨hP, hD⟩ := pw9 [zI m10 (cy 0) 68 f10, zI m12 (cy 0) 389 f12, zO mm 12 [vI th, vR m1, vI tp, vI sz_, vI ap, vI bad, vI bk, vI opn, vI fp, vR m9, vR m10, vR m11, vR m12, vR m13, vR m14, vR m15, vI im, vI nr, vI nl, vR m19, vR m20, vR m21, vI sp_, vR m23, vR m24, vR m25, vR m26, vR m27, vR m28, vI wtc, vI wcl, vI p1, vI (u5.2.1 0), vR m33, vI shu, vR m35, vI sfa, vI swr], zI m23 (cy 0) 2480 f23, zI m24 (cy 0) 2480 f24, zI m25 (cy 0) 20 f25, zI m26 (cy 0) 20 f26, zI m27 (cy 0) 620 (u4.2.2 0), zI m28 (cy 0) 7 (u3.2.2 0)] hP hD
        refine W.widen (k := 0) (n := 0) (Nat.le_of_ble_eq_true rfl) (Nat.le_of_ble_eq_true rfl) ?_
        exact W.vret hx hb hr (fun t ht hW => ⟨⟨((fun k => ([] : List Nat).getD k 0), (fun k => ([p1, (u5.2.1 0)] : List Int).getD k 0), (fun k => ([(u4.2.2 0), (u3.2.2 0)] : List (Nat → Int32)).getD k (fun _ => 0))), rfl, ⟨(by show (0 ≤ p1 ∧ p1 ≤ 5); first | exact hr_p1 | omega), (by show ((-2147483648) ≤ (u5.2.1 0) ∧ (u5.2.1 0) ≤ 2147483647); first | exact hq5_1 | omega), hf10, hq2_2⟩, at9 ht hP hD [2, 0, 1, 3, 4, 5, 6, 7, 8] (by decide +kernel) rfl⟩, hS.F ht⟩) hS.2.2 dX12_drives_125
      · refine W.widen (k := 0) (n := 0) (Nat.le_of_ble_eq_true rfl) (Nat.le_of_ble_eq_true rfl) ?_
        exact W.vret hx hb hr (fun t ht hW => ⟨⟨((fun k => ([] : List Nat).getD k 0), (fun k => ([p1, p2] : List Int).getD k 0), (fun k => ([f27, f28] : List (Nat → Int32)).getD k (fun _ => 0))), rfl, ⟨(by show (0 ≤ p1 ∧ p1 ≤ 5); first | exact hr_p1 | omega), (by show ((-2147483648) ≤ p2 ∧ p2 ≤ 2147483647); first | exact hr_p2 | omega), hf10, hf12⟩, at9 ht hP hD [0, 1, 2, 3, 4, 5, 6, 7, 8] (by decide +kernel) rfl⟩, hS.F ht⟩) hS.2.2 dX12_drives_78
    · refine lv_aload_n hx hb dX12_drives_21 rfl (lv_at hlv 0 rfl) ?_
      refine lv_aload_n hx hb dX12_drives_22 rfl (lv_at hlv 0 rfl) ?_
      refine va_get (D := D) (ci := 12) (v := vR m12) (C := RX12) (T := TX12) (N := 38) hx hb hts hi12 hown hG.1 hP 0 rfl rfl 12 (by decide) lf29 (fun _ h9 => h9) rfl dX12_drives_23 ?_
      refine lv_bipush (v := iI 96) hx hb dX12_drives_26 (by decide) ?_
      refine lv_iload_n hx hb dX12_drives_28 rfl (lv_at hlv 2 rfl) ?_
      refine lv_iload_n hx hb dX12_drives_29 rfl (lv_at hlv 3 rfl) ?_
      refine cjr_i [true, true, true, true, true, true, true, true, true] (fun pre9 => (va_runS (As := [vI x, vI p1]) (rest := [vI 96, vR m12, vR mm]) ⟨hx, hb, hml, hown, hts⟩ (m_at l hl D cy sa x p1 H.size (by first | exact hr_x | omega) (by first | exact hr_p1 | omega)) (va_cwS 2 hts gg_1 rfl rfl rfl (by decide +kernel) ⟨Nat.le_of_ble_eq_true rfl, Nat.le_of_ble_eq_true rfl⟩) ⟨pcW.blind, pre9⟩ rfl rfl hlv.1 rfl (lv_room (Nat.le_of_ble_eq_true rfl)) dX12_drives_30 ⟨Nat.le_of_ble_eq_true rfl, Nat.le_of_ble_eq_true rfl⟩)) hP hD hS hA hG hT [] rfl (by decide +kernel) (fun r6 u6 H locs hw6 hq9 hS => ?_)
      obtain ⟨rfl, hq6_1, hq6_2⟩ := hw6
      obtain ⟨hP, hD⟩ := pd9 [zO mm 12 [vI th, vR m1, vI tp, vI sz_, vI ap, vI bad, vI bk, vI opn, vI fp, vR m9, vR m10, vR m11, vR m12, vR m13, vR m14, vR m15, vI im, vI nr, vI nl, vR m19, vR m20, vR m21, vI sp_, vR m23, vR m24, vR m25, vR m26, vR m27, vR m28, vI wtc, vI wcl, vI p1, vI ip, vR m33, vI shu, vR m35, vI sfa, vI swr], zI m10 (cy 0) 68 f10, zI m12 (cy 0) 389 f12, zI m23 (cy 0) 2480 f23, zI m24 (cy 0) 2480 f24, zI m25 (cy 0) 20 f25, zI m26 (cy 0) 20 f26, zI m27 (cy 0) 620 f27, zI m28 (cy 0) 7 f28] hq9
      refine lv_iadd hx hb dX12_drives_33 ?_
      refine lt_e (e0 := 96 + (u6.2.1 0)) (Int32.ofInt_add _ _).symm (fun z_8 hz_8 => ?_)
      refine va_iald hx hb hG.1 hP 2 0 rfl rfl (iI_in (by omega) (by decide)) dX12_drives_34 ?_
      refine lt_nz (i := z_8) (by omega) (fun z_9 hz_9 lz_9 uz_9 => ?_)
      refine lv_iload hx hb dX12_drives_35 (lv_at hlv 4 rfl) ?_
      refine lv_iload hx hb dX12_drives_37 (lv_at hlv 5 rfl) ?_
      refine lv_iload_n hx hb dX12_drives_39 rfl (lv_at hlv 3 rfl) ?_
      refine lv_aload_n hx hb dX12_drives_40 rfl (lv_at hlv 0 rfl) ?_
      refine lv_iload_n hx hb dX12_drives_41 rfl (lv_at hlv 2 rfl) ?_
      refine cjr_i [false, true, false, true, true, true, true, true, true] (fun pre9 => (va_runV (As := [vI x]) (rest := [vI p1, vI p3, vI p2, vI z_9, vR mm]) ⟨hx, hb, hml, hown, hts⟩ (m_peopleAt l hl D cy sa mm m1 m9 m10 m11 m12 m13 m14 m15 m19 m20 m21 m23 m24 m25 m26 m27 m28 m33 m35 th tp sz_ ap bad bk opn fp im nr nl sp_ wtc wcl p1 ip shu sfa swr f12 x pm H.size (by first | exact hr_th | omega) (by first | exact hr_tp | omega) (by first | exact hr_sz_ | omega) (by first | exact hr_ap | omega) (by first | exact hr_bad | omega) (by first | exact hr_bk | omega) (by first | exact hr_opn | omega) (by first | exact hr_fp | omega) (by first | exact hr_im | omega) (by first | exact hr_nr | omega) (by first | exact hr_nl | omega) (by first | exact hr_sp_ | omega) (by first | exact hr_wtc | omega) (by first | exact hr_wcl | omega) (by first | exact hr_p1 | omega) (by first | exact hr_ip | omega) (by first | exact hr_shu | omega) (by first | exact hr_sfa | omega) (by first | exact hr_swr | omega) (by first | exact rgw hr_x (by decide) (by decide) | omega) (by first | exact hr_pm | omega) hf12) (cwV 1 hts gg_2 rfl rfl rfl (by decide +kernel) ⟨Nat.le_of_ble_eq_true rfl, Nat.le_of_ble_eq_true rfl⟩) ⟨pcW.blind, (va_recv hG.1 hP (ci := 12) (q0 := 0) rfl rfl), pre9⟩ rfl rfl hlv.1 rfl (lv_room (Nat.le_of_ble_eq_true rfl)) dX12_drives_42 ⟨Nat.le_of_ble_eq_true rfl, Nat.le_of_ble_eq_true rfl⟩)) hP hD hS hA hG hT [0, 2] rfl (by decide +kernel) (fun r7 u7 H locs hw7 hq9 hS => ?_)
      obtain ⟨rfl, hq7_1, hq7_2⟩ := hw7
      obtain ⟨hP, hD⟩ := pd9 [zI m10 (cy 0) 68 f10, zI m23 (cy 0) 2480 f23, zI m24 (cy 0) 2480 f24, zI m25 (cy 0) 20 f25, zI m26 (cy 0) 20 f26, zI m27 (cy 0) 620 f27, zI m28 (cy 0) 7 f28, zO mm 12 [vI th, vR m1, vI tp, vI sz_, vI ap, vI bad, vI bk, vI opn, vI fp, vR m9, vR m10, vR m11, vR m12, vR m13, vR m14, vR m15, vI im, vI nr, vI nl, vR m19, vR m20, vR m21, vI sp_, vR m23, vR m24, vR m25, vR m26, vR m27, vR m28, vI wtc, vI wcl, vI p1, vI ip, vR m33, vI shu, vR m35, vI sfa, vI swr], zI m12 (cy 0) 389 f12] hq9
      refine cjr_v [true, true, true, true, true, true, false, false, true] (fun pre9 => (va_runV (As := [vI z_9, vI p2, vI p3, vI p1, vI (u7.2.1 0)]) (rest := []) ⟨hx, hb, hml, hown, hts⟩ (m_name l hl D cy sa mm m1 m9 m10 m11 m12 m13 m14 m15 m19 m20 m21 m23 m24 m25 m26 m27 m28 m33 m35 th tp sz_ ap bad bk opn fp im nr nl sp_ wtc wcl p1 ip shu sfa swr f28 z_9 p2 p3 p1 (u7.2.1 0) H.size (by first | exact hr_th | omega) (by first | exact hr_tp | omega) (by first | exact hr_sz_ | omega) (by first | exact hr_ap | omega) (by first | exact hr_bad | omega) (by first | exact hr_bk | omega) (by first | exact hr_opn | omega) (by first | exact hr_fp | omega) (by first | exact hr_im | omega) (by first | exact hr_nr | omega) (by first | exact hr_nl | omega) (by first | exact hr_sp_ | omega) (by first | exact hr_wtc | omega) (by first | exact hr_wcl | omega) (by first | exact hr_p1 | omega) (by first | exact hr_ip | omega) (by first | exact hr_shu | omega) (by first | exact hr_sfa | omega) (by first | exact hr_swr | omega) (by omega) (by first | exact hr_p2 | omega) (by first | exact hr_p3 | omega) (by first | exact rgw hr_p1 (by decide) (by decide) | omega) (by first | exact rgw hq7_1 (by decide) (by decide) | omega)) (cwV 5 hts gg_3 rfl rfl rfl (by decide +kernel) ⟨Nat.le_of_ble_eq_true rfl, Nat.le_of_ble_eq_true rfl⟩) ⟨pcW.blind, (va_recv hG.1 hP (ci := 12) (q0 := 7) rfl rfl), pre9⟩ rfl rfl hlv.1 rfl (lv_room (Nat.le_of_ble_eq_true rfl)) dX12_drives_45 ⟨Nat.le_of_ble_eq_true rfl, Nat.le_of_ble_eq_true rfl⟩)) hP hD hS hA hG hT [7, 6] rfl (by decide +kernel) (fun u8 H locs hw8 hq9 hS => ?_)
      obtain ⟨hP, hD⟩ := pd9 [zI m10 (cy 0) 68 f10, zI m23 (cy 0) 2480 f23, zI m24 (cy 0) 2480 f24, zI m25 (cy 0) 20 f25, zI m26 (cy 0) 20 f26, zI m27 (cy 0) 620 f27, zI m12 (cy 0) 389 f12, zO mm 12 [vI th, vR m1, vI tp, vI sz_, vI ap, vI bad, vI bk, vI opn, vI fp, vR m9, vR m10, vR m11, vR m12, vR m13, vR m14, vR m15, vI im, vI nr, vI nl, vR m19, vR m20, vR m21, vI sp_, vR m23, vR m24, vR m25, vR m26, vR m27, vR m28, vI wtc, vI wcl, vI p1, vI ip, vR m33, vI shu, vR m35, vI sfa, vI swr], zI m28 (cy 0) 7 (u8.2.2 0)] hq9
      refine lv_aload_n hx hb dX12_drives_48 rfl (lv_at hlv 0 rfl) ?_
      refine lv_aload_n hx hb dX12_drives_49 rfl (lv_at hlv 0 rfl) ?_
      refine lv_iload_n hx hb dX12_drives_50 rfl (lv_at hlv 3 rfl) ?_
      refine lv_aload_n hx hb dX12_drives_51 rfl (lv_at hlv 0 rfl) ?_
      refine lv_iconst (v := iI 5) hx hb dX12_drives_52 (by decide) ?_
      refine lv_iload_n hx hb dX12_drives_53 rfl (lv_at hlv 1 rfl) ?_
      refine lv_imul hx hb dX12_drives_54 ?_
      refine lt_e (e0 := 5 * n) (Int32.ofInt_mul _ _).symm (fun z_10 hz_10 => ?_)
      refine lv_iconst (v := iI 4) hx hb dX12_drives_55 (by decide) ?_
      refine lv_iadd hx hb dX12_drives_56 ?_
      refine lt_e (e0 := z_10 + 4) (Int32.ofInt_add _ _).symm (fun z_11 hz_11 => ?_)
      refine cjr_i [true, false, false, false, false, false, true, false, false] (fun pre9 => (va_runV (As := [vI z_11]) (rest := [vI p1, vR mm, vR mm]) ⟨hx, hb, hml, hown, hts⟩ (m_worked l hl D cy sa mm m1 m9 m10 m11 m12 m13 m14 m15 m19 m20 m21 m23 m24 m25 m26 m27 m28 m33 m35 th tp sz_ ap bad bk opn fp im nr nl sp_ wtc wcl p1 ip shu sfa swr f23 f24 f25 f26 f27 (u8.2.2 0) z_11 H.size (by first | exact hr_th | omega) (by first | exact hr_tp | omega) (by first | exact hr_sz_ | omega) (by first | exact hr_ap | omega) (by first | exact hr_bad | omega) (by first | exact hr_bk | omega) (by first | exact hr_opn | omega) (by first | exact hr_fp | omega) (by first | exact hr_im | omega) (by first | exact hr_nr | omega) (by first | exact hr_nl | omega) (by first | exact hr_sp_ | omega) (by first | exact hr_wtc | omega) (by first | exact hr_wcl | omega) (by first | exact hr_p1 | omega) (by first | exact hr_ip | omega) (by first | exact hr_shu | omega) (by first | exact hr_sfa | omega) (by first | exact hr_swr | omega) (by omega) (by omega) hn_li) (cwV 1 hts gg_4 rfl rfl rfl (by decide +kernel) ⟨Nat.le_of_ble_eq_true rfl, Nat.le_of_ble_eq_true rfl⟩) ⟨pcW.blind, (va_recv hG.1 hP (ci := 12) (q0 := 7) rfl rfl), pre9⟩ rfl rfl hlv.1 rfl (lv_room (Nat.le_of_ble_eq_true rfl)) dX12_drives_57 ⟨Nat.le_of_ble_eq_true rfl, Nat.le_of_ble_eq_true rfl⟩)) hP hD hS hA hG hT [7, 1, 2, 3, 4, 5, 8] rfl (by decide +kernel) (fun r9 u9 H locs hw9 hq9 hS => ?_)
      obtain ⟨rfl, hq9_1⟩ := hw9
      obtain ⟨hP, hD⟩ := pd9 [zI m10 (cy 0) 68 f10, zI m12 (cy 0) 389 f12, zO mm 12 [vI th, vR m1, vI tp, vI sz_, vI ap, vI bad, vI bk, vI opn, vI fp, vR m9, vR m10, vR m11, vR m12, vR m13, vR m14, vR m15, vI im, vI nr, vI nl, vR m19, vR m20, vR m21, vI sp_, vR m23, vR m24, vR m25, vR m26, vR m27, vR m28, vI wtc, vI wcl, vI p1, vI ip, vR m33, vI shu, vR m35, vI sfa, vI swr], zI m23 (cy 0) 2480 f23, zI m24 (cy 0) 2480 f24, zI m25 (cy 0) 20 f25, zI m26 (cy 0) 20 f26, zI m27 (cy 0) 620 (u9.2.2 0), zI m28 (cy 0) 7 (u8.2.2 0)] hq9
      refine cjr_i [false, true, false, true, true, true, true, true, true] (fun pre9 => (va_runV (As := [vI p1, vI (u9.2.1 0)]) (rest := [vR mm]) ⟨hx, hb, hml, hown, hts⟩ (m_heldSum l hl D cy sa mm m1 m9 m10 m11 m12 m13 m14 m15 m19 m20 m21 m23 m24 m25 m26 m27 m28 m33 m35 th tp sz_ ap bad bk opn fp im nr nl sp_ wtc wcl p1 ip shu sfa swr f10 p1 (u9.2.1 0) H.size (by first | exact hr_th | omega) (by first | exact hr_tp | omega) (by first | exact hr_sz_ | omega) (by first | exact hr_ap | omega) (by first | exact hr_bad | omega) (by first | exact hr_bk | omega) (by first | exact hr_opn | omega) (by first | exact hr_fp | omega) (by first | exact hr_im | omega) (by first | exact hr_nr | omega) (by first | exact hr_nl | omega) (by first | exact hr_sp_ | omega) (by first | exact hr_wtc | omega) (by first | exact hr_wcl | omega) (by first | exact hr_p1 | omega) (by first | exact hr_ip | omega) (by first | exact hr_shu | omega) (by first | exact hr_sfa | omega) (by first | exact hr_swr | omega) (by first | exact hr_p1 | omega) (by first | exact hq9_1 | omega) hp0 hf10) (cwV 2 hts gg_6 rfl rfl rfl (by decide +kernel) ⟨Nat.le_of_ble_eq_true rfl, Nat.le_of_ble_eq_true rfl⟩) ⟨pcW.blind, (va_recv hG.1 hP (ci := 12) (q0 := 2) rfl rfl), pre9⟩ rfl rfl hlv.1 rfl (lv_room (Nat.le_of_ble_eq_true rfl)) dX12_drives_60 ⟨Nat.le_of_ble_eq_true rfl, Nat.le_of_ble_eq_true rfl⟩)) hP hD hS hA hG hT [2, 0] rfl (by decide +kernel) (fun r10 u10 H locs hw10 hq9 hS => ?_)
      obtain ⟨rfl, hq10_1, hq10_2⟩ := hw10
      obtain ⟨hP, hD⟩ := pd9 [zI m12 (cy 0) 389 f12, zI m23 (cy 0) 2480 f23, zI m24 (cy 0) 2480 f24, zI m25 (cy 0) 20 f25, zI m26 (cy 0) 20 f26, zI m27 (cy 0) 620 (u9.2.2 0), zI m28 (cy 0) 7 (u8.2.2 0), zO mm 12 [vI th, vR m1, vI tp, vI sz_, vI ap, vI bad, vI bk, vI opn, vI fp, vR m9, vR m10, vR m11, vR m12, vR m13, vR m14, vR m15, vI im, vI nr, vI nl, vR m19, vR m20, vR m21, vI sp_, vR m23, vR m24, vR m25, vR m26, vR m27, vR m28, vI wtc, vI wcl, vI p1, vI ip, vR m33, vI shu, vR m35, vI sfa, vI swr], zI m10 (cy 0) 68 f10] hq9
      refine va_put (D := D) (ci := 12) (v := vI (u10.2.1 0)) (ty := .int) (C := RX12) (T := TX12) (N := 38) hx hb hts hi12 tyX12 tyX12_ok nmX12 hown hG.1 hP hD hS 7 rfl rfl 31 (by decide) lf344 (fun _ h9 => h9) rfl (by decide +kernel) rfl rfl (Nat.le_of_ble_eq_true rfl) dX12_drives_63 (fun H locs hP hD hS => ?_)
      obtain ⟨hP, hD⟩ := pw9 [zI m12 (cy 0) 389 f12, zI m23 (cy 0) 2480 f23, zI m24 (cy 0) 2480 f24, zI m25 (cy 0) 20 f25, zI m26 (cy 0) 20 f26, zI m27 (cy 0) 620 (u9.2.2 0), zI m28 (cy 0) 7 (u8.2.2 0), zO mm 12 [vI th, vR m1, vI tp, vI sz_, vI ap, vI bad, vI bk, vI opn, vI fp, vR m9, vR m10, vR m11, vR m12, vR m13, vR m14, vR m15, vI im, vI nr, vI nl, vR m19, vR m20, vR m21, vI sp_, vR m23, vR m24, vR m25, vR m26, vR m27, vR m28, vI wtc, vI wcl, vI (u10.2.1 0), vI ip, vR m33, vI shu, vR m35, vI sfa, vI swr], zI m10 (cy 0) 68 f10] hP hD
      refine lv_aload_n hx hb dX12_drives_66 rfl (lv_at hlv 0 rfl) ?_
      refine lv_iload hx hb dX12_drives_67 (lv_at hlv 4 rfl) ?_
      refine va_put (D := D) (ci := 12) (v := vI p2) (ty := .int) (C := RX12) (T := TX12) (N := 38) hx hb hts hi12 tyX12 tyX12_ok nmX12 hown hG.1 hP hD hS 7 rfl rfl 32 (by decide) lf353 (fun _ h9 => h9) rfl (by decide +kernel) rfl rfl (Nat.le_of_ble_eq_true rfl) dX12_drives_69 (fun H locs hP hD hS => ?_)
      obtain ⟨hP, hD⟩ := pw9 [zI m12 (cy 0) 389 f12, zI m23 (cy 0) 2480 f23, zI m24 (cy 0) 2480 f24, zI m25 (cy 0) 20 f25, zI m26 (cy 0) 20 f26, zI m27 (cy 0) 620 (u9.2.2 0), zI m28 (cy 0) 7 (u8.2.2 0), zO mm 12 [vI th, vR m1, vI tp, vI sz_, vI ap, vI bad, vI bk, vI opn, vI fp, vR m9, vR m10, vR m11, vR m12, vR m13, vR m14, vR m15, vI im, vI nr, vI nl, vR m19, vR m20, vR m21, vI sp_, vR m23, vR m24, vR m25, vR m26, vR m27, vR m28, vI wtc, vI wcl, vI (u10.2.1 0), vI p2, vR m33, vI shu, vR m35, vI sfa, vI swr], zI m10 (cy 0) 68 f10] hP hD
      refine lv_iload hx hb dX12_drives_72 (lv_at hlv 6 rfl) ?_
      refine lv_iconst (v := iI 1) hx hb dX12_drives_74 (by decide) ?_
      refine ir_eq (tgt := 79) hx hb dX12_drives_75 (by decide) (by first | exact hr_p4 | omega) (by show ((-2147483648) : Int) ≤ 1 ∧ (1 : Int) ≤ 2147483647; decide) (fun c_12 => by exfalso; omega) (fun c_12 => ?_)
      refine W.widen (k := 0) (n := 0) (Nat.le_of_ble_eq_true rfl) (Nat.le_of_ble_eq_true rfl) ?_
      exact W.vret hx hb hr (fun t ht hW => ⟨⟨((fun k => ([] : List Nat).getD k 0), (fun k => ([(u10.2.1 0), p2] : List Int).getD k 0), (fun k => ([(u9.2.2 0), (u8.2.2 0)] : List (Nat → Int32)).getD k (fun _ => 0))), rfl, ⟨(by show (0 ≤ (u10.2.1 0) ∧ (u10.2.1 0) ≤ 5); first | exact hq10_1 | omega), (by show ((-2147483648) ≤ p2 ∧ p2 ≤ 2147483647); first | exact hr_p2 | omega), hq10_2, hq7_2⟩, at9 ht hP hD [7, 8, 0, 1, 2, 3, 4, 5, 6] (by decide +kernel) rfl⟩, hS.F ht⟩) hS.2.2 dX12_drives_78
  · refine lv_iconst (v := iI 0) hx hb dX12_drives_7 (by decide) ?_
    refine lv_goto (tgt := 12) hx hb dX12_drives_8 (by decide) ?_
    refine va_put (D := D) (ci := 12) (v := vI 0) (ty := .int) (C := RX12) (T := TX12) (N := 38) hx hb hts hi12 tyX12 tyX12_ok nmX12 hown hG.1 hP hD hS 0 rfl rfl 31 (by decide) lf344 (fun _ h9 => h9) rfl (by decide +kernel) rfl rfl (Nat.le_of_ble_eq_true rfl) dX12_drives_12 (fun H locs hP hD hS => ?_)
    obtain ⟨hP, hD⟩ := pw9 [zO mm 12 [vI th, vR m1, vI tp, vI sz_, vI ap, vI bad, vI bk, vI opn, vI fp, vR m9, vR m10, vR m11, vR m12, vR m13, vR m14, vR m15, vI im, vI nr, vI nl, vR m19, vR m20, vR m21, vI sp_, vR m23, vR m24, vR m25, vR m26, vR m27, vR m28, vI wtc, vI wcl, vI 0, vI ip, vR m33, vI shu, vR m35, vI sfa, vI swr], zI m10 (cy 0) 68 f10, zI m12 (cy 0) 389 f12, zI m23 (cy 0) 2480 f23, zI m24 (cy 0) 2480 f24, zI m25 (cy 0) 20 f25, zI m26 (cy 0) 20 f26, zI m27 (cy 0) 620 f27, zI m28 (cy 0) 7 f28] hP hD
    refine lv_iload hx hb dX12_drives_15 (lv_at hlv 6 rfl) ?_
    refine lv_iconst (v := iI 2) hx hb dX12_drives_17 (by decide) ?_
    refine ir_ne (tgt := 66) hx hb dX12_drives_18 (by decide) (by first | exact hr_p4 | omega) (by show ((-2147483648) : Int) ≤ 2 ∧ (2 : Int) ≤ 2147483647; decide) (fun c_13 => ?_) (fun c_13 => by exfalso; omega)
    refine lv_aload_n hx hb dX12_drives_66 rfl (lv_at hlv 0 rfl) ?_
    refine lv_iload hx hb dX12_drives_67 (lv_at hlv 4 rfl) ?_
    refine va_put (D := D) (ci := 12) (v := vI p2) (ty := .int) (C := RX12) (T := TX12) (N := 38) hx hb hts hi12 tyX12 tyX12_ok nmX12 hown hG.1 hP hD hS 0 rfl rfl 32 (by decide) lf353 (fun _ h9 => h9) rfl (by decide +kernel) rfl rfl (Nat.le_of_ble_eq_true rfl) dX12_drives_69 (fun H locs hP hD hS => ?_)
    obtain ⟨hP, hD⟩ := pw9 [zO mm 12 [vI th, vR m1, vI tp, vI sz_, vI ap, vI bad, vI bk, vI opn, vI fp, vR m9, vR m10, vR m11, vR m12, vR m13, vR m14, vR m15, vI im, vI nr, vI nl, vR m19, vR m20, vR m21, vI sp_, vR m23, vR m24, vR m25, vR m26, vR m27, vR m28, vI wtc, vI wcl, vI 0, vI p2, vR m33, vI shu, vR m35, vI sfa, vI swr], zI m10 (cy 0) 68 f10, zI m12 (cy 0) 389 f12, zI m23 (cy 0) 2480 f23, zI m24 (cy 0) 2480 f24, zI m25 (cy 0) 20 f25, zI m26 (cy 0) 20 f26, zI m27 (cy 0) 620 f27, zI m28 (cy 0) 7 f28] hP hD
    refine lv_iload hx hb dX12_drives_72 (lv_at hlv 6 rfl) ?_
    refine lv_iconst (v := iI 1) hx hb dX12_drives_74 (by decide) ?_
    refine ir_eq (tgt := 79) hx hb dX12_drives_75 (by decide) (by first | exact hr_p4 | omega) (by show ((-2147483648) : Int) ≤ 1 ∧ (1 : Int) ≤ 2147483647; decide) (fun c_14 => by exfalso; omega) (fun c_14 => ?_)
    refine W.widen (k := 0) (n := 0) (Nat.le_of_ble_eq_true rfl) (Nat.le_of_ble_eq_true rfl) ?_
    exact W.vret hx hb hr (fun t ht hW => ⟨⟨((fun k => ([] : List Nat).getD k 0), (fun k => ([0, p2] : List Int).getD k 0), (fun k => ([f27, f28] : List (Nat → Int32)).getD k (fun _ => 0))), rfl, ⟨(by show (0 ≤ 0 ∧ 0 ≤ 5); show (0 : Int) ≤ 0 ∧ (0 : Int) ≤ 5; decide), (by show ((-2147483648) ≤ p2 ∧ p2 ≤ 2147483647); first | exact hr_p2 | omega), hf10, hf12⟩, at9 ht hP hD [0, 1, 2, 3, 4, 5, 6, 7, 8] (by decide +kernel) rfl⟩, hS.F ht⟩) hS.2.2 dX12_drives_78
end
