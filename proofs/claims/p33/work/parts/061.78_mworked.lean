theorem dX12_worked_0 : decode cX12_worked 0 = .ok (.iconst 0, 1) := by decide +kernel
theorem dX12_worked_1 : decode cX12_worked 1 = .ok (.istore_n 2, 1) := by decide +kernel
theorem dX12_worked_10 : decode cX12_worked 10 = .ok (.aload_n 0, 1) := by decide +kernel
theorem dX12_worked_100 : decode cX12_worked 100 = .ok (.bipush 12, 2) := by decide +kernel
theorem dX12_worked_102 : decode cX12_worked 102 = .ok (.if_icmp .ne 46, 3) := by decide +kernel
theorem dX12_worked_105 : decode cX12_worked 105 = .ok (.iinc 2 (-2), 3) := by decide +kernel
theorem dX12_worked_108 : decode cX12_worked 108 = .ok (.aload_n 0, 1) := by decide +kernel
theorem dX12_worked_109 : decode cX12_worked 109 = .ok (.getfield 62, 3) := by decide +kernel
theorem dX12_worked_11 : decode cX12_worked 11 = .ok (.getfield 59, 3) := by decide +kernel
theorem dX12_worked_112 : decode cX12_worked 112 = .ok (.iload_n 2, 1) := by decide +kernel
theorem dX12_worked_113 : decode cX12_worked 113 = .ok (.iconst 1, 1) := by decide +kernel
theorem dX12_worked_114 : decode cX12_worked 114 = .ok (.isub, 1) := by decide +kernel
theorem dX12_worked_115 : decode cX12_worked 115 = .ok (.aload_n 0, 1) := by decide +kernel
theorem dX12_worked_116 : decode cX12_worked 116 = .ok (.getfield 62, 3) := by decide +kernel
theorem dX12_worked_119 : decode cX12_worked 119 = .ok (.iload_n 2, 1) := by decide +kernel
theorem dX12_worked_120 : decode cX12_worked 120 = .ok (.iconst 1, 1) := by decide +kernel
theorem dX12_worked_121 : decode cX12_worked 121 = .ok (.isub, 1) := by decide +kernel
theorem dX12_worked_122 : decode cX12_worked 122 = .ok (.iaload, 1) := by decide +kernel
theorem dX12_worked_123 : decode cX12_worked 123 = .ok (.iconst 1, 1) := by decide +kernel
theorem dX12_worked_124 : decode cX12_worked 124 = .ok (.if_icmp .ne 12, 3) := by decide +kernel
theorem dX12_worked_127 : decode cX12_worked 127 = .ok (.aload_n 0, 1) := by decide +kernel
theorem dX12_worked_128 : decode cX12_worked 128 = .ok (.getfield 62, 3) := by decide +kernel
theorem dX12_worked_131 : decode cX12_worked 131 = .ok (.iload_n 2, 1) := by decide +kernel
theorem dX12_worked_132 : decode cX12_worked 132 = .ok (.iaload, 1) := by decide +kernel
theorem dX12_worked_133 : decode cX12_worked 133 = .ok (.goto 11, 3) := by decide +kernel
theorem dX12_worked_136 : decode cX12_worked 136 = .ok (.aload_n 0, 1) := by decide +kernel
theorem dX12_worked_137 : decode cX12_worked 137 = .ok (.getfield 62, 3) := by decide +kernel
theorem dX12_worked_14 : decode cX12_worked 14 = .ok (.iload_n 1, 1) := by decide +kernel
theorem dX12_worked_140 : decode cX12_worked 140 = .ok (.iload_n 2, 1) := by decide +kernel
theorem dX12_worked_141 : decode cX12_worked 141 = .ok (.iconst 1, 1) := by decide +kernel
theorem dX12_worked_142 : decode cX12_worked 142 = .ok (.iadd, 1) := by decide +kernel
theorem dX12_worked_143 : decode cX12_worked 143 = .ok (.iaload, 1) := by decide +kernel
theorem dX12_worked_144 : decode cX12_worked 144 = .ok (.iastore, 1) := by decide +kernel
theorem dX12_worked_145 : decode cX12_worked 145 = .ok (.goto 218, 3) := by decide +kernel
theorem dX12_worked_148 : decode cX12_worked 148 = .ok (.iinc 2 (-1), 3) := by decide +kernel
theorem dX12_worked_15 : decode cX12_worked 15 = .ok (.iaload, 1) := by decide +kernel
theorem dX12_worked_151 : decode cX12_worked 151 = .ok (.aload_n 0, 1) := by decide +kernel
theorem dX12_worked_152 : decode cX12_worked 152 = .ok (.getfield 62, 3) := by decide +kernel
theorem dX12_worked_155 : decode cX12_worked 155 = .ok (.iload_n 2, 1) := by decide +kernel
theorem dX12_worked_156 : decode cX12_worked 156 = .ok (.iconst 1, 1) := by decide +kernel
theorem dX12_worked_157 : decode cX12_worked 157 = .ok (.isub, 1) := by decide +kernel
theorem dX12_worked_158 : decode cX12_worked 158 = .ok (.iaload, 1) := by decide +kernel
theorem dX12_worked_159 : decode cX12_worked 159 = .ok (.istore 5, 2) := by decide +kernel
theorem dX12_worked_16 : decode cX12_worked 16 = .ok (.if_icmp .ge 353, 3) := by decide +kernel
theorem dX12_worked_161 : decode cX12_worked 161 = .ok (.aload_n 0, 1) := by decide +kernel
theorem dX12_worked_162 : decode cX12_worked 162 = .ok (.getfield 62, 3) := by decide +kernel
theorem dX12_worked_165 : decode cX12_worked 165 = .ok (.iload_n 2, 1) := by decide +kernel
theorem dX12_worked_166 : decode cX12_worked 166 = .ok (.iaload, 1) := by decide +kernel
theorem dX12_worked_167 : decode cX12_worked 167 = .ok (.istore 6, 2) := by decide +kernel
theorem dX12_worked_169 : decode cX12_worked 169 = .ok (.iconst 0, 1) := by decide +kernel
theorem dX12_worked_170 : decode cX12_worked 170 = .ok (.istore 7, 2) := by decide +kernel
theorem dX12_worked_172 : decode cX12_worked 172 = .ok (.iload 4, 2) := by decide +kernel
theorem dX12_worked_174 : decode cX12_worked 174 = .ok (.tableswitch 172 2 10 #[50, 60, 70, 80, 111, 128, 145, 172, 162], 50) := by decide +kernel
theorem dX12_worked_19 : decode cX12_worked 19 = .ok (.aload_n 0, 1) := by decide +kernel
theorem dX12_worked_2 : decode cX12_worked 2 = .ok (.aload_n 0, 1) := by decide +kernel
theorem dX12_worked_20 : decode cX12_worked 20 = .ok (.getfield 50, 3) := by decide +kernel
theorem dX12_worked_224 : decode cX12_worked 224 = .ok (.iload 5, 2) := by decide +kernel
theorem dX12_worked_226 : decode cX12_worked 226 = .ok (.iload 6, 2) := by decide +kernel
theorem dX12_worked_228 : decode cX12_worked 228 = .ok (.iadd, 1) := by decide +kernel
theorem dX12_worked_229 : decode cX12_worked 229 = .ok (.istore 7, 2) := by decide +kernel
theorem dX12_worked_23 : decode cX12_worked 23 = .ok (.iload_n 3, 1) := by decide +kernel
theorem dX12_worked_231 : decode cX12_worked 231 = .ok (.goto 122, 3) := by decide +kernel
theorem dX12_worked_234 : decode cX12_worked 234 = .ok (.iload 5, 2) := by decide +kernel
theorem dX12_worked_236 : decode cX12_worked 236 = .ok (.iload 6, 2) := by decide +kernel
theorem dX12_worked_238 : decode cX12_worked 238 = .ok (.isub, 1) := by decide +kernel
theorem dX12_worked_239 : decode cX12_worked 239 = .ok (.istore 7, 2) := by decide +kernel
theorem dX12_worked_24 : decode cX12_worked 24 = .ok (.iaload, 1) := by decide +kernel
theorem dX12_worked_241 : decode cX12_worked 241 = .ok (.goto 112, 3) := by decide +kernel
theorem dX12_worked_244 : decode cX12_worked 244 = .ok (.iload 5, 2) := by decide +kernel
theorem dX12_worked_246 : decode cX12_worked 246 = .ok (.iload 6, 2) := by decide +kernel
theorem dX12_worked_248 : decode cX12_worked 248 = .ok (.imul, 1) := by decide +kernel
theorem dX12_worked_249 : decode cX12_worked 249 = .ok (.istore 7, 2) := by decide +kernel
theorem dX12_worked_25 : decode cX12_worked 25 = .ok (.istore 4, 2) := by decide +kernel
theorem dX12_worked_251 : decode cX12_worked 251 = .ok (.goto 102, 3) := by decide +kernel
theorem dX12_worked_254 : decode cX12_worked 254 = .ok (.iload 6, 2) := by decide +kernel
theorem dX12_worked_256 : decode cX12_worked 256 = .ok (.ifCond .ne 7, 3) := by decide +kernel
theorem dX12_worked_259 : decode cX12_worked 259 = .ok (.iconst 0, 1) := by decide +kernel
theorem dX12_worked_260 : decode cX12_worked 260 = .ok (.goto 20, 3) := by decide +kernel
theorem dX12_worked_263 : decode cX12_worked 263 = .ok (.iload 6, 2) := by decide +kernel
theorem dX12_worked_265 : decode cX12_worked 265 = .ok (.iconst (-1), 1) := by decide +kernel
theorem dX12_worked_266 : decode cX12_worked 266 = .ok (.if_icmp .ne 9, 3) := by decide +kernel
theorem dX12_worked_269 : decode cX12_worked 269 = .ok (.iload 5, 2) := by decide +kernel
theorem dX12_worked_27 : decode cX12_worked 27 = .ok (.iload 4, 2) := by decide +kernel
theorem dX12_worked_271 : decode cX12_worked 271 = .ok (.ineg, 1) := by decide +kernel
theorem dX12_worked_272 : decode cX12_worked 272 = .ok (.goto 8, 3) := by decide +kernel
theorem dX12_worked_275 : decode cX12_worked 275 = .ok (.iload 5, 2) := by decide +kernel
theorem dX12_worked_277 : decode cX12_worked 277 = .ok (.iload 6, 2) := by decide +kernel
theorem dX12_worked_279 : decode cX12_worked 279 = .ok (.idiv, 1) := by decide +kernel
theorem dX12_worked_280 : decode cX12_worked 280 = .ok (.istore 7, 2) := by decide +kernel
theorem dX12_worked_282 : decode cX12_worked 282 = .ok (.goto 71, 3) := by decide +kernel
theorem dX12_worked_285 : decode cX12_worked 285 = .ok (.iload 5, 2) := by decide +kernel
theorem dX12_worked_287 : decode cX12_worked 287 = .ok (.iload 6, 2) := by decide +kernel
theorem dX12_worked_289 : decode cX12_worked 289 = .ok (.if_icmp .ge 7, 3) := by decide +kernel
theorem dX12_worked_29 : decode cX12_worked 29 = .ok (.iconst 1, 1) := by decide +kernel
theorem dX12_worked_292 : decode cX12_worked 292 = .ok (.iconst 1, 1) := by decide +kernel
theorem dX12_worked_293 : decode cX12_worked 293 = .ok (.goto 4, 3) := by decide +kernel
theorem dX12_worked_296 : decode cX12_worked 296 = .ok (.iconst 0, 1) := by decide +kernel
theorem dX12_worked_297 : decode cX12_worked 297 = .ok (.istore 7, 2) := by decide +kernel
theorem dX12_worked_299 : decode cX12_worked 299 = .ok (.goto 54, 3) := by decide +kernel
theorem dX12_worked_3 : decode cX12_worked 3 = .ok (.getfield 56, 3) := by decide +kernel
theorem dX12_worked_30 : decode cX12_worked 30 = .ok (.if_icmp .gt 40, 3) := by decide +kernel
theorem dX12_worked_302 : decode cX12_worked 302 = .ok (.iload 5, 2) := by decide +kernel
theorem dX12_worked_304 : decode cX12_worked 304 = .ok (.iload 6, 2) := by decide +kernel
theorem dX12_worked_306 : decode cX12_worked 306 = .ok (.if_icmp .le 7, 3) := by decide +kernel
theorem dX12_worked_309 : decode cX12_worked 309 = .ok (.iconst 1, 1) := by decide +kernel
theorem dX12_worked_310 : decode cX12_worked 310 = .ok (.goto 4, 3) := by decide +kernel
theorem dX12_worked_313 : decode cX12_worked 313 = .ok (.iconst 0, 1) := by decide +kernel
theorem dX12_worked_314 : decode cX12_worked 314 = .ok (.istore 7, 2) := by decide +kernel
theorem dX12_worked_316 : decode cX12_worked 316 = .ok (.goto 37, 3) := by decide +kernel
theorem dX12_worked_319 : decode cX12_worked 319 = .ok (.iload 5, 2) := by decide +kernel
theorem dX12_worked_321 : decode cX12_worked 321 = .ok (.iload 6, 2) := by decide +kernel
theorem dX12_worked_323 : decode cX12_worked 323 = .ok (.if_icmp .ne 7, 3) := by decide +kernel
theorem dX12_worked_326 : decode cX12_worked 326 = .ok (.iconst 1, 1) := by decide +kernel
theorem dX12_worked_327 : decode cX12_worked 327 = .ok (.goto 4, 3) := by decide +kernel
theorem dX12_worked_33 : decode cX12_worked 33 = .ok (.aload_n 0, 1) := by decide +kernel
theorem dX12_worked_330 : decode cX12_worked 330 = .ok (.iconst 0, 1) := by decide +kernel
theorem dX12_worked_331 : decode cX12_worked 331 = .ok (.istore 7, 2) := by decide +kernel
theorem dX12_worked_333 : decode cX12_worked 333 = .ok (.goto 20, 3) := by decide +kernel
theorem dX12_worked_336 : decode cX12_worked 336 = .ok (.iload 5, 2) := by decide +kernel
theorem dX12_worked_338 : decode cX12_worked 338 = .ok (.iload 6, 2) := by decide +kernel
theorem dX12_worked_34 : decode cX12_worked 34 = .ok (.getfield 62, 3) := by decide +kernel
theorem dX12_worked_340 : decode cX12_worked 340 = .ok (.iand, 1) := by decide +kernel
theorem dX12_worked_341 : decode cX12_worked 341 = .ok (.istore 7, 2) := by decide +kernel
theorem dX12_worked_343 : decode cX12_worked 343 = .ok (.goto 10, 3) := by decide +kernel
theorem dX12_worked_346 : decode cX12_worked 346 = .ok (.iload 5, 2) := by decide +kernel
theorem dX12_worked_348 : decode cX12_worked 348 = .ok (.iload 6, 2) := by decide +kernel
theorem dX12_worked_350 : decode cX12_worked 350 = .ok (.ior, 1) := by decide +kernel
theorem dX12_worked_351 : decode cX12_worked 351 = .ok (.istore 7, 2) := by decide +kernel
theorem dX12_worked_353 : decode cX12_worked 353 = .ok (.aload_n 0, 1) := by decide +kernel
theorem dX12_worked_354 : decode cX12_worked 354 = .ok (.getfield 62, 3) := by decide +kernel
theorem dX12_worked_357 : decode cX12_worked 357 = .ok (.iload_n 2, 1) := by decide +kernel
theorem dX12_worked_358 : decode cX12_worked 358 = .ok (.iconst 1, 1) := by decide +kernel
theorem dX12_worked_359 : decode cX12_worked 359 = .ok (.isub, 1) := by decide +kernel
theorem dX12_worked_360 : decode cX12_worked 360 = .ok (.iload 7, 2) := by decide +kernel
theorem dX12_worked_362 : decode cX12_worked 362 = .ok (.iastore, 1) := by decide +kernel
theorem dX12_worked_363 : decode cX12_worked 363 = .ok (.iinc 3 1, 3) := by decide +kernel
theorem dX12_worked_366 : decode cX12_worked 366 = .ok (.goto (-357), 3) := by decide +kernel
theorem dX12_worked_369 : decode cX12_worked 369 = .ok (.iload_n 2, 1) := by decide +kernel
theorem dX12_worked_37 : decode cX12_worked 37 = .ok (.iload_n 2, 1) := by decide +kernel
theorem dX12_worked_370 : decode cX12_worked 370 = .ok (.ifCond .ne 7, 3) := by decide +kernel
theorem dX12_worked_373 : decode cX12_worked 373 = .ok (.iconst 0, 1) := by decide +kernel
theorem dX12_worked_374 : decode cX12_worked 374 = .ok (.goto 9, 3) := by decide +kernel
theorem dX12_worked_377 : decode cX12_worked 377 = .ok (.aload_n 0, 1) := by decide +kernel
theorem dX12_worked_378 : decode cX12_worked 378 = .ok (.getfield 62, 3) := by decide +kernel
theorem dX12_worked_38 : decode cX12_worked 38 = .ok (.iload 4, 2) := by decide +kernel
theorem dX12_worked_381 : decode cX12_worked 381 = .ok (.iconst 0, 1) := by decide +kernel
theorem dX12_worked_382 : decode cX12_worked 382 = .ok (.iaload, 1) := by decide +kernel
theorem dX12_worked_383 : decode cX12_worked 383 = .ok (.ireturn, 1) := by decide +kernel
theorem dX12_worked_40 : decode cX12_worked 40 = .ok (.ifCond .ne 12, 3) := by decide +kernel
theorem dX12_worked_43 : decode cX12_worked 43 = .ok (.aload_n 0, 1) := by decide +kernel
theorem dX12_worked_44 : decode cX12_worked 44 = .ok (.getfield 53, 3) := by decide +kernel
theorem dX12_worked_47 : decode cX12_worked 47 = .ok (.iload_n 3, 1) := by decide +kernel
theorem dX12_worked_48 : decode cX12_worked 48 = .ok (.iaload, 1) := by decide +kernel
theorem dX12_worked_49 : decode cX12_worked 49 = .ok (.goto 14, 3) := by decide +kernel
theorem dX12_worked_52 : decode cX12_worked 52 = .ok (.aload_n 0, 1) := by decide +kernel
theorem dX12_worked_53 : decode cX12_worked 53 = .ok (.getfield 65, 3) := by decide +kernel
theorem dX12_worked_56 : decode cX12_worked 56 = .ok (.aload_n 0, 1) := by decide +kernel
theorem dX12_worked_57 : decode cX12_worked 57 = .ok (.getfield 53, 3) := by decide +kernel
theorem dX12_worked_6 : decode cX12_worked 6 = .ok (.iload_n 1, 1) := by decide +kernel
theorem dX12_worked_60 : decode cX12_worked 60 = .ok (.iload_n 3, 1) := by decide +kernel
theorem dX12_worked_61 : decode cX12_worked 61 = .ok (.iaload, 1) := by decide +kernel
theorem dX12_worked_62 : decode cX12_worked 62 = .ok (.iaload, 1) := by decide +kernel
theorem dX12_worked_63 : decode cX12_worked 63 = .ok (.iastore, 1) := by decide +kernel
theorem dX12_worked_64 : decode cX12_worked 64 = .ok (.iinc 2 1, 3) := by decide +kernel
theorem dX12_worked_67 : decode cX12_worked 67 = .ok (.goto 296, 3) := by decide +kernel
theorem dX12_worked_7 : decode cX12_worked 7 = .ok (.iaload, 1) := by decide +kernel
theorem dX12_worked_70 : decode cX12_worked 70 = .ok (.iload 4, 2) := by decide +kernel
theorem dX12_worked_72 : decode cX12_worked 72 = .ok (.bipush 9, 2) := by decide +kernel
theorem dX12_worked_74 : decode cX12_worked 74 = .ok (.if_icmp .ne 24, 3) := by decide +kernel
theorem dX12_worked_77 : decode cX12_worked 77 = .ok (.aload_n 0, 1) := by decide +kernel
theorem dX12_worked_78 : decode cX12_worked 78 = .ok (.getfield 62, 3) := by decide +kernel
theorem dX12_worked_8 : decode cX12_worked 8 = .ok (.istore_n 3, 1) := by decide +kernel
theorem dX12_worked_81 : decode cX12_worked 81 = .ok (.iload_n 2, 1) := by decide +kernel
theorem dX12_worked_82 : decode cX12_worked 82 = .ok (.iconst 1, 1) := by decide +kernel
theorem dX12_worked_83 : decode cX12_worked 83 = .ok (.isub, 1) := by decide +kernel
theorem dX12_worked_84 : decode cX12_worked 84 = .ok (.iconst 1, 1) := by decide +kernel
theorem dX12_worked_85 : decode cX12_worked 85 = .ok (.aload_n 0, 1) := by decide +kernel
theorem dX12_worked_86 : decode cX12_worked 86 = .ok (.getfield 62, 3) := by decide +kernel
theorem dX12_worked_89 : decode cX12_worked 89 = .ok (.iload_n 2, 1) := by decide +kernel
theorem dX12_worked_9 : decode cX12_worked 9 = .ok (.iload_n 3, 1) := by decide +kernel
theorem dX12_worked_90 : decode cX12_worked 90 = .ok (.iconst 1, 1) := by decide +kernel
theorem dX12_worked_91 : decode cX12_worked 91 = .ok (.isub, 1) := by decide +kernel
theorem dX12_worked_92 : decode cX12_worked 92 = .ok (.iaload, 1) := by decide +kernel
theorem dX12_worked_93 : decode cX12_worked 93 = .ok (.isub, 1) := by decide +kernel
theorem dX12_worked_94 : decode cX12_worked 94 = .ok (.iastore, 1) := by decide +kernel
theorem dX12_worked_95 : decode cX12_worked 95 = .ok (.goto 268, 3) := by decide +kernel
theorem dX12_worked_98 : decode cX12_worked 98 = .ok (.iload 4, 2) := by decide +kernel
def vs_m_worked : List Cond := .code yX12_worked cX12_worked 8 (some .int) :: (([.fieldLink RX12 56 "KerbSplashModel" "lawFrom" "[I", .fieldLink RX12 59 "KerbSplashModel" "lawTo" "[I", .fieldLink RX12 62 "KerbSplashModel" "stack" "[I", .fieldLink RX12 50 "KerbSplashModel" "step" "[I", .fieldLink RX12 65 "KerbSplashModel" "names" "[I", .fieldLink RX12 53 "KerbSplashModel" "stepValue" "[I"] : List Cond) ++ ((wsX120) ++ ([])))
theorem gd_m_worked : vs_m_worked.all goodWord = true := gd_C (by decide +kernel) (gd_A (by decide +kernel) (gd_A (by decide +kernel) rfl))
set_option maxHeartbeats 4000000 in
set_option maxRecDepth 100000 in
theorem m_worked (l : Launch) (hl : l.stackTraces = false) (D : va_G) (cy : Nat → ClassId) (sa : Nat → Nat) (mm m1 m9 m10 m11 m12 m13 m14 m15 m19 m20 m21 m23 m24 m25 m26 m27 m28 m33 m35 : Nat) (th tp sz_ ap bad bk opn fp im nr nl sp_ wtc wcl ir ip shu sfa swr : Int) (f23 f24 f25 f26 f27 f28 : Nat → Int32) (n : Int) (sz : Nat) (hr_th : (-2147483648) ≤ th ∧ th ≤ 2147483647) (hr_tp : 0 ≤ tp ∧ tp ≤ 600) (hr_sz_ : 0 ≤ sz_ ∧ sz_ ≤ 600) (hr_ap : 0 ≤ ap ∧ ap ≤ 602) (hr_bad : (-1) ≤ bad ∧ bad ≤ 602) (hr_bk : 0 ≤ bk ∧ bk ≤ 4) (hr_opn : 0 ≤ opn ∧ opn ≤ 7) (hr_fp : (-2147483648) ≤ fp ∧ fp ≤ 2147483647) (hr_im : 0 ≤ im ∧ im ≤ 3) (hr_nr : 0 ≤ nr ∧ nr ≤ 4) (hr_nl : 0 ≤ nl ∧ nl ≤ 4) (hr_sp_ : 0 ≤ sp_ ∧ sp_ ≤ 602) (hr_wtc : (-2147483648) ≤ wtc ∧ wtc ≤ 2147483647) (hr_wcl : 0 ≤ wcl ∧ wcl ≤ 95) (hr_ir : 0 ≤ ir ∧ ir ≤ 5) (hr_ip : (-2147483648) ≤ ip ∧ ip ≤ 2147483647) (hr_shu : (-2147483648) ≤ shu ∧ shu ≤ 2147483647) (hr_sfa : (-2147483648) ≤ sfa ∧ sfa ≤ 2147483647) (hr_swr : (-2147483648) ≤ swr ∧ swr ≤ 2147483647) (hr_n : 0 ≤ n ∧ n ≤ 19) (hp0 : n < 5 * nl) (hn_li : LI nl f23 f24 f25 f26) : Met l yX12_worked vs_m_worked ({ frames := 0, cells := 0, slots := 0, locals := 0 }) (va_Pc [vR mm, vI n] (pcW D cy sa sz [zO mm 12 [vI th, vR m1, vI tp, vI sz_, vI ap, vI bad, vI bk, vI opn, vI fp, vR m9, vR m10, vR m11, vR m12, vR m13, vR m14, vR m15, vI im, vI nr, vI nl, vR m19, vR m20, vR m21, vI sp_, vR m23, vR m24, vR m25, vR m26, vR m27, vR m28, vI wtc, vI wcl, vI ir, vI ip, vR m33, vI shu, vR m35, vI sfa, vI swr], zI m23 (cy 0) 2480 f23, zI m24 (cy 0) 2480 f24, zI m25 (cy 0) 20 f25, zI m26 (cy 0) 20 f26, zI m27 (cy 0) 620 f27, zI m28 (cy 0) 7 f28])) (va_Qi (fun (r : Int32) (u : SV) => r = iI (u.2.1 0) ∧ ((-2147483648) ≤ u.2.1 0 ∧ u.2.1 0 ≤ 2147483647)) (fun u t => atW D (va_A [zO mm 12 [vI th, vR m1, vI tp, vI sz_, vI ap, vI bad, vI bk, vI opn, vI fp, vR m9, vR m10, vR m11, vR m12, vR m13, vR m14, vR m15, vI im, vI nr, vI nl, vR m19, vR m20, vR m21, vI sp_, vR m23, vR m24, vR m25, vR m26, vR m27, vR m28, vI wtc, vI wcl, vI ir, vI ip, vR m33, vI shu, vR m35, vI sfa, vI swr], zI m23 (cy 0) 2480 f23, zI m24 (cy 0) 2480 f24, zI m25 (cy 0) 20 f25, zI m26 (cy 0) 20 f26, zI m27 (cy 0) 620 f27, zI m28 (cy 0) 7 f28] sz) [zO mm 12 [vI th, vR m1, vI tp, vI sz_, vI ap, vI bad, vI bk, vI opn, vI fp, vR m9, vR m10, vR m11, vR m12, vR m13, vR m14, vR m15, vI im, vI nr, vI nl, vR m19, vR m20, vR m21, vI sp_, vR m23, vR m24, vR m25, vR m26, vR m27, vR m28, vI wtc, vI wcl, vI ir, vI ip, vR m33, vI shu, vR m35, vI sfa, vI swr], zI m23 (cy 0) 2480 f23, zI m24 (cy 0) 2480 f24, zI m25 (cy 0) 20 f25, zI m26 (cy 0) 20 f26, zI m27 (cy 0) 620 (u.2.2 0), zI m28 (cy 0) 7 f28] t) (va_A [zO mm 12 [vI th, vR m1, vI tp, vI sz_, vI ap, vI bad, vI bk, vI opn, vI fp, vR m9, vR m10, vR m11, vR m12, vR m13, vR m14, vR m15, vI im, vI nr, vI nl, vR m19, vR m20, vR m21, vI sp_, vR m23, vR m24, vR m25, vR m26, vR m27, vR m28, vI wtc, vI wcl, vI ir, vI ip, vR m33, vI shu, vR m35, vI sfa, vI swr], zI m23 (cy 0) 2480 f23, zI m24 (cy 0) 2480 f24, zI m25 (cy 0) 20 f25, zI m26 (cy 0) 20 f26, zI m27 (cy 0) 620 f27, zI m28 (cy 0) 7 f28] sz)) 0 0 (va_A [zO mm 12 [vI th, vR m1, vI tp, vI sz_, vI ap, vI bad, vI bk, vI opn, vI fp, vR m9, vR m10, vR m11, vR m12, vR m13, vR m14, vR m15, vI im, vI nr, vI nl, vR m19, vR m20, vR m21, vI sp_, vR m23, vR m24, vR m25, vR m26, vR m27, vR m28, vI wtc, vI wcl, vI ir, vI ip, vR m33, vI shu, vR m35, vI sfa, vI swr], zI m23 (cy 0) 2480 f23, zI m24 (cy 0) 2480 f24, zI m25 (cy 0) 20 f25, zI m26 (cy 0) 20 f26, zI m27 (cy 0) 620 f27, zI m28 (cy 0) 7 f28] sz) := by
  refine Met.ofW (cc := cX12_worked) (maxL := 8) (ret := (some .int)) (by decide) rfl ?_
  intro p e s m args below meth c s₁ B hml hv
  obtain ⟨rfl, hsz, hP, hG, hD0, hT⟩ := hv
  have hx := B.exec
  have hb := B.bytes
  have hr := B.returns
  have hts := atoms_spec (ws := vs_m_worked) B.pre
  have hown : s.vm.findClass RX12 = some m.cls := findClass_of_methodNamed B.named
  have hlocks := B.notSynchronized
  subst hsz
  have hD := hD0.self (sz := s.heap.size)
  generalize hAe : va_A [zO mm 12 [vI th, vR m1, vI tp, vI sz_, vI ap, vI bad, vI bk, vI opn, vI fp, vR m9, vR m10, vR m11, vR m12, vR m13, vR m14, vR m15, vI im, vI nr, vI nl, vR m19, vR m20, vR m21, vI sp_, vR m23, vR m24, vR m25, vR m26, vR m27, vR m28, vI wtc, vI wcl, vI ir, vI ip, vR m33, vI shu, vR m35, vI sfa, vI swr], zI m23 (cy 0) 2480 f23, zI m24 (cy 0) 2480 f24, zI m25 (cy 0) 20 f25, zI m26 (cy 0) 20 f26, zI m27 (cy 0) 620 f27, zI m28 (cy 0) 7 f28] s.heap.size = A at hD hT ⊢
  have hA : ∀ q : Nat, s.heap.size ≤ q → A q := fun q h => by rw [← hAe]; exact Or.inr h
  have hS : va_S A s.heap s.heap [] := va_S.rf
  have hl0 := lv_entry ([vR mm, vI n]) (n := 8) (Nat.le_of_ble_eq_true rfl)
  rw [lg_entry_eq]
  generalize (lg_sl ([vR mm, vI n]) ++ List.replicate (8 - (lg_sl ([vR mm, vI n])).length) Slot.unset).toArray = ls at hl0 ⊢
  have hlv : lv_has ls 8 [(0, vR mm), (1, vI n)] := hl0
  have lf56 := hts (.fieldLink RX12 56 "KerbSplashModel" "lawFrom" "[I") (List.mem_of_getElem? (i := 1) rfl)
  have hi12 : ∀ w ∈ wsX120, w ∈ vs_m_worked := fun w h => List.mem_cons_of_mem _ (List.mem_append_right _ (List.mem_append_left _ h))
  have lf59 := hts (.fieldLink RX12 59 "KerbSplashModel" "lawTo" "[I") (List.mem_of_getElem? (i := 2) rfl)
  have lf62 := hts (.fieldLink RX12 62 "KerbSplashModel" "stack" "[I") (List.mem_of_getElem? (i := 3) rfl)
  have lf50 := hts (.fieldLink RX12 50 "KerbSplashModel" "step" "[I") (List.mem_of_getElem? (i := 4) rfl)
  have lf65 := hts (.fieldLink RX12 65 "KerbSplashModel" "names" "[I") (List.mem_of_getElem? (i := 5) rfl)
  have lf53 := hts (.fieldLink RX12 53 "KerbSplashModel" "stepValue" "[I") (List.mem_of_getElem? (i := 6) rfl)
  refine lv_iconst (v := iI 0) hx hb dX12_worked_0 (by decide) ?_
  refine lv_istore_n (lv' := [(2, vI 0), (0, vR mm), (1, vI n)]) hx hb dX12_worked_1 rfl hlv (by decide) rfl (fun ls hlv => ?_)
  refine lv_aload_n hx hb dX12_worked_2 rfl (lv_at hlv 1 rfl) ?_
  refine va_get (D := D) (ci := 12) (v := vR m25) (C := RX12) (T := TX12) (N := 38) hx hb hts hi12 hown hG.1 hP 0 rfl rfl 25 (by decide) lf56 (fun _ h9 => h9) rfl dX12_worked_3 ?_
  refine lv_iload_n hx hb dX12_worked_6 rfl (lv_at hlv 2 rfl) ?_
  refine va_iald hx hb hG.1 hP 3 0 rfl rfl (iI_in (by omega) (by decide)) dX12_worked_7 ?_
  refine lt_nz (i := n) (by omega) (fun z_1 hz_1 lz_1 uz_1 => ?_)
  refine lv_istore_n (lv' := [(3, vI z_1), (2, vI 0), (0, vR mm), (1, vI n)]) hx hb dX12_worked_8 rfl hlv (by decide) rfl (fun ls hlv => ?_)
  rcases hn_li n.toNat (by omega) with hE | ⟨h1_, h2_, h3_, h4_, h5_, dep, d0, d1, hdep⟩
  · refine lv_iload_n hx hb dX12_worked_9 rfl (lv_at hlv 0 rfl) ?_
    refine lv_aload_n hx hb dX12_worked_10 rfl (lv_at hlv 2 rfl) ?_
    refine va_get (D := D) (ci := 12) (v := vR m26) (C := RX12) (T := TX12) (N := 38) hx hb hts hi12 hown hG.1 hP 0 rfl rfl 26 (by decide) lf59 (fun _ h9 => h9) rfl dX12_worked_11 ?_
    refine lv_iload_n hx hb dX12_worked_14 rfl (lv_at hlv 3 rfl) ?_
    refine va_iald hx hb hG.1 hP 4 0 rfl rfl (iI_in (by omega) (by decide)) dX12_worked_15 ?_
    refine lt_nz (i := n) (by omega) (fun z_2 hz_2 lz_2 uz_2 => ?_)
    refine ir_ge (tgt := 369) hx hb dX12_worked_16 (by decide) (by omega) (by omega) (fun c_3 => ?_) (fun c_3 => by exfalso; omega)
    refine lv_iload_n hx hb dX12_worked_369 rfl (lv_at hlv 1 rfl) ?_
    refine iz_ne (tgt := 377) hx hb dX12_worked_370 (by decide) (by show ((-2147483648) : Int) ≤ 0 ∧ (0 : Int) ≤ 2147483647; decide) (fun c_4 => by exfalso; omega) (fun c_4 => ?_)
    refine lv_iconst (v := iI 0) hx hb dX12_worked_373 (by decide) ?_
    refine lv_goto (tgt := 383) hx hb dX12_worked_374 (by decide) ?_
    refine W.widen (k := 0) (n := 0) (Nat.le_of_ble_eq_true rfl) (Nat.le_of_ble_eq_true rfl) ?_
    exact W.iret (v := iI 0) hx hb hr (fun t ht hW => ⟨⟨iI 0, ((fun k => ([] : List Nat).getD k 0), (fun k => ([0] : List Int).getD k 0), (fun k => ([f27] : List (Nat → Int32)).getD k (fun _ => 0))), rfl, ⟨rfl, (by show ((-2147483648) ≤ 0 ∧ 0 ≤ 2147483647); show ((-2147483648) : Int) ≤ 0 ∧ (0 : Int) ≤ 2147483647; decide)⟩, by rw [ht]; exact hP.sub [0, 1, 2, 3, 4, 5, 6] rfl, hD.sub [0, 1, 2, 3, 4, 5, 6] (by decide) rfl⟩, hS.F ht⟩) hS.2.2 dX12_worked_383
  · refine (?_ : ∀ (fu : Nat) (qn : Int) (qk : Int) (kg : Nat → Int32) (H : Heap) (locs : List Loc) (ls : Array Slot), 2480 - qk < (fu : Int) → (0 ≤ qn ∧ qn ≤ 620) → (0 ≤ qk ∧ qk ≤ 2480) → (nz f25 n.toNat ≤ qk) → (qk ≤ nz f26 n.toNat) → (qn = ((dep qk.toNat : Nat) : Int)) → (qn ≤ qk - nz f25 n.toNat) → va_P D vwCl [zO mm 12 [vI th, vR m1, vI tp, vI sz_, vI ap, vI bad, vI bk, vI opn, vI fp, vR m9, vR m10, vR m11, vR m12, vR m13, vR m14, vR m15, vI im, vI nr, vI nl, vR m19, vR m20, vR m21, vI sp_, vR m23, vR m24, vR m25, vR m26, vR m27, vR m28, vI wtc, vI wcl, vI ir, vI ip, vR m33, vI shu, vR m35, vI sfa, vI swr], zI m23 (cy 0) 2480 f23, zI m24 (cy 0) 2480 f24, zI m25 (cy 0) 20 f25, zI m26 (cy 0) 20 f26, zI m27 (cy 0) 620 kg, zI m28 (cy 0) 7 f28] H → va_D A [zO mm 12 [vI th, vR m1, vI tp, vI sz_, vI ap, vI bad, vI bk, vI opn, vI fp, vR m9, vR m10, vR m11, vR m12, vR m13, vR m14, vR m15, vI im, vI nr, vI nl, vR m19, vR m20, vR m21, vI sp_, vR m23, vR m24, vR m25, vR m26, vR m27, vR m28, vI wtc, vI wcl, vI ir, vI ip, vR m33, vI shu, vR m35, vI sfa, vI swr], zI m23 (cy 0) 2480 f23, zI m24 (cy 0) 2480 f24, zI m25 (cy 0) 20 f25, zI m26 (cy 0) 20 f26, zI m27 (cy 0) 620 kg, zI m28 (cy 0) 7 f28] → va_S A s.heap H locs → lv_has ls 8 [(3, vI qk), (2, vI qn), (0, vR mm), (1, vI n)] → W p l e _ s m _ below meth c H locs _ _ _ (F0 m 9 ls [])) (((2480 - z_1) + 1 : Int)).toNat 0 z_1 f27 _ _ _ (by omega) (by show (0 : Int) ≤ 0 ∧ (0 : Int) ≤ 620; decide) (by omega) (by omega) (by omega) (by rw [show z_1.toNat = (nz f25 n.toNat).toNat by omega, d0]; rfl) (by omega)  hP hD hS hlv
    clear hP hD hS hlv
    intro fu
    induction fu with
    | zero => intro qn qk kg H locs ls hm9 hl9_0 hl9_1 hl9_2 hl9_3 hl9_4 hl9_5  hP hD hS hlv; omega
    | succ fu ih9 =>
      intro qn qk kg H locs ls hm9 hl9_0 hl9_1 hl9_2 hl9_3 hl9_4 hl9_5  hP hD hS hlv
      refine lv_iload_n hx hb dX12_worked_9 rfl (lv_at hlv 0 rfl) ?_
      refine lv_aload_n hx hb dX12_worked_10 rfl (lv_at hlv 2 rfl) ?_
      refine va_get (D := D) (ci := 12) (v := vR m26) (C := RX12) (T := TX12) (N := 38) hx hb hts hi12 hown hG.1 hP 0 rfl rfl 26 (by decide) lf59 (fun _ h9 => h9) rfl dX12_worked_11 ?_
      refine lv_iload_n hx hb dX12_worked_14 rfl (lv_at hlv 3 rfl) ?_
      refine va_iald hx hb hG.1 hP 4 0 rfl rfl (iI_in (by omega) (by decide)) dX12_worked_15 ?_
      refine lt_nz (i := n) (by omega) (fun z_5 hz_5 lz_5 uz_5 => ?_)
      refine ir_ge (tgt := 369) hx hb dX12_worked_16 (by decide) (by first | exact rgw hl9_1 (by decide) (by decide) | omega) (by omega) (fun c_6 => ?_) (fun c_6 => ?_)
      · refine lv_iload_n hx hb dX12_worked_369 rfl (lv_at hlv 1 rfl) ?_
        refine iz_ne (tgt := 377) hx hb dX12_worked_370 (by decide) (by first | exact rgw hl9_0 (by decide) (by decide) | omega) (fun c_7 => ?_) (fun c_7 => ?_)
        · refine lv_aload_n hx hb dX12_worked_377 rfl (lv_at hlv 2 rfl) ?_
          refine va_get (D := D) (ci := 12) (v := vR m27) (C := RX12) (T := TX12) (N := 38) hx hb hts hi12 hown hG.1 hP 0 rfl rfl 27 (by decide) lf62 (fun _ h9 => h9) rfl dX12_worked_378 ?_
          refine lv_iconst (v := iI 0) hx hb dX12_worked_381 (by decide) ?_
          refine va_iald hx hb hG.1 hP 5 0 rfl rfl (iI_in (by omega) (by decide)) dX12_worked_382 ?_
          refine lt_z (fun z_8 ez_8 lz_8 hz_8 => ?_)
          refine W.widen (k := 0) (n := 0) (Nat.le_of_ble_eq_true rfl) (Nat.le_of_ble_eq_true rfl) ?_
          exact W.iret (v := iI z_8) hx hb hr (fun t ht hW => ⟨⟨iI z_8, ((fun k => ([] : List Nat).getD k 0), (fun k => ([z_8] : List Int).getD k 0), (fun k => ([kg] : List (Nat → Int32)).getD k (fun _ => 0))), rfl, ⟨rfl, (by show ((-2147483648) ≤ z_8 ∧ z_8 ≤ 2147483647); omega)⟩, by rw [ht]; exact hP.sub [0, 1, 2, 3, 4, 5, 6] rfl, hD.sub [0, 1, 2, 3, 4, 5, 6] (by decide) rfl⟩, hS.F ht⟩) hS.2.2 dX12_worked_383
        · refine lv_iconst (v := iI 0) hx hb dX12_worked_373 (by decide) ?_
          refine lv_goto (tgt := 383) hx hb dX12_worked_374 (by decide) ?_
          refine W.widen (k := 0) (n := 0) (Nat.le_of_ble_eq_true rfl) (Nat.le_of_ble_eq_true rfl) ?_
          exact W.iret (v := iI 0) hx hb hr (fun t ht hW => ⟨⟨iI 0, ((fun k => ([] : List Nat).getD k 0), (fun k => ([0] : List Int).getD k 0), (fun k => ([kg] : List (Nat → Int32)).getD k (fun _ => 0))), rfl, ⟨rfl, (by show ((-2147483648) ≤ 0 ∧ 0 ≤ 2147483647); show ((-2147483648) : Int) ≤ 0 ∧ (0 : Int) ≤ 2147483647; decide)⟩, by rw [ht]; exact hP.sub [0, 1, 2, 3, 4, 5, 6] rfl, hD.sub [0, 1, 2, 3, 4, 5, 6] (by decide) rfl⟩, hS.F ht⟩) hS.2.2 dX12_worked_383
      · refine lv_aload_n hx hb dX12_worked_19 rfl (lv_at hlv 2 rfl) ?_
        refine va_get (D := D) (ci := 12) (v := vR m23) (C := RX12) (T := TX12) (N := 38) hx hb hts hi12 hown hG.1 hP 0 rfl rfl 23 (by decide) lf50 (fun _ h9 => h9) rfl dX12_worked_20 ?_
        refine lv_iload_n hx hb dX12_worked_23 rfl (lv_at hlv 0 rfl) ?_
        refine va_iald hx hb hG.1 hP 1 0 rfl rfl (iI_in (by omega) (by decide)) dX12_worked_24 ?_
        refine lt_nz (i := qk) (by omega) (fun z_9 hz_9 lz_9 uz_9 => ?_)
        have hst_ := st_case (hdep qk.toNat (by omega) (by omega)) (z := z_9) (by rw [hz_9]; exact nz_e f23 qk.toNat) (by omega)
        refine lv_istore (lv' := [(4, vI z_9), (3, vI qk), (2, vI qn), (0, vR mm), (1, vI n)]) hx hb dX12_worked_25 hlv (by decide) rfl (fun ls hlv => ?_)
        refine lv_iload hx hb dX12_worked_27 (lv_at hlv 0 rfl) ?_
        refine lv_iconst (v := iI 1) hx hb dX12_worked_29 (by decide) ?_
        refine ir_gt (tgt := 70) hx hb dX12_worked_30 (by decide) (by omega) (by show ((-2147483648) : Int) ≤ 1 ∧ (1 : Int) ≤ 2147483647; decide) (fun c_10 => ?_) (fun c_10 => ?_)
        · refine lv_iload hx hb dX12_worked_70 (lv_at hlv 0 rfl) ?_
          refine lv_bipush (v := iI 9) hx hb dX12_worked_72 (by decide) ?_
          refine ir_ne (tgt := 98) hx hb dX12_worked_74 (by decide) (by omega) (by show ((-2147483648) : Int) ≤ 9 ∧ (9 : Int) ≤ 2147483647; decide) (fun c_11 => ?_) (fun c_11 => ?_)
          · refine lv_iload hx hb dX12_worked_98 (lv_at hlv 0 rfl) ?_
            refine lv_bipush (v := iI 12) hx hb dX12_worked_100 (by decide) ?_
            refine ir_ne (tgt := 148) hx hb dX12_worked_102 (by decide) (by omega) (by show ((-2147483648) : Int) ≤ 12 ∧ (12 : Int) ≤ 2147483647; decide) (fun c_12 => ?_) (fun c_12 => ?_)
            · obtain ⟨z_13, hz_13⟩ : ∃ z : Int, z = qn + (-1) := ⟨_, rfl⟩
              refine lv_iinc (v := iI z_13) (lv' := [(2, vI z_13), (4, vI z_9), (3, vI qk), (0, vR mm), (1, vI n)]) hx hb dX12_worked_148 hlv (k := 2) rfl (by rw [hz_13]; exact (Int32.ofInt_add _ _).symm) (by decide) rfl (fun ls hlv => ?_)
              refine lv_aload_n hx hb dX12_worked_151 rfl (lv_at hlv 3 rfl) ?_
              refine va_get (D := D) (ci := 12) (v := vR m27) (C := RX12) (T := TX12) (N := 38) hx hb hts hi12 hown hG.1 hP 0 rfl rfl 27 (by decide) lf62 (fun _ h9 => h9) rfl dX12_worked_152 ?_
              refine lv_iload_n hx hb dX12_worked_155 rfl (lv_at hlv 0 rfl) ?_
              refine lv_iconst (v := iI 1) hx hb dX12_worked_156 (by decide) ?_
              refine lv_isub hx hb dX12_worked_157 ?_
              refine lt_e (e0 := z_13 - 1) (Int32.ofInt_sub _ _).symm (fun z_14 hz_14 => ?_)
              refine va_iald hx hb hG.1 hP 5 0 rfl rfl (iI_in (by omega) (by decide)) dX12_worked_158 ?_
              refine lt_z (fun z_15 ez_15 lz_15 hz_15 => ?_)
              refine lv_istore (lv' := [(5, vI z_15), (2, vI z_13), (4, vI z_9), (3, vI qk), (0, vR mm), (1, vI n)]) hx hb dX12_worked_159 hlv (by decide) rfl (fun ls hlv => ?_)
              refine lv_aload_n hx hb dX12_worked_161 rfl (lv_at hlv 4 rfl) ?_
              refine va_get (D := D) (ci := 12) (v := vR m27) (C := RX12) (T := TX12) (N := 38) hx hb hts hi12 hown hG.1 hP 0 rfl rfl 27 (by decide) lf62 (fun _ h9 => h9) rfl dX12_worked_162 ?_
              refine lv_iload_n hx hb dX12_worked_165 rfl (lv_at hlv 1 rfl) ?_
              refine va_iald hx hb hG.1 hP 5 0 rfl rfl (iI_in (by omega) (by decide)) dX12_worked_166 ?_
              refine lt_z (fun z_16 ez_16 lz_16 hz_16 => ?_)
              refine lv_istore (lv' := [(6, vI z_16), (5, vI z_15), (2, vI z_13), (4, vI z_9), (3, vI qk), (0, vR mm), (1, vI n)]) hx hb dX12_worked_167 hlv (by decide) rfl (fun ls hlv => ?_)
              refine lv_iconst (v := iI 0) hx hb dX12_worked_169 (by decide) ?_
              refine lv_istore (lv' := [(7, vI 0), (6, vI z_16), (5, vI z_15), (2, vI z_13), (4, vI z_9), (3, vI qk), (0, vR mm), (1, vI n)]) hx hb dX12_worked_170 hlv (by decide) rfl (fun ls hlv => ?_)
              refine jn (α := Int) (fun a H locs g => ∃ ls : Array Slot, g = F0 m 353 ls [] ∧ ((-2147483648) ≤ (a) ∧ (a) ≤ 2147483647) ∧ va_P D vwCl [zO mm 12 [vI th, vR m1, vI tp, vI sz_, vI ap, vI bad, vI bk, vI opn, vI fp, vR m9, vR m10, vR m11, vR m12, vR m13, vR m14, vR m15, vI im, vI nr, vI nl, vR m19, vR m20, vR m21, vI sp_, vR m23, vR m24, vR m25, vR m26, vR m27, vR m28, vI wtc, vI wcl, vI ir, vI ip, vR m33, vI shu, vR m35, vI sfa, vI swr], zI m23 (cy 0) 2480 f23, zI m24 (cy 0) 2480 f24, zI m25 (cy 0) 20 f25, zI m26 (cy 0) 20 f26, zI m27 (cy 0) 620 kg, zI m28 (cy 0) 7 f28] H ∧ va_D A [zO mm 12 [vI th, vR m1, vI tp, vI sz_, vI ap, vI bad, vI bk, vI opn, vI fp, vR m9, vR m10, vR m11, vR m12, vR m13, vR m14, vR m15, vI im, vI nr, vI nl, vR m19, vR m20, vR m21, vI sp_, vR m23, vR m24, vR m25, vR m26, vR m27, vR m28, vI wtc, vI wcl, vI ir, vI ip, vR m33, vI shu, vR m35, vI sfa, vI swr], zI m23 (cy 0) 2480 f23, zI m24 (cy 0) 2480 f24, zI m25 (cy 0) 20 f25, zI m26 (cy 0) 20 f26, zI m27 (cy 0) 620 kg, zI m28 (cy 0) 7 f28] ∧ va_S A s.heap H locs ∧ lv_has ls 8 [(7, vI (a)), (6, vI z_16), (5, vI z_15), (2, vI z_13), (4, vI z_9), (3, vI qk), (0, vR mm), (1, vI n)]) (fun a H locs g hj => ?_) (fun jn353 => ?_)
              · obtain ⟨ls, rfl, hj353_0, hP, hD, hS, hlv⟩ := hj
                obtain ⟨qv7, rfl⟩ : ∃ z, z = a := ⟨_, rfl⟩
                have hj353_0 : ((-2147483648) ≤ qv7 ∧ qv7 ≤ 2147483647) := hj353_0
                have hP : va_P D vwCl [zO mm 12 [vI th, vR m1, vI tp, vI sz_, vI ap, vI bad, vI bk, vI opn, vI fp, vR m9, vR m10, vR m11, vR m12, vR m13, vR m14, vR m15, vI im, vI nr, vI nl, vR m19, vR m20, vR m21, vI sp_, vR m23, vR m24, vR m25, vR m26, vR m27, vR m28, vI wtc, vI wcl, vI ir, vI ip, vR m33, vI shu, vR m35, vI sfa, vI swr], zI m23 (cy 0) 2480 f23, zI m24 (cy 0) 2480 f24, zI m25 (cy 0) 20 f25, zI m26 (cy 0) 20 f26, zI m27 (cy 0) 620 kg, zI m28 (cy 0) 7 f28] H := hP
                have hD : va_D A [zO mm 12 [vI th, vR m1, vI tp, vI sz_, vI ap, vI bad, vI bk, vI opn, vI fp, vR m9, vR m10, vR m11, vR m12, vR m13, vR m14, vR m15, vI im, vI nr, vI nl, vR m19, vR m20, vR m21, vI sp_, vR m23, vR m24, vR m25, vR m26, vR m27, vR m28, vI wtc, vI wcl, vI ir, vI ip, vR m33, vI shu, vR m35, vI sfa, vI swr], zI m23 (cy 0) 2480 f23, zI m24 (cy 0) 2480 f24, zI m25 (cy 0) 20 f25, zI m26 (cy 0) 20 f26, zI m27 (cy 0) 620 kg, zI m28 (cy 0) 7 f28] := hD
                have hlv : lv_has ls 8 [(7, vI qv7), (6, vI z_16), (5, vI z_15), (2, vI z_13), (4, vI z_9), (3, vI qk), (0, vR mm), (1, vI n)] := hlv
                refine lv_aload_n hx hb dX12_worked_353 rfl (lv_at hlv 6 rfl) ?_
                refine va_get (D := D) (ci := 12) (v := vR m27) (C := RX12) (T := TX12) (N := 38) hx hb hts hi12 hown hG.1 hP 0 rfl rfl 27 (by decide) lf62 (fun _ h9 => h9) rfl dX12_worked_354 ?_
                refine lv_iload_n hx hb dX12_worked_357 rfl (lv_at hlv 3 rfl) ?_
                refine lv_iconst (v := iI 1) hx hb dX12_worked_358 (by decide) ?_
                refine lv_isub hx hb dX12_worked_359 ?_
                refine lt_e (e0 := z_13 - 1) (Int32.ofInt_sub _ _).symm (fun z_17 hz_17 => ?_)
                refine lv_iload hx hb dX12_worked_360 (lv_at hlv 0 rfl) ?_
                refine va_iast hx hb hG.1 hP hD hS 5 0 rfl rfl (iI_in (by omega) (by decide)) dX12_worked_362 (fun H locs hP hD hS => ?_)
                have ⟨f_18, hP, hD⟩ : ∃ f_18 : Nat → Int32, va_P D vwCl [zO mm 12 [vI th, vR m1, vI tp, vI sz_, vI ap, vI bad, vI bk, vI opn, vI fp, vR m9, vR m10, vR m11, vR m12, vR m13, vR m14, vR m15, vI im, vI nr, vI nl, vR m19, vR m20, vR m21, vI sp_, vR m23, vR m24, vR m25, vR m26, vR m27, vR m28, vI wtc, vI wcl, vI ir, vI ip, vR m33, vI shu, vR m35, vI sfa, vI swr], zI m23 (cy 0) 2480 f23, zI m24 (cy 0) 2480 f24, zI m25 (cy 0) 20 f25, zI m26 (cy 0) 20 f26, zI m27 (cy 0) 620 f_18, zI m28 (cy 0) 7 f28] H ∧ va_D A [zO mm 12 [vI th, vR m1, vI tp, vI sz_, vI ap, vI bad, vI bk, vI opn, vI fp, vR m9, vR m10, vR m11, vR m12, vR m13, vR m14, vR m15, vI im, vI nr, vI nl, vR m19, vR m20, vR m21, vI sp_, vR m23, vR m24, vR m25, vR m26, vR m27, vR m28, vI wtc, vI wcl, vI ir, vI ip, vR m33, vI shu, vR m35, vI sfa, vI swr], zI m23 (cy 0) 2480 f23, zI m24 (cy 0) 2480 f24, zI m25 (cy 0) 20 f25, zI m26 (cy 0) 20 f26, zI m27 (cy 0) 620 f_18, zI m28 (cy 0) 7 f28] := ⟨_, hP, hD⟩
                obtain ⟨z_19, hz_19⟩ : ∃ z : Int, z = qk + 1 := ⟨_, rfl⟩
                refine lv_iinc (v := iI z_19) (lv' := [(3, vI z_19), (7, vI qv7), (6, vI z_16), (5, vI z_15), (2, vI z_13), (4, vI z_9), (0, vR mm), (1, vI n)]) hx hb dX12_worked_363 hlv (k := 5) rfl (by rw [hz_19]; exact (Int32.ofInt_add _ _).symm) (by decide) rfl (fun ls hlv => ?_)
                refine lv_goto (tgt := 9) hx hb dX12_worked_366 (by decide) ?_
                exact ih9 z_13 z_19 f_18 H locs ls (by omega) (by omega) (by omega) (by omega) (by omega) (by rw [show z_19.toNat = qk.toNat + 1 by omega]; omega) (by omega)  (hP.sub [0, 1, 2, 3, 4, 5, 6] rfl) (hD.sub [0, 1, 2, 3, 4, 5, 6] (by decide) rfl) hS (lv_sub hlv [0, 4, 6, 7] rfl)
              · refine lv_iload hx hb dX12_worked_172 (lv_at hlv 4 rfl) ?_
                by_cases k_20 : z_9 = 2
                · refine lt_i (y := iI 2) (by rw [k_20]) ?_
                  refine lv_tableIn (tgt := 224) hx hb dX12_worked_174 (by decide) (by decide) rfl (by decide) ?_
                  refine lv_iload hx hb dX12_worked_224 (lv_at hlv 2 rfl) ?_
                  refine lv_iload hx hb dX12_worked_226 (lv_at hlv 1 rfl) ?_
                  refine lv_iadd hx hb dX12_worked_228 ?_
                  refine lt_z (fun z_21 ez_21 lz_21 hz_21 => ?_)
                  refine lv_istore (lv' := [(7, vI z_21), (6, vI z_16), (5, vI z_15), (2, vI z_13), (4, vI z_9), (3, vI qk), (0, vR mm), (1, vI n)]) hx hb dX12_worked_229 hlv (by decide) rfl (fun ls hlv => ?_)
                  refine lv_goto (tgt := 353) hx hb dX12_worked_231 (by decide) ?_
                  exact jn353 z_21 _ _ _ ⟨_, rfl, (by show (-2147483648) ≤ z_21 ∧ z_21 ≤ 2147483647; omega), hP.sub [0, 1, 2, 3, 4, 5, 6] rfl, hD.sub [0, 1, 2, 3, 4, 5, 6] (by decide) rfl, hS, lv_sub hlv [0, 1, 2, 3, 4, 5, 6, 7] rfl⟩
                by_cases k_22 : z_9 = 3
                · refine lt_i (y := iI 3) (by rw [k_22]) ?_
                  refine lv_tableIn (tgt := 234) hx hb dX12_worked_174 (by decide) (by decide) rfl (by decide) ?_
                  refine lv_iload hx hb dX12_worked_234 (lv_at hlv 2 rfl) ?_
                  refine lv_iload hx hb dX12_worked_236 (lv_at hlv 1 rfl) ?_
                  refine lv_isub hx hb dX12_worked_238 ?_
                  refine lt_z (fun z_23 ez_23 lz_23 hz_23 => ?_)
                  refine lv_istore (lv' := [(7, vI z_23), (6, vI z_16), (5, vI z_15), (2, vI z_13), (4, vI z_9), (3, vI qk), (0, vR mm), (1, vI n)]) hx hb dX12_worked_239 hlv (by decide) rfl (fun ls hlv => ?_)
                  refine lv_goto (tgt := 353) hx hb dX12_worked_241 (by decide) ?_
                  exact jn353 z_23 _ _ _ ⟨_, rfl, (by show (-2147483648) ≤ z_23 ∧ z_23 ≤ 2147483647; omega), hP.sub [0, 1, 2, 3, 4, 5, 6] rfl, hD.sub [0, 1, 2, 3, 4, 5, 6] (by decide) rfl, hS, lv_sub hlv [0, 1, 2, 3, 4, 5, 6, 7] rfl⟩
                by_cases k_24 : z_9 = 4
                · refine lt_i (y := iI 4) (by rw [k_24]) ?_
                  refine lv_tableIn (tgt := 244) hx hb dX12_worked_174 (by decide) (by decide) rfl (by decide) ?_
                  refine lv_iload hx hb dX12_worked_244 (lv_at hlv 2 rfl) ?_
                  refine lv_iload hx hb dX12_worked_246 (lv_at hlv 1 rfl) ?_
                  refine lv_imul hx hb dX12_worked_248 ?_
                  refine lt_z (fun z_25 ez_25 lz_25 hz_25 => ?_)
                  refine lv_istore (lv' := [(7, vI z_25), (6, vI z_16), (5, vI z_15), (2, vI z_13), (4, vI z_9), (3, vI qk), (0, vR mm), (1, vI n)]) hx hb dX12_worked_249 hlv (by decide) rfl (fun ls hlv => ?_)
                  refine lv_goto (tgt := 353) hx hb dX12_worked_251 (by decide) ?_
                  exact jn353 z_25 _ _ _ ⟨_, rfl, (by show (-2147483648) ≤ z_25 ∧ z_25 ≤ 2147483647; omega), hP.sub [0, 1, 2, 3, 4, 5, 6] rfl, hD.sub [0, 1, 2, 3, 4, 5, 6] (by decide) rfl, hS, lv_sub hlv [0, 1, 2, 3, 4, 5, 6, 7] rfl⟩
                by_cases k_26 : z_9 = 5
                · refine lt_i (y := iI 5) (by rw [k_26]) ?_
                  refine lv_tableIn (tgt := 254) hx hb dX12_worked_174 (by decide) (by decide) rfl (by decide) ?_
                  refine lv_iload hx hb dX12_worked_254 (lv_at hlv 1 rfl) ?_
                  refine iz_ne (tgt := 263) hx hb dX12_worked_256 (by decide) (by omega) (fun c_27 => ?_) (fun c_27 => ?_)
                  · refine lv_iload hx hb dX12_worked_263 (lv_at hlv 1 rfl) ?_
                    refine lv_iconst (v := iI (-1)) hx hb dX12_worked_265 (by decide) ?_
                    refine ir_ne (tgt := 275) hx hb dX12_worked_266 (by decide) (by omega) (by show ((-2147483648) : Int) ≤ (-1) ∧ ((-1) : Int) ≤ 2147483647; decide) (fun c_28 => ?_) (fun c_28 => ?_)
                    · refine lv_iload hx hb dX12_worked_275 (lv_at hlv 2 rfl) ?_
                      refine lv_iload hx hb dX12_worked_277 (lv_at hlv 1 rfl) ?_
                      refine lv_idiv hx hb dX12_worked_279 (fun q => absurd ((iI_eq (a := z_16) (b := 0) (by omega) (by omega)).mp q) (by omega)) ?_
                      refine lt_z (fun z_29 ez_29 lz_29 hz_29 => ?_)
                      refine lv_istore (lv' := [(7, vI z_29), (6, vI z_16), (5, vI z_15), (2, vI z_13), (4, vI z_9), (3, vI qk), (0, vR mm), (1, vI n)]) hx hb dX12_worked_280 hlv (by decide) rfl (fun ls hlv => ?_)
                      refine lv_goto (tgt := 353) hx hb dX12_worked_282 (by decide) ?_
                      exact jn353 z_29 _ _ _ ⟨_, rfl, (by show (-2147483648) ≤ z_29 ∧ z_29 ≤ 2147483647; omega), hP.sub [0, 1, 2, 3, 4, 5, 6] rfl, hD.sub [0, 1, 2, 3, 4, 5, 6] (by decide) rfl, hS, lv_sub hlv [0, 1, 2, 3, 4, 5, 6, 7] rfl⟩
                    · refine lv_iload hx hb dX12_worked_269 (lv_at hlv 2 rfl) ?_
                      refine lv_ineg hx hb dX12_worked_271 ?_
                      refine lt_z (fun z_30 ez_30 lz_30 hz_30 => ?_)
                      refine lv_goto (tgt := 280) hx hb dX12_worked_272 (by decide) ?_
                      refine lv_istore (lv' := [(7, vI z_30), (6, vI z_16), (5, vI z_15), (2, vI z_13), (4, vI z_9), (3, vI qk), (0, vR mm), (1, vI n)]) hx hb dX12_worked_280 hlv (by decide) rfl (fun ls hlv => ?_)
                      refine lv_goto (tgt := 353) hx hb dX12_worked_282 (by decide) ?_
                      exact jn353 z_30 _ _ _ ⟨_, rfl, (by show (-2147483648) ≤ z_30 ∧ z_30 ≤ 2147483647; omega), hP.sub [0, 1, 2, 3, 4, 5, 6] rfl, hD.sub [0, 1, 2, 3, 4, 5, 6] (by decide) rfl, hS, lv_sub hlv [0, 1, 2, 3, 4, 5, 6, 7] rfl⟩
                  · refine lv_iconst (v := iI 0) hx hb dX12_worked_259 (by decide) ?_
                    refine lv_goto (tgt := 280) hx hb dX12_worked_260 (by decide) ?_
                    refine lv_istore (lv' := [(7, vI 0), (6, vI z_16), (5, vI z_15), (2, vI z_13), (4, vI z_9), (3, vI qk), (0, vR mm), (1, vI n)]) hx hb dX12_worked_280 hlv (by decide) rfl (fun ls hlv => ?_)
                    refine lv_goto (tgt := 353) hx hb dX12_worked_282 (by decide) ?_
                    exact jn353 0 _ _ _ ⟨_, rfl, (by show ((-2147483648) : Int) ≤ 0 ∧ (0 : Int) ≤ 2147483647; decide), hP.sub [0, 1, 2, 3, 4, 5, 6] rfl, hD.sub [0, 1, 2, 3, 4, 5, 6] (by decide) rfl, hS, lv_sub hlv [0, 1, 2, 3, 4, 5, 6, 7] rfl⟩
                by_cases k_31 : z_9 = 6
                · refine lt_i (y := iI 6) (by rw [k_31]) ?_
                  refine lv_tableIn (tgt := 285) hx hb dX12_worked_174 (by decide) (by decide) rfl (by decide) ?_
                  refine lv_iload hx hb dX12_worked_285 (lv_at hlv 2 rfl) ?_
                  refine lv_iload hx hb dX12_worked_287 (lv_at hlv 1 rfl) ?_
                  refine ir_ge (tgt := 296) hx hb dX12_worked_289 (by decide) (by omega) (by omega) (fun c_32 => ?_) (fun c_32 => ?_)
                  · refine lv_iconst (v := iI 0) hx hb dX12_worked_296 (by decide) ?_
                    refine lv_istore (lv' := [(7, vI 0), (6, vI z_16), (5, vI z_15), (2, vI z_13), (4, vI z_9), (3, vI qk), (0, vR mm), (1, vI n)]) hx hb dX12_worked_297 hlv (by decide) rfl (fun ls hlv => ?_)
                    refine lv_goto (tgt := 353) hx hb dX12_worked_299 (by decide) ?_
                    exact jn353 0 _ _ _ ⟨_, rfl, (by show ((-2147483648) : Int) ≤ 0 ∧ (0 : Int) ≤ 2147483647; decide), hP.sub [0, 1, 2, 3, 4, 5, 6] rfl, hD.sub [0, 1, 2, 3, 4, 5, 6] (by decide) rfl, hS, lv_sub hlv [0, 1, 2, 3, 4, 5, 6, 7] rfl⟩
                  · refine lv_iconst (v := iI 1) hx hb dX12_worked_292 (by decide) ?_
                    refine lv_goto (tgt := 297) hx hb dX12_worked_293 (by decide) ?_
                    refine lv_istore (lv' := [(7, vI 1), (6, vI z_16), (5, vI z_15), (2, vI z_13), (4, vI z_9), (3, vI qk), (0, vR mm), (1, vI n)]) hx hb dX12_worked_297 hlv (by decide) rfl (fun ls hlv => ?_)
                    refine lv_goto (tgt := 353) hx hb dX12_worked_299 (by decide) ?_
                    exact jn353 1 _ _ _ ⟨_, rfl, (by show ((-2147483648) : Int) ≤ 1 ∧ (1 : Int) ≤ 2147483647; decide), hP.sub [0, 1, 2, 3, 4, 5, 6] rfl, hD.sub [0, 1, 2, 3, 4, 5, 6] (by decide) rfl, hS, lv_sub hlv [0, 1, 2, 3, 4, 5, 6, 7] rfl⟩
                by_cases k_33 : z_9 = 7
                · refine lt_i (y := iI 7) (by rw [k_33]) ?_
                  refine lv_tableIn (tgt := 302) hx hb dX12_worked_174 (by decide) (by decide) rfl (by decide) ?_
                  refine lv_iload hx hb dX12_worked_302 (lv_at hlv 2 rfl) ?_
                  refine lv_iload hx hb dX12_worked_304 (lv_at hlv 1 rfl) ?_
                  refine ir_le (tgt := 313) hx hb dX12_worked_306 (by decide) (by omega) (by omega) (fun c_34 => ?_) (fun c_34 => ?_)
                  · refine lv_iconst (v := iI 0) hx hb dX12_worked_313 (by decide) ?_
                    refine lv_istore (lv' := [(7, vI 0), (6, vI z_16), (5, vI z_15), (2, vI z_13), (4, vI z_9), (3, vI qk), (0, vR mm), (1, vI n)]) hx hb dX12_worked_314 hlv (by decide) rfl (fun ls hlv => ?_)
                    refine lv_goto (tgt := 353) hx hb dX12_worked_316 (by decide) ?_
                    exact jn353 0 _ _ _ ⟨_, rfl, (by show ((-2147483648) : Int) ≤ 0 ∧ (0 : Int) ≤ 2147483647; decide), hP.sub [0, 1, 2, 3, 4, 5, 6] rfl, hD.sub [0, 1, 2, 3, 4, 5, 6] (by decide) rfl, hS, lv_sub hlv [0, 1, 2, 3, 4, 5, 6, 7] rfl⟩
                  · refine lv_iconst (v := iI 1) hx hb dX12_worked_309 (by decide) ?_
                    refine lv_goto (tgt := 314) hx hb dX12_worked_310 (by decide) ?_
                    refine lv_istore (lv' := [(7, vI 1), (6, vI z_16), (5, vI z_15), (2, vI z_13), (4, vI z_9), (3, vI qk), (0, vR mm), (1, vI n)]) hx hb dX12_worked_314 hlv (by decide) rfl (fun ls hlv => ?_)
                    refine lv_goto (tgt := 353) hx hb dX12_worked_316 (by decide) ?_
                    exact jn353 1 _ _ _ ⟨_, rfl, (by show ((-2147483648) : Int) ≤ 1 ∧ (1 : Int) ≤ 2147483647; decide), hP.sub [0, 1, 2, 3, 4, 5, 6] rfl, hD.sub [0, 1, 2, 3, 4, 5, 6] (by decide) rfl, hS, lv_sub hlv [0, 1, 2, 3, 4, 5, 6, 7] rfl⟩
                by_cases k_35 : z_9 = 8
                · refine lt_i (y := iI 8) (by rw [k_35]) ?_
                  refine lv_tableIn (tgt := 319) hx hb dX12_worked_174 (by decide) (by decide) rfl (by decide) ?_
                  refine lv_iload hx hb dX12_worked_319 (lv_at hlv 2 rfl) ?_
                  refine lv_iload hx hb dX12_worked_321 (lv_at hlv 1 rfl) ?_
                  refine ir_ne (tgt := 330) hx hb dX12_worked_323 (by decide) (by omega) (by omega) (fun c_36 => ?_) (fun c_36 => ?_)
                  · refine lv_iconst (v := iI 0) hx hb dX12_worked_330 (by decide) ?_
                    refine lv_istore (lv' := [(7, vI 0), (6, vI z_16), (5, vI z_15), (2, vI z_13), (4, vI z_9), (3, vI qk), (0, vR mm), (1, vI n)]) hx hb dX12_worked_331 hlv (by decide) rfl (fun ls hlv => ?_)
                    refine lv_goto (tgt := 353) hx hb dX12_worked_333 (by decide) ?_
                    exact jn353 0 _ _ _ ⟨_, rfl, (by show ((-2147483648) : Int) ≤ 0 ∧ (0 : Int) ≤ 2147483647; decide), hP.sub [0, 1, 2, 3, 4, 5, 6] rfl, hD.sub [0, 1, 2, 3, 4, 5, 6] (by decide) rfl, hS, lv_sub hlv [0, 1, 2, 3, 4, 5, 6, 7] rfl⟩
                  · refine lv_iconst (v := iI 1) hx hb dX12_worked_326 (by decide) ?_
                    refine lv_goto (tgt := 331) hx hb dX12_worked_327 (by decide) ?_
                    refine lv_istore (lv' := [(7, vI 1), (6, vI z_16), (5, vI z_15), (2, vI z_13), (4, vI z_9), (3, vI qk), (0, vR mm), (1, vI n)]) hx hb dX12_worked_331 hlv (by decide) rfl (fun ls hlv => ?_)
                    refine lv_goto (tgt := 353) hx hb dX12_worked_333 (by decide) ?_
                    exact jn353 1 _ _ _ ⟨_, rfl, (by show ((-2147483648) : Int) ≤ 1 ∧ (1 : Int) ≤ 2147483647; decide), hP.sub [0, 1, 2, 3, 4, 5, 6] rfl, hD.sub [0, 1, 2, 3, 4, 5, 6] (by decide) rfl, hS, lv_sub hlv [0, 1, 2, 3, 4, 5, 6, 7] rfl⟩
                by_cases k_37 : z_9 = 9
                · refine lt_i (y := iI 9) (by rw [k_37]) ?_
                  refine lv_tableIn (tgt := 346) hx hb dX12_worked_174 (by decide) (by decide) rfl (by decide) ?_
                  refine lv_iload hx hb dX12_worked_346 (lv_at hlv 2 rfl) ?_
                  refine lv_iload hx hb dX12_worked_348 (lv_at hlv 1 rfl) ?_
                  refine lv_ior hx hb dX12_worked_350 ?_
                  refine lt_z (fun z_38 ez_38 lz_38 hz_38 => ?_)
                  refine lv_istore (lv' := [(7, vI z_38), (6, vI z_16), (5, vI z_15), (2, vI z_13), (4, vI z_9), (3, vI qk), (0, vR mm), (1, vI n)]) hx hb dX12_worked_351 hlv (by decide) rfl (fun ls hlv => ?_)
                  exact jn353 z_38 _ _ _ ⟨_, rfl, (by show (-2147483648) ≤ z_38 ∧ z_38 ≤ 2147483647; omega), hP.sub [0, 1, 2, 3, 4, 5, 6] rfl, hD.sub [0, 1, 2, 3, 4, 5, 6] (by decide) rfl, hS, lv_sub hlv [0, 1, 2, 3, 4, 5, 6, 7] rfl⟩
                by_cases k_39 : z_9 = 10
                · refine lt_i (y := iI 10) (by rw [k_39]) ?_
                  refine lv_tableIn (tgt := 336) hx hb dX12_worked_174 (by decide) (by decide) rfl (by decide) ?_
                  refine lv_iload hx hb dX12_worked_336 (lv_at hlv 2 rfl) ?_
                  refine lv_iload hx hb dX12_worked_338 (lv_at hlv 1 rfl) ?_
                  refine lv_iand hx hb dX12_worked_340 ?_
                  refine lt_z (fun z_40 ez_40 lz_40 hz_40 => ?_)
                  refine lv_istore (lv' := [(7, vI z_40), (6, vI z_16), (5, vI z_15), (2, vI z_13), (4, vI z_9), (3, vI qk), (0, vR mm), (1, vI n)]) hx hb dX12_worked_341 hlv (by decide) rfl (fun ls hlv => ?_)
                  refine lv_goto (tgt := 353) hx hb dX12_worked_343 (by decide) ?_
                  exact jn353 z_40 _ _ _ ⟨_, rfl, (by show (-2147483648) ≤ z_40 ∧ z_40 ≤ 2147483647; omega), hP.sub [0, 1, 2, 3, 4, 5, 6] rfl, hD.sub [0, 1, 2, 3, 4, 5, 6] (by decide) rfl, hS, lv_sub hlv [0, 1, 2, 3, 4, 5, 6, 7] rfl⟩
                refine lv_tableOut (tgt := 346) hx hb dX12_worked_174 (by rw [iI_to (by omega) (by omega)]; omega) (by decide) ?_
                refine lv_iload hx hb dX12_worked_346 (lv_at hlv 2 rfl) ?_
                refine lv_iload hx hb dX12_worked_348 (lv_at hlv 1 rfl) ?_
                refine lv_ior hx hb dX12_worked_350 ?_
                refine lt_z (fun z_41 ez_41 lz_41 hz_41 => ?_)
                refine lv_istore (lv' := [(7, vI z_41), (6, vI z_16), (5, vI z_15), (2, vI z_13), (4, vI z_9), (3, vI qk), (0, vR mm), (1, vI n)]) hx hb dX12_worked_351 hlv (by decide) rfl (fun ls hlv => ?_)
                exact jn353 z_41 _ _ _ ⟨_, rfl, (by show (-2147483648) ≤ z_41 ∧ z_41 ≤ 2147483647; omega), hP.sub [0, 1, 2, 3, 4, 5, 6] rfl, hD.sub [0, 1, 2, 3, 4, 5, 6] (by decide) rfl, hS, lv_sub hlv [0, 1, 2, 3, 4, 5, 6, 7] rfl⟩
            · obtain ⟨z_42, hz_42⟩ : ∃ z : Int, z = qn + (-2) := ⟨_, rfl⟩
              refine lv_iinc (v := iI z_42) (lv' := [(2, vI z_42), (4, vI z_9), (3, vI qk), (0, vR mm), (1, vI n)]) hx hb dX12_worked_105 hlv (k := 2) rfl (by rw [hz_42]; exact (Int32.ofInt_add _ _).symm) (by decide) rfl (fun ls hlv => ?_)
              refine lv_aload_n hx hb dX12_worked_108 rfl (lv_at hlv 3 rfl) ?_
              refine va_get (D := D) (ci := 12) (v := vR m27) (C := RX12) (T := TX12) (N := 38) hx hb hts hi12 hown hG.1 hP 0 rfl rfl 27 (by decide) lf62 (fun _ h9 => h9) rfl dX12_worked_109 ?_
              refine lv_iload_n hx hb dX12_worked_112 rfl (lv_at hlv 0 rfl) ?_
              refine lv_iconst (v := iI 1) hx hb dX12_worked_113 (by decide) ?_
              refine lv_isub hx hb dX12_worked_114 ?_
              refine lt_e (e0 := z_42 - 1) (Int32.ofInt_sub _ _).symm (fun z_43 hz_43 => ?_)
              refine lv_aload_n hx hb dX12_worked_115 rfl (lv_at hlv 3 rfl) ?_
              refine va_get (D := D) (ci := 12) (v := vR m27) (C := RX12) (T := TX12) (N := 38) hx hb hts hi12 hown hG.1 hP 0 rfl rfl 27 (by decide) lf62 (fun _ h9 => h9) rfl dX12_worked_116 ?_
              refine lv_iload_n hx hb dX12_worked_119 rfl (lv_at hlv 0 rfl) ?_
              refine lv_iconst (v := iI 1) hx hb dX12_worked_120 (by decide) ?_
              refine lv_isub hx hb dX12_worked_121 ?_
              refine lt_e (e0 := z_42 - 1) (Int32.ofInt_sub _ _).symm (fun z_44 hz_44 => ?_)
              refine va_iald hx hb hG.1 hP 5 0 rfl rfl (iI_in (by omega) (by decide)) dX12_worked_122 ?_
              refine lt_z (fun z_45 ez_45 lz_45 hz_45 => ?_)
              refine lv_iconst (v := iI 1) hx hb dX12_worked_123 (by decide) ?_
              refine ir_ne (tgt := 136) hx hb dX12_worked_124 (by decide) (by omega) (by show ((-2147483648) : Int) ≤ 1 ∧ (1 : Int) ≤ 2147483647; decide) (fun c_46 => ?_) (fun c_46 => ?_)
              · refine lv_aload_n hx hb dX12_worked_136 rfl (lv_at hlv 3 rfl) ?_
                refine va_get (D := D) (ci := 12) (v := vR m27) (C := RX12) (T := TX12) (N := 38) hx hb hts hi12 hown hG.1 hP 0 rfl rfl 27 (by decide) lf62 (fun _ h9 => h9) rfl dX12_worked_137 ?_
                refine lv_iload_n hx hb dX12_worked_140 rfl (lv_at hlv 0 rfl) ?_
                refine lv_iconst (v := iI 1) hx hb dX12_worked_141 (by decide) ?_
                refine lv_iadd hx hb dX12_worked_142 ?_
                refine lt_e (e0 := z_42 + 1) (Int32.ofInt_add _ _).symm (fun z_47 hz_47 => ?_)
                refine va_iald hx hb hG.1 hP 5 0 rfl rfl (iI_in (by omega) (by decide)) dX12_worked_143 ?_
                refine lt_z (fun z_48 ez_48 lz_48 hz_48 => ?_)
                refine va_iast hx hb hG.1 hP hD hS 5 0 rfl rfl (iI_in (by omega) (by decide)) dX12_worked_144 (fun H locs hP hD hS => ?_)
                have ⟨f_49, hP, hD⟩ : ∃ f_49 : Nat → Int32, va_P D vwCl [zO mm 12 [vI th, vR m1, vI tp, vI sz_, vI ap, vI bad, vI bk, vI opn, vI fp, vR m9, vR m10, vR m11, vR m12, vR m13, vR m14, vR m15, vI im, vI nr, vI nl, vR m19, vR m20, vR m21, vI sp_, vR m23, vR m24, vR m25, vR m26, vR m27, vR m28, vI wtc, vI wcl, vI ir, vI ip, vR m33, vI shu, vR m35, vI sfa, vI swr], zI m23 (cy 0) 2480 f23, zI m24 (cy 0) 2480 f24, zI m25 (cy 0) 20 f25, zI m26 (cy 0) 20 f26, zI m27 (cy 0) 620 f_49, zI m28 (cy 0) 7 f28] H ∧ va_D A [zO mm 12 [vI th, vR m1, vI tp, vI sz_, vI ap, vI bad, vI bk, vI opn, vI fp, vR m9, vR m10, vR m11, vR m12, vR m13, vR m14, vR m15, vI im, vI nr, vI nl, vR m19, vR m20, vR m21, vI sp_, vR m23, vR m24, vR m25, vR m26, vR m27, vR m28, vI wtc, vI wcl, vI ir, vI ip, vR m33, vI shu, vR m35, vI sfa, vI swr], zI m23 (cy 0) 2480 f23, zI m24 (cy 0) 2480 f24, zI m25 (cy 0) 20 f25, zI m26 (cy 0) 20 f26, zI m27 (cy 0) 620 f_49, zI m28 (cy 0) 7 f28] := ⟨_, hP, hD⟩
                refine lv_goto (tgt := 363) hx hb dX12_worked_145 (by decide) ?_
                obtain ⟨z_50, hz_50⟩ : ∃ z : Int, z = qk + 1 := ⟨_, rfl⟩
                refine lv_iinc (v := iI z_50) (lv' := [(3, vI z_50), (2, vI z_42), (4, vI z_9), (0, vR mm), (1, vI n)]) hx hb dX12_worked_363 hlv (k := 2) rfl (by rw [hz_50]; exact (Int32.ofInt_add _ _).symm) (by decide) rfl (fun ls hlv => ?_)
                refine lv_goto (tgt := 9) hx hb dX12_worked_366 (by decide) ?_
                exact ih9 z_42 z_50 f_49 H locs ls (by omega) (by omega) (by omega) (by omega) (by omega) (by rw [show z_50.toNat = qk.toNat + 1 by omega]; omega) (by omega)  (hP.sub [0, 1, 2, 3, 4, 5, 6] rfl) (hD.sub [0, 1, 2, 3, 4, 5, 6] (by decide) rfl) hS (lv_sub hlv [0, 1, 3, 4] rfl)
              · refine lv_aload_n hx hb dX12_worked_127 rfl (lv_at hlv 3 rfl) ?_
                refine va_get (D := D) (ci := 12) (v := vR m27) (C := RX12) (T := TX12) (N := 38) hx hb hts hi12 hown hG.1 hP 0 rfl rfl 27 (by decide) lf62 (fun _ h9 => h9) rfl dX12_worked_128 ?_
                refine lv_iload_n hx hb dX12_worked_131 rfl (lv_at hlv 0 rfl) ?_
                refine va_iald hx hb hG.1 hP 5 0 rfl rfl (iI_in (by omega) (by decide)) dX12_worked_132 ?_
                refine lt_z (fun z_51 ez_51 lz_51 hz_51 => ?_)
                refine lv_goto (tgt := 144) hx hb dX12_worked_133 (by decide) ?_
                refine va_iast hx hb hG.1 hP hD hS 5 0 rfl rfl (iI_in (by omega) (by decide)) dX12_worked_144 (fun H locs hP hD hS => ?_)
                have ⟨f_52, hP, hD⟩ : ∃ f_52 : Nat → Int32, va_P D vwCl [zO mm 12 [vI th, vR m1, vI tp, vI sz_, vI ap, vI bad, vI bk, vI opn, vI fp, vR m9, vR m10, vR m11, vR m12, vR m13, vR m14, vR m15, vI im, vI nr, vI nl, vR m19, vR m20, vR m21, vI sp_, vR m23, vR m24, vR m25, vR m26, vR m27, vR m28, vI wtc, vI wcl, vI ir, vI ip, vR m33, vI shu, vR m35, vI sfa, vI swr], zI m23 (cy 0) 2480 f23, zI m24 (cy 0) 2480 f24, zI m25 (cy 0) 20 f25, zI m26 (cy 0) 20 f26, zI m27 (cy 0) 620 f_52, zI m28 (cy 0) 7 f28] H ∧ va_D A [zO mm 12 [vI th, vR m1, vI tp, vI sz_, vI ap, vI bad, vI bk, vI opn, vI fp, vR m9, vR m10, vR m11, vR m12, vR m13, vR m14, vR m15, vI im, vI nr, vI nl, vR m19, vR m20, vR m21, vI sp_, vR m23, vR m24, vR m25, vR m26, vR m27, vR m28, vI wtc, vI wcl, vI ir, vI ip, vR m33, vI shu, vR m35, vI sfa, vI swr], zI m23 (cy 0) 2480 f23, zI m24 (cy 0) 2480 f24, zI m25 (cy 0) 20 f25, zI m26 (cy 0) 20 f26, zI m27 (cy 0) 620 f_52, zI m28 (cy 0) 7 f28] := ⟨_, hP, hD⟩
                refine lv_goto (tgt := 363) hx hb dX12_worked_145 (by decide) ?_
                obtain ⟨z_53, hz_53⟩ : ∃ z : Int, z = qk + 1 := ⟨_, rfl⟩
                refine lv_iinc (v := iI z_53) (lv' := [(3, vI z_53), (2, vI z_42), (4, vI z_9), (0, vR mm), (1, vI n)]) hx hb dX12_worked_363 hlv (k := 2) rfl (by rw [hz_53]; exact (Int32.ofInt_add _ _).symm) (by decide) rfl (fun ls hlv => ?_)
                refine lv_goto (tgt := 9) hx hb dX12_worked_366 (by decide) ?_
                exact ih9 z_42 z_53 f_52 H locs ls (by omega) (by omega) (by omega) (by omega) (by omega) (by rw [show z_53.toNat = qk.toNat + 1 by omega]; omega) (by omega)  (hP.sub [0, 1, 2, 3, 4, 5, 6] rfl) (hD.sub [0, 1, 2, 3, 4, 5, 6] (by decide) rfl) hS (lv_sub hlv [0, 1, 3, 4] rfl)
          · refine lv_aload_n hx hb dX12_worked_77 rfl (lv_at hlv 3 rfl) ?_
            refine va_get (D := D) (ci := 12) (v := vR m27) (C := RX12) (T := TX12) (N := 38) hx hb hts hi12 hown hG.1 hP 0 rfl rfl 27 (by decide) lf62 (fun _ h9 => h9) rfl dX12_worked_78 ?_
            refine lv_iload_n hx hb dX12_worked_81 rfl (lv_at hlv 2 rfl) ?_
            refine lv_iconst (v := iI 1) hx hb dX12_worked_82 (by decide) ?_
            refine lv_isub hx hb dX12_worked_83 ?_
            refine lt_e (e0 := qn - 1) (Int32.ofInt_sub _ _).symm (fun z_54 hz_54 => ?_)
            refine lv_iconst (v := iI 1) hx hb dX12_worked_84 (by decide) ?_
            refine lv_aload_n hx hb dX12_worked_85 rfl (lv_at hlv 3 rfl) ?_
            refine va_get (D := D) (ci := 12) (v := vR m27) (C := RX12) (T := TX12) (N := 38) hx hb hts hi12 hown hG.1 hP 0 rfl rfl 27 (by decide) lf62 (fun _ h9 => h9) rfl dX12_worked_86 ?_
            refine lv_iload_n hx hb dX12_worked_89 rfl (lv_at hlv 2 rfl) ?_
            refine lv_iconst (v := iI 1) hx hb dX12_worked_90 (by decide) ?_
            refine lv_isub hx hb dX12_worked_91 ?_
            refine lt_e (e0 := qn - 1) (Int32.ofInt_sub _ _).symm (fun z_55 hz_55 => ?_)
            refine va_iald hx hb hG.1 hP 5 0 rfl rfl (iI_in (by omega) (by decide)) dX12_worked_92 ?_
            refine lt_z (fun z_56 ez_56 lz_56 hz_56 => ?_)
            refine lv_isub hx hb dX12_worked_93 ?_
            refine lt_z (fun z_57 ez_57 lz_57 hz_57 => ?_)
            refine va_iast hx hb hG.1 hP hD hS 5 0 rfl rfl (iI_in (by omega) (by decide)) dX12_worked_94 (fun H locs hP hD hS => ?_)
            have ⟨f_58, hP, hD⟩ : ∃ f_58 : Nat → Int32, va_P D vwCl [zO mm 12 [vI th, vR m1, vI tp, vI sz_, vI ap, vI bad, vI bk, vI opn, vI fp, vR m9, vR m10, vR m11, vR m12, vR m13, vR m14, vR m15, vI im, vI nr, vI nl, vR m19, vR m20, vR m21, vI sp_, vR m23, vR m24, vR m25, vR m26, vR m27, vR m28, vI wtc, vI wcl, vI ir, vI ip, vR m33, vI shu, vR m35, vI sfa, vI swr], zI m23 (cy 0) 2480 f23, zI m24 (cy 0) 2480 f24, zI m25 (cy 0) 20 f25, zI m26 (cy 0) 20 f26, zI m27 (cy 0) 620 f_58, zI m28 (cy 0) 7 f28] H ∧ va_D A [zO mm 12 [vI th, vR m1, vI tp, vI sz_, vI ap, vI bad, vI bk, vI opn, vI fp, vR m9, vR m10, vR m11, vR m12, vR m13, vR m14, vR m15, vI im, vI nr, vI nl, vR m19, vR m20, vR m21, vI sp_, vR m23, vR m24, vR m25, vR m26, vR m27, vR m28, vI wtc, vI wcl, vI ir, vI ip, vR m33, vI shu, vR m35, vI sfa, vI swr], zI m23 (cy 0) 2480 f23, zI m24 (cy 0) 2480 f24, zI m25 (cy 0) 20 f25, zI m26 (cy 0) 20 f26, zI m27 (cy 0) 620 f_58, zI m28 (cy 0) 7 f28] := ⟨_, hP, hD⟩
            refine lv_goto (tgt := 363) hx hb dX12_worked_95 (by decide) ?_
            obtain ⟨z_59, hz_59⟩ : ∃ z : Int, z = qk + 1 := ⟨_, rfl⟩
            refine lv_iinc (v := iI z_59) (lv' := [(3, vI z_59), (4, vI z_9), (2, vI qn), (0, vR mm), (1, vI n)]) hx hb dX12_worked_363 hlv (k := 1) rfl (by rw [hz_59]; exact (Int32.ofInt_add _ _).symm) (by decide) rfl (fun ls hlv => ?_)
            refine lv_goto (tgt := 9) hx hb dX12_worked_366 (by decide) ?_
            exact ih9 qn z_59 f_58 H locs ls (by omega) (by first | exact hl9_0 | omega) (by omega) (by omega) (by omega) (by rw [show z_59.toNat = qk.toNat + 1 by omega]; omega) (by omega)  (hP.sub [0, 1, 2, 3, 4, 5, 6] rfl) (hD.sub [0, 1, 2, 3, 4, 5, 6] (by decide) rfl) hS (lv_sub hlv [0, 2, 3, 4] rfl)
        · refine lv_aload_n hx hb dX12_worked_33 rfl (lv_at hlv 3 rfl) ?_
          refine va_get (D := D) (ci := 12) (v := vR m27) (C := RX12) (T := TX12) (N := 38) hx hb hts hi12 hown hG.1 hP 0 rfl rfl 27 (by decide) lf62 (fun _ h9 => h9) rfl dX12_worked_34 ?_
          refine lv_iload_n hx hb dX12_worked_37 rfl (lv_at hlv 2 rfl) ?_
          refine lv_iload hx hb dX12_worked_38 (lv_at hlv 0 rfl) ?_
          refine iz_ne (tgt := 52) hx hb dX12_worked_40 (by decide) (by omega) (fun c_60 => ?_) (fun c_60 => ?_)
          · refine lv_aload_n hx hb dX12_worked_52 rfl (lv_at hlv 3 rfl) ?_
            refine va_get (D := D) (ci := 12) (v := vR m28) (C := RX12) (T := TX12) (N := 38) hx hb hts hi12 hown hG.1 hP 0 rfl rfl 28 (by decide) lf65 (fun _ h9 => h9) rfl dX12_worked_53 ?_
            refine lv_aload_n hx hb dX12_worked_56 rfl (lv_at hlv 3 rfl) ?_
            refine va_get (D := D) (ci := 12) (v := vR m24) (C := RX12) (T := TX12) (N := 38) hx hb hts hi12 hown hG.1 hP 0 rfl rfl 24 (by decide) lf53 (fun _ h9 => h9) rfl dX12_worked_57 ?_
            refine lv_iload_n hx hb dX12_worked_60 rfl (lv_at hlv 1 rfl) ?_
            refine va_iald hx hb hG.1 hP 2 0 rfl rfl (iI_in (by omega) (by decide)) dX12_worked_61 ?_
            refine lt_nz (i := qk) (by omega) (fun z_61 hz_61 lz_61 uz_61 => ?_)
            have hnm_ := st_name (hdep qk.toNat (by omega) (by omega)) (by rw [nz_e f23 qk.toNat, show nz f23 qk.toNat = 1 by omega]) (z := z_61) (by rw [hz_61]; exact nz_e f24 qk.toNat) (by omega)
            refine va_iald hx hb hG.1 hP 6 0 rfl rfl (iI_in (by omega) (by decide)) dX12_worked_62 ?_
            refine lt_z (fun z_62 ez_62 lz_62 hz_62 => ?_)
            refine va_iast hx hb hG.1 hP hD hS 5 0 rfl rfl (iI_in (by omega) (by decide)) dX12_worked_63 (fun H locs hP hD hS => ?_)
            have ⟨f_63, hP, hD⟩ : ∃ f_63 : Nat → Int32, va_P D vwCl [zO mm 12 [vI th, vR m1, vI tp, vI sz_, vI ap, vI bad, vI bk, vI opn, vI fp, vR m9, vR m10, vR m11, vR m12, vR m13, vR m14, vR m15, vI im, vI nr, vI nl, vR m19, vR m20, vR m21, vI sp_, vR m23, vR m24, vR m25, vR m26, vR m27, vR m28, vI wtc, vI wcl, vI ir, vI ip, vR m33, vI shu, vR m35, vI sfa, vI swr], zI m23 (cy 0) 2480 f23, zI m24 (cy 0) 2480 f24, zI m25 (cy 0) 20 f25, zI m26 (cy 0) 20 f26, zI m27 (cy 0) 620 f_63, zI m28 (cy 0) 7 f28] H ∧ va_D A [zO mm 12 [vI th, vR m1, vI tp, vI sz_, vI ap, vI bad, vI bk, vI opn, vI fp, vR m9, vR m10, vR m11, vR m12, vR m13, vR m14, vR m15, vI im, vI nr, vI nl, vR m19, vR m20, vR m21, vI sp_, vR m23, vR m24, vR m25, vR m26, vR m27, vR m28, vI wtc, vI wcl, vI ir, vI ip, vR m33, vI shu, vR m35, vI sfa, vI swr], zI m23 (cy 0) 2480 f23, zI m24 (cy 0) 2480 f24, zI m25 (cy 0) 20 f25, zI m26 (cy 0) 20 f26, zI m27 (cy 0) 620 f_63, zI m28 (cy 0) 7 f28] := ⟨_, hP, hD⟩
            obtain ⟨z_64, hz_64⟩ : ∃ z : Int, z = qn + 1 := ⟨_, rfl⟩
            refine lv_iinc (v := iI z_64) (lv' := [(2, vI z_64), (4, vI z_9), (3, vI qk), (0, vR mm), (1, vI n)]) hx hb dX12_worked_64 hlv (k := 2) rfl (by rw [hz_64]; exact (Int32.ofInt_add _ _).symm) (by decide) rfl (fun ls hlv => ?_)
            refine lv_goto (tgt := 363) hx hb dX12_worked_67 (by decide) ?_
            obtain ⟨z_65, hz_65⟩ : ∃ z : Int, z = qk + 1 := ⟨_, rfl⟩
            refine lv_iinc (v := iI z_65) (lv' := [(3, vI z_65), (2, vI z_64), (4, vI z_9), (0, vR mm), (1, vI n)]) hx hb dX12_worked_363 hlv (k := 2) rfl (by rw [hz_65]; exact (Int32.ofInt_add _ _).symm) (by decide) rfl (fun ls hlv => ?_)
            refine lv_goto (tgt := 9) hx hb dX12_worked_366 (by decide) ?_
            exact ih9 z_64 z_65 f_63 H locs ls (by omega) (by omega) (by omega) (by omega) (by omega) (by rw [show z_65.toNat = qk.toNat + 1 by omega]; omega) (by omega)  (hP.sub [0, 1, 2, 3, 4, 5, 6] rfl) (hD.sub [0, 1, 2, 3, 4, 5, 6] (by decide) rfl) hS (lv_sub hlv [0, 1, 3, 4] rfl)
          · refine lv_aload_n hx hb dX12_worked_43 rfl (lv_at hlv 3 rfl) ?_
            refine va_get (D := D) (ci := 12) (v := vR m24) (C := RX12) (T := TX12) (N := 38) hx hb hts hi12 hown hG.1 hP 0 rfl rfl 24 (by decide) lf53 (fun _ h9 => h9) rfl dX12_worked_44 ?_
            refine lv_iload_n hx hb dX12_worked_47 rfl (lv_at hlv 1 rfl) ?_
            refine va_iald hx hb hG.1 hP 2 0 rfl rfl (iI_in (by omega) (by decide)) dX12_worked_48 ?_
            refine lt_nz (i := qk) (by omega) (fun z_66 hz_66 lz_66 uz_66 => ?_)
            refine lv_goto (tgt := 63) hx hb dX12_worked_49 (by decide) ?_
            refine va_iast hx hb hG.1 hP hD hS 5 0 rfl rfl (iI_in (by omega) (by decide)) dX12_worked_63 (fun H locs hP hD hS => ?_)
            have ⟨f_67, hP, hD⟩ : ∃ f_67 : Nat → Int32, va_P D vwCl [zO mm 12 [vI th, vR m1, vI tp, vI sz_, vI ap, vI bad, vI bk, vI opn, vI fp, vR m9, vR m10, vR m11, vR m12, vR m13, vR m14, vR m15, vI im, vI nr, vI nl, vR m19, vR m20, vR m21, vI sp_, vR m23, vR m24, vR m25, vR m26, vR m27, vR m28, vI wtc, vI wcl, vI ir, vI ip, vR m33, vI shu, vR m35, vI sfa, vI swr], zI m23 (cy 0) 2480 f23, zI m24 (cy 0) 2480 f24, zI m25 (cy 0) 20 f25, zI m26 (cy 0) 20 f26, zI m27 (cy 0) 620 f_67, zI m28 (cy 0) 7 f28] H ∧ va_D A [zO mm 12 [vI th, vR m1, vI tp, vI sz_, vI ap, vI bad, vI bk, vI opn, vI fp, vR m9, vR m10, vR m11, vR m12, vR m13, vR m14, vR m15, vI im, vI nr, vI nl, vR m19, vR m20, vR m21, vI sp_, vR m23, vR m24, vR m25, vR m26, vR m27, vR m28, vI wtc, vI wcl, vI ir, vI ip, vR m33, vI shu, vR m35, vI sfa, vI swr], zI m23 (cy 0) 2480 f23, zI m24 (cy 0) 2480 f24, zI m25 (cy 0) 20 f25, zI m26 (cy 0) 20 f26, zI m27 (cy 0) 620 f_67, zI m28 (cy 0) 7 f28] := ⟨_, hP, hD⟩
            obtain ⟨z_68, hz_68⟩ : ∃ z : Int, z = qn + 1 := ⟨_, rfl⟩
            refine lv_iinc (v := iI z_68) (lv' := [(2, vI z_68), (4, vI z_9), (3, vI qk), (0, vR mm), (1, vI n)]) hx hb dX12_worked_64 hlv (k := 2) rfl (by rw [hz_68]; exact (Int32.ofInt_add _ _).symm) (by decide) rfl (fun ls hlv => ?_)
            refine lv_goto (tgt := 363) hx hb dX12_worked_67 (by decide) ?_
            obtain ⟨z_69, hz_69⟩ : ∃ z : Int, z = qk + 1 := ⟨_, rfl⟩
            refine lv_iinc (v := iI z_69) (lv' := [(3, vI z_69), (2, vI z_68), (4, vI z_9), (0, vR mm), (1, vI n)]) hx hb dX12_worked_363 hlv (k := 2) rfl (by rw [hz_69]; exact (Int32.ofInt_add _ _).symm) (by decide) rfl (fun ls hlv => ?_)
            refine lv_goto (tgt := 9) hx hb dX12_worked_366 (by decide) ?_
            exact ih9 z_68 z_69 f_67 H locs ls (by omega) (by omega) (by omega) (by omega) (by omega) (by rw [show z_69.toNat = qk.toNat + 1 by omega]; omega) (by omega)  (hP.sub [0, 1, 2, 3, 4, 5, 6] rfl) (hD.sub [0, 1, 2, 3, 4, 5, 6] (by decide) rfl) hS (lv_sub hlv [0, 1, 3, 4] rfl)
