theorem dX12_mend_0 : decode cX12_mend 0 = .ok (.aload_n 0, 1) := by decide +kernel
theorem dX12_mend_1 : decode cX12_mend 1 = .ok (.iconst 0, 1) := by decide +kernel
theorem dX12_mend_100 : decode cX12_mend 100 = .ok (.istore 10, 2) := by decide +kernel
theorem dX12_mend_102 : decode cX12_mend 102 = .ok (.iconst 0, 1) := by decide +kernel
theorem dX12_mend_103 : decode cX12_mend 103 = .ok (.istore 11, 2) := by decide +kernel
theorem dX12_mend_105 : decode cX12_mend 105 = .ok (.iload 11, 2) := by decide +kernel
theorem dX12_mend_107 : decode cX12_mend 107 = .ok (.aload_n 0, 1) := by decide +kernel
theorem dX12_mend_108 : decode cX12_mend 108 = .ok (.getfield 23, 3) := by decide +kernel
theorem dX12_mend_111 : decode cX12_mend 111 = .ok (.iconst 5, 1) := by decide +kernel
theorem dX12_mend_112 : decode cX12_mend 112 = .ok (.iaload, 1) := by decide +kernel
theorem dX12_mend_113 : decode cX12_mend 113 = .ok (.if_icmp .ge 67, 3) := by decide +kernel
theorem dX12_mend_116 : decode cX12_mend 116 = .ok (.iload 8, 2) := by decide +kernel
theorem dX12_mend_118 : decode cX12_mend 118 = .ok (.iload 11, 2) := by decide +kernel
theorem dX12_mend_12 : decode cX12_mend 12 = .ok (.ifCond .eq 56, 3) := by decide +kernel
theorem dX12_mend_120 : decode cX12_mend 120 = .ok (.ishr, 1) := by decide +kernel
theorem dX12_mend_121 : decode cX12_mend 121 = .ok (.iconst 1, 1) := by decide +kernel
theorem dX12_mend_122 : decode cX12_mend 122 = .ok (.iand, 1) := by decide +kernel
theorem dX12_mend_123 : decode cX12_mend 123 = .ok (.ifCond .ne 6, 3) := by decide +kernel
theorem dX12_mend_126 : decode cX12_mend 126 = .ok (.goto 48, 3) := by decide +kernel
theorem dX12_mend_129 : decode cX12_mend 129 = .ok (.iload 10, 2) := by decide +kernel
theorem dX12_mend_131 : decode cX12_mend 131 = .ok (.ifCond .eq 21, 3) := by decide +kernel
theorem dX12_mend_134 : decode cX12_mend 134 = .ok (.aload_n 0, 1) := by decide +kernel
theorem dX12_mend_135 : decode cX12_mend 135 = .ok (.getfield 29, 3) := by decide +kernel
theorem dX12_mend_138 : decode cX12_mend 138 = .ok (.sipush 198, 3) := by decide +kernel
theorem dX12_mend_141 : decode cX12_mend 141 = .ok (.iload 11, 2) := by decide +kernel
theorem dX12_mend_143 : decode cX12_mend 143 = .ok (.iadd, 1) := by decide +kernel
theorem dX12_mend_144 : decode cX12_mend 144 = .ok (.iaload, 1) := by decide +kernel
theorem dX12_mend_145 : decode cX12_mend 145 = .ok (.ifCond .ne 7, 3) := by decide +kernel
theorem dX12_mend_148 : decode cX12_mend 148 = .ok (.iconst 1, 1) := by decide +kernel
theorem dX12_mend_149 : decode cX12_mend 149 = .ok (.goto 4, 3) := by decide +kernel
theorem dX12_mend_15 : decode cX12_mend 15 = .ok (.aload_n 0, 1) := by decide +kernel
theorem dX12_mend_152 : decode cX12_mend 152 = .ok (.iconst 0, 1) := by decide +kernel
theorem dX12_mend_153 : decode cX12_mend 153 = .ok (.istore 10, 2) := by decide +kernel
theorem dX12_mend_155 : decode cX12_mend 155 = .ok (.iload 9, 2) := by decide +kernel
theorem dX12_mend_157 : decode cX12_mend 157 = .ok (.aload_n 0, 1) := by decide +kernel
theorem dX12_mend_158 : decode cX12_mend 158 = .ok (.getfield 23, 3) := by decide +kernel
theorem dX12_mend_16 : decode cX12_mend 16 = .ok (.iload_n 1, 1) := by decide +kernel
theorem dX12_mend_161 : decode cX12_mend 161 = .ok (.bipush 28, 2) := by decide +kernel
theorem dX12_mend_163 : decode cX12_mend 163 = .ok (.iconst 5, 1) := by decide +kernel
theorem dX12_mend_164 : decode cX12_mend 164 = .ok (.iload 11, 2) := by decide +kernel
theorem dX12_mend_166 : decode cX12_mend 166 = .ok (.imul, 1) := by decide +kernel
theorem dX12_mend_167 : decode cX12_mend 167 = .ok (.iadd, 1) := by decide +kernel
theorem dX12_mend_168 : decode cX12_mend 168 = .ok (.iconst 4, 1) := by decide +kernel
theorem dX12_mend_169 : decode cX12_mend 169 = .ok (.iadd, 1) := by decide +kernel
theorem dX12_mend_17 : decode cX12_mend 17 = .ok (.iconst 2, 1) := by decide +kernel
theorem dX12_mend_170 : decode cX12_mend 170 = .ok (.iaload, 1) := by decide +kernel
theorem dX12_mend_171 : decode cX12_mend 171 = .ok (.iadd, 1) := by decide +kernel
theorem dX12_mend_172 : decode cX12_mend 172 = .ok (.istore 9, 2) := by decide +kernel
theorem dX12_mend_174 : decode cX12_mend 174 = .ok (.iinc 11 1, 3) := by decide +kernel
theorem dX12_mend_177 : decode cX12_mend 177 = .ok (.goto (-72), 3) := by decide +kernel
theorem dX12_mend_18 : decode cX12_mend 18 = .ok (.invokevirtual 324, 3) := by decide +kernel
theorem dX12_mend_180 : decode cX12_mend 180 = .ok (.iload 10, 2) := by decide +kernel
theorem dX12_mend_182 : decode cX12_mend 182 = .ok (.ifCond .eq 90, 3) := by decide +kernel
theorem dX12_mend_185 : decode cX12_mend 185 = .ok (.iload 6, 2) := by decide +kernel
theorem dX12_mend_187 : decode cX12_mend 187 = .ok (.iconst (-1), 1) := by decide +kernel
theorem dX12_mend_188 : decode cX12_mend 188 = .ok (.if_icmp .eq 13, 3) := by decide +kernel
theorem dX12_mend_191 : decode cX12_mend 191 = .ok (.iload 9, 2) := by decide +kernel
theorem dX12_mend_193 : decode cX12_mend 193 = .ok (.iload 7, 2) := by decide +kernel
theorem dX12_mend_195 : decode cX12_mend 195 = .ok (.if_icmp .lt 6, 3) := by decide +kernel
theorem dX12_mend_198 : decode cX12_mend 198 = .ok (.goto 74, 3) := by decide +kernel
theorem dX12_mend_2 : decode cX12_mend 2 = .ok (.putfield 1, 3) := by decide +kernel
theorem dX12_mend_201 : decode cX12_mend 201 = .ok (.iconst 0, 1) := by decide +kernel
theorem dX12_mend_202 : decode cX12_mend 202 = .ok (.istore 11, 2) := by decide +kernel
theorem dX12_mend_204 : decode cX12_mend 204 = .ok (.iload 11, 2) := by decide +kernel
theorem dX12_mend_206 : decode cX12_mend 206 = .ok (.aload_n 0, 1) := by decide +kernel
theorem dX12_mend_207 : decode cX12_mend 207 = .ok (.getfield 23, 3) := by decide +kernel
theorem dX12_mend_21 : decode cX12_mend 21 = .ok (.ifCond .eq 47, 3) := by decide +kernel
theorem dX12_mend_210 : decode cX12_mend 210 = .ok (.iconst 5, 1) := by decide +kernel
theorem dX12_mend_211 : decode cX12_mend 211 = .ok (.iaload, 1) := by decide +kernel
theorem dX12_mend_212 : decode cX12_mend 212 = .ok (.if_icmp .ge 26, 3) := by decide +kernel
theorem dX12_mend_215 : decode cX12_mend 215 = .ok (.iload 8, 2) := by decide +kernel
theorem dX12_mend_217 : decode cX12_mend 217 = .ok (.iload 11, 2) := by decide +kernel
theorem dX12_mend_219 : decode cX12_mend 219 = .ok (.ishr, 1) := by decide +kernel
theorem dX12_mend_220 : decode cX12_mend 220 = .ok (.iconst 1, 1) := by decide +kernel
theorem dX12_mend_221 : decode cX12_mend 221 = .ok (.iand, 1) := by decide +kernel
theorem dX12_mend_222 : decode cX12_mend 222 = .ok (.iconst 1, 1) := by decide +kernel
theorem dX12_mend_223 : decode cX12_mend 223 = .ok (.if_icmp .ne 9, 3) := by decide +kernel
theorem dX12_mend_226 : decode cX12_mend 226 = .ok (.aload_n 0, 1) := by decide +kernel
theorem dX12_mend_227 : decode cX12_mend 227 = .ok (.iload 11, 2) := by decide +kernel
theorem dX12_mend_229 : decode cX12_mend 229 = .ok (.invokevirtual 303, 3) := by decide +kernel
theorem dX12_mend_232 : decode cX12_mend 232 = .ok (.iinc 11 1, 3) := by decide +kernel
theorem dX12_mend_235 : decode cX12_mend 235 = .ok (.goto (-31), 3) := by decide +kernel
theorem dX12_mend_238 : decode cX12_mend 238 = .ok (.aload_n 0, 1) := by decide +kernel
theorem dX12_mend_239 : decode cX12_mend 239 = .ok (.iload_n 1, 1) := by decide +kernel
theorem dX12_mend_24 : decode cX12_mend 24 = .ok (.aload_n 0, 1) := by decide +kernel
theorem dX12_mend_240 : decode cX12_mend 240 = .ok (.iload_n 2, 1) := by decide +kernel
theorem dX12_mend_241 : decode cX12_mend 241 = .ok (.iload_n 3, 1) := by decide +kernel
theorem dX12_mend_242 : decode cX12_mend 242 = .ok (.invokestatic 289, 3) := by decide +kernel
theorem dX12_mend_245 : decode cX12_mend 245 = .ok (.invokevirtual 384, 3) := by decide +kernel
theorem dX12_mend_248 : decode cX12_mend 248 = .ok (.istore 11, 2) := by decide +kernel
theorem dX12_mend_25 : decode cX12_mend 25 = .ok (.iload 4, 2) := by decide +kernel
theorem dX12_mend_250 : decode cX12_mend 250 = .ok (.aload_n 0, 1) := by decide +kernel
theorem dX12_mend_251 : decode cX12_mend 251 = .ok (.invokevirtual 387, 3) := by decide +kernel
theorem dX12_mend_254 : decode cX12_mend 254 = .ok (.iload 11, 2) := by decide +kernel
theorem dX12_mend_256 : decode cX12_mend 256 = .ok (.iload 4, 2) := by decide +kernel
theorem dX12_mend_258 : decode cX12_mend 258 = .ok (.if_icmp .le 6, 3) := by decide +kernel
theorem dX12_mend_261 : decode cX12_mend 261 = .ok (.goto 11, 3) := by decide +kernel
theorem dX12_mend_264 : decode cX12_mend 264 = .ok (.iload 8, 2) := by decide +kernel
theorem dX12_mend_266 : decode cX12_mend 266 = .ok (.istore 6, 2) := by decide +kernel
theorem dX12_mend_268 : decode cX12_mend 268 = .ok (.iload 9, 2) := by decide +kernel
theorem dX12_mend_27 : decode cX12_mend 27 = .ok (.iconst 0, 1) := by decide +kernel
theorem dX12_mend_270 : decode cX12_mend 270 = .ok (.istore 7, 2) := by decide +kernel
theorem dX12_mend_272 : decode cX12_mend 272 = .ok (.iinc 8 1, 3) := by decide +kernel
theorem dX12_mend_275 : decode cX12_mend 275 = .ok (.goto (-192), 3) := by decide +kernel
theorem dX12_mend_278 : decode cX12_mend 278 = .ok (.iload 6, 2) := by decide +kernel
theorem dX12_mend_28 : decode cX12_mend 28 = .ok (.sipush 9999, 3) := by decide +kernel
theorem dX12_mend_280 : decode cX12_mend 280 = .ok (.iconst (-1), 1) := by decide +kernel
theorem dX12_mend_281 : decode cX12_mend 281 = .ok (.if_icmp .ne 7, 3) := by decide +kernel
theorem dX12_mend_284 : decode cX12_mend 284 = .ok (.iconst (-1), 1) := by decide +kernel
theorem dX12_mend_285 : decode cX12_mend 285 = .ok (.goto 15, 3) := by decide +kernel
theorem dX12_mend_288 : decode cX12_mend 288 = .ok (.iload 5, 2) := by decide +kernel
theorem dX12_mend_290 : decode cX12_mend 290 = .ok (.ifCond .ne 8, 3) := by decide +kernel
theorem dX12_mend_293 : decode cX12_mend 293 = .ok (.iload 6, 2) := by decide +kernel
theorem dX12_mend_295 : decode cX12_mend 295 = .ok (.goto 5, 3) := by decide +kernel
theorem dX12_mend_298 : decode cX12_mend 298 = .ok (.iload 7, 2) := by decide +kernel
theorem dX12_mend_300 : decode cX12_mend 300 = .ok (.ireturn, 1) := by decide +kernel
theorem dX12_mend_31 : decode cX12_mend 31 = .ok (.invokestatic 279, 3) := by decide +kernel
theorem dX12_mend_34 : decode cX12_mend 34 = .ok (.ifCond .eq 17, 3) := by decide +kernel
theorem dX12_mend_37 : decode cX12_mend 37 = .ok (.iload 5, 2) := by decide +kernel
theorem dX12_mend_39 : decode cX12_mend 39 = .ok (.iconst 0, 1) := by decide +kernel
theorem dX12_mend_40 : decode cX12_mend 40 = .ok (.iconst 1, 1) := by decide +kernel
theorem dX12_mend_41 : decode cX12_mend 41 = .ok (.invokestatic 279, 3) := by decide +kernel
theorem dX12_mend_44 : decode cX12_mend 44 = .ok (.ifCond .eq 7, 3) := by decide +kernel
theorem dX12_mend_47 : decode cX12_mend 47 = .ok (.iconst 1, 1) := by decide +kernel
theorem dX12_mend_48 : decode cX12_mend 48 = .ok (.goto 4, 3) := by decide +kernel
theorem dX12_mend_5 : decode cX12_mend 5 = .ok (.aload_n 0, 1) := by decide +kernel
theorem dX12_mend_51 : decode cX12_mend 51 = .ok (.iconst 0, 1) := by decide +kernel
theorem dX12_mend_52 : decode cX12_mend 52 = .ok (.iconst 3, 1) := by decide +kernel
theorem dX12_mend_53 : decode cX12_mend 53 = .ok (.iconst 2, 1) := by decide +kernel
theorem dX12_mend_54 : decode cX12_mend 54 = .ok (.invokevirtual 175, 3) := by decide +kernel
theorem dX12_mend_57 : decode cX12_mend 57 = .ok (.ifCond .eq 11, 3) := by decide +kernel
theorem dX12_mend_6 : decode cX12_mend 6 = .ok (.iload_n 2, 1) := by decide +kernel
theorem dX12_mend_60 : decode cX12_mend 60 = .ok (.aload_n 0, 1) := by decide +kernel
theorem dX12_mend_61 : decode cX12_mend 61 = .ok (.iconst 4, 1) := by decide +kernel
theorem dX12_mend_62 : decode cX12_mend 62 = .ok (.invokevirtual 312, 3) := by decide +kernel
theorem dX12_mend_65 : decode cX12_mend 65 = .ok (.ifCond .ne 5, 3) := by decide +kernel
theorem dX12_mend_68 : decode cX12_mend 68 = .ok (.iconst 0, 1) := by decide +kernel
theorem dX12_mend_69 : decode cX12_mend 69 = .ok (.ireturn, 1) := by decide +kernel
theorem dX12_mend_7 : decode cX12_mend 7 = .ok (.iload_n 3, 1) := by decide +kernel
theorem dX12_mend_70 : decode cX12_mend 70 = .ok (.aload_n 0, 1) := by decide +kernel
theorem dX12_mend_71 : decode cX12_mend 71 = .ok (.invokevirtual 381, 3) := by decide +kernel
theorem dX12_mend_74 : decode cX12_mend 74 = .ok (.iconst (-1), 1) := by decide +kernel
theorem dX12_mend_75 : decode cX12_mend 75 = .ok (.istore 6, 2) := by decide +kernel
theorem dX12_mend_77 : decode cX12_mend 77 = .ok (.iconst 0, 1) := by decide +kernel
theorem dX12_mend_78 : decode cX12_mend 78 = .ok (.istore 7, 2) := by decide +kernel
theorem dX12_mend_8 : decode cX12_mend 8 = .ok (.iconst 1, 1) := by decide +kernel
theorem dX12_mend_80 : decode cX12_mend 80 = .ok (.iconst 0, 1) := by decide +kernel
theorem dX12_mend_81 : decode cX12_mend 81 = .ok (.istore 8, 2) := by decide +kernel
theorem dX12_mend_83 : decode cX12_mend 83 = .ok (.iload 8, 2) := by decide +kernel
theorem dX12_mend_85 : decode cX12_mend 85 = .ok (.iconst 1, 1) := by decide +kernel
theorem dX12_mend_86 : decode cX12_mend 86 = .ok (.aload_n 0, 1) := by decide +kernel
theorem dX12_mend_87 : decode cX12_mend 87 = .ok (.getfield 23, 3) := by decide +kernel
theorem dX12_mend_9 : decode cX12_mend 9 = .ok (.invokevirtual 286, 3) := by decide +kernel
theorem dX12_mend_90 : decode cX12_mend 90 = .ok (.iconst 5, 1) := by decide +kernel
theorem dX12_mend_91 : decode cX12_mend 91 = .ok (.iaload, 1) := by decide +kernel
theorem dX12_mend_92 : decode cX12_mend 92 = .ok (.ishl, 1) := by decide +kernel
theorem dX12_mend_93 : decode cX12_mend 93 = .ok (.if_icmp .ge 185, 3) := by decide +kernel
theorem dX12_mend_96 : decode cX12_mend 96 = .ok (.iconst 0, 1) := by decide +kernel
theorem dX12_mend_97 : decode cX12_mend 97 = .ok (.istore 9, 2) := by decide +kernel
theorem dX12_mend_99 : decode cX12_mend 99 = .ok (.iconst 1, 1) := by decide +kernel
def vs_m_mend : List Cond := .code yX12_mend cX12_mend 12 (some .int) :: (([.fieldLink RX12 1 "KerbSplashModel" "thrown" "I", .fieldLink RX12 23 "KerbSplashModel" "b" "[I", .fieldLink RX12 29 "KerbSplashModel" "s" "[I"] : List Cond) ++ ((wsX120) ++ ((wsV RX12 286 RX12 yX12_isCell vs_m_isCell) ++ ((wsV RX12 324 RX12 yX12_isRain vs_m_isRain) ++ ((va_wsS RX12 279 yX12_within vs_m_within) ++ ((wsV RX12 175 RX12 yX12_may vs_m_may) ++ ((wsV RX12 312 RX12 yX12_isNow vs_m_isNow) ++ ((wsV RX12 381 RX12 yX12_keeps vs_m_keeps) ++ ((va_wsS RX12 289 yX12_at vs_m_at) ++ ((wsV RX12 384 RX12 yX12_deepBehind vs_m_deepBehind) ++ ((wsV RX12 387 RX12 yX12_comesBack vs_m_back) ++ ((wsV RX12 303 RX12 yX12_works vs_m_works) ++ ([])))))))))))))
set_option maxHeartbeats 4000000 in
set_option maxRecDepth 100000 in
theorem m_mend (l : Launch) (hl : l.stackTraces = false) (D : va_G) (cy : Nat → ClassId) (sa : Nat → Nat) (mm m1 m9 m10 m11 m12 m13 m14 m15 m19 m20 m21 m23 m24 m25 m26 m27 m28 m33 m35 : Nat) (th tp sz_ ap bad bk opn fp im nr nl sp_ wtc wcl ir ip shu sfa swr : Int) (f1 f10 f12 f14 f19 f20 f21 : Nat → Int32) (n x y k w : Int) (qs : Nat → Int) (sz : Nat) (hr_th : (-2147483648) ≤ th ∧ th ≤ 2147483647) (hr_tp : 0 ≤ tp ∧ tp ≤ 600) (hr_sz_ : 0 ≤ sz_ ∧ sz_ ≤ 600) (hr_ap : 0 ≤ ap ∧ ap ≤ 602) (hr_bad : (-1) ≤ bad ∧ bad ≤ 602) (hr_bk : 0 ≤ bk ∧ bk ≤ 4) (hr_opn : 0 ≤ opn ∧ opn ≤ 7) (hr_fp : (-2147483648) ≤ fp ∧ fp ≤ 2147483647) (hr_im : 0 ≤ im ∧ im ≤ 3) (hr_nr : 0 ≤ nr ∧ nr ≤ 4) (hr_nl : 0 ≤ nl ∧ nl ≤ 4) (hr_sp_ : 0 ≤ sp_ ∧ sp_ ≤ 602) (hr_wtc : (-2147483648) ≤ wtc ∧ wtc ≤ 2147483647) (hr_wcl : 0 ≤ wcl ∧ wcl ≤ 95) (hr_ir : 0 ≤ ir ∧ ir ≤ 5) (hr_ip : (-2147483648) ≤ ip ∧ ip ≤ 2147483647) (hr_shu : (-2147483648) ≤ shu ∧ shu ≤ 2147483647) (hr_sfa : (-2147483648) ≤ sfa ∧ sfa ≤ 2147483647) (hr_swr : (-2147483648) ≤ swr ∧ swr ≤ 2147483647) (hr_n : (-2147483648) ≤ n ∧ n ≤ 2147483647) (hr_x : (-2147483648) ≤ x ∧ x ≤ 2147483647) (hr_y : (-2147483648) ≤ y ∧ y ≤ 2147483647) (hr_k : (-2147483648) ≤ k ∧ k ≤ 2147483647) (hr_w : (-2147483648) ≤ w ∧ w ≤ 2147483647) (hf10 : BI f10) (hf12 : SQ qs 8 f12) (hf14 : SI 8 f14) (hf19 : inv_ 4 0 8 f19) : Met l yX12_mend vs_m_mend ({ frames := 6, cells := 0, slots := 0, locals := 141 }) (va_Pc [vR mm, vI n, vI x, vI y, vI k, vI w] (pcW D cy sa sz [zO mm 12 [vI th, vR m1, vI tp, vI sz_, vI ap, vI bad, vI bk, vI opn, vI fp, vR m9, vR m10, vR m11, vR m12, vR m13, vR m14, vR m15, vI im, vI nr, vI nl, vR m19, vR m20, vR m21, vI sp_, vR m23, vR m24, vR m25, vR m26, vR m27, vR m28, vI wtc, vI wcl, vI ir, vI ip, vR m33, vI shu, vR m35, vI sfa, vI swr], zI m1 (cy 0) 4 f1, zI m10 (cy 0) 68 f10, zI m12 (cy 0) 389 f12, zI m14 (cy 0) 389 f14, zI m19 (cy 0) 4 f19, zI m20 (cy 0) 32 f20, zI m21 (cy 0) 32 f21])) (va_Qi (fun (r : Int32) (u : SV) => r = iI (u.2.1 0) ∧ ((-2147483648) ≤ u.2.1 1 ∧ u.2.1 1 ≤ 2147483647) ∧ ((-2147483648) ≤ u.2.1 0 ∧ u.2.1 0 ≤ 2147483647) ∧ BI f10 ∧ SQ qs 8 (u.2.2 1) ∧ SI 8 (u.2.2 2) ∧ inv_ 4 0 8 f19) (fun u t => atW D (va_A [zO mm 12 [vI th, vR m1, vI tp, vI sz_, vI ap, vI bad, vI bk, vI opn, vI fp, vR m9, vR m10, vR m11, vR m12, vR m13, vR m14, vR m15, vI im, vI nr, vI nl, vR m19, vR m20, vR m21, vI sp_, vR m23, vR m24, vR m25, vR m26, vR m27, vR m28, vI wtc, vI wcl, vI ir, vI ip, vR m33, vI shu, vR m35, vI sfa, vI swr], zI m1 (cy 0) 4 f1, zI m10 (cy 0) 68 f10, zI m12 (cy 0) 389 f12, zI m14 (cy 0) 389 f14, zI m19 (cy 0) 4 f19, zI m20 (cy 0) 32 f20, zI m21 (cy 0) 32 f21] sz) [zO mm 12 [vI (u.2.1 1), vR m1, vI tp, vI sz_, vI ap, vI bad, vI bk, vI opn, vI fp, vR m9, vR m10, vR m11, vR m12, vR m13, vR m14, vR m15, vI im, vI nr, vI nl, vR m19, vR m20, vR m21, vI sp_, vR m23, vR m24, vR m25, vR m26, vR m27, vR m28, vI wtc, vI wcl, vI ir, vI ip, vR m33, vI shu, vR m35, vI sfa, vI swr], zI m1 (cy 0) 4 (u.2.2 0), zI m10 (cy 0) 68 f10, zI m12 (cy 0) 389 (u.2.2 1), zI m14 (cy 0) 389 (u.2.2 2), zI m19 (cy 0) 4 f19, zI m20 (cy 0) 32 f20, zI m21 (cy 0) 32 f21] t) (va_A [zO mm 12 [vI th, vR m1, vI tp, vI sz_, vI ap, vI bad, vI bk, vI opn, vI fp, vR m9, vR m10, vR m11, vR m12, vR m13, vR m14, vR m15, vI im, vI nr, vI nl, vR m19, vR m20, vR m21, vI sp_, vR m23, vR m24, vR m25, vR m26, vR m27, vR m28, vI wtc, vI wcl, vI ir, vI ip, vR m33, vI shu, vR m35, vI sfa, vI swr], zI m1 (cy 0) 4 f1, zI m10 (cy 0) 68 f10, zI m12 (cy 0) 389 f12, zI m14 (cy 0) 389 f14, zI m19 (cy 0) 4 f19, zI m20 (cy 0) 32 f20, zI m21 (cy 0) 32 f21] sz)) 0 0 (va_A [zO mm 12 [vI th, vR m1, vI tp, vI sz_, vI ap, vI bad, vI bk, vI opn, vI fp, vR m9, vR m10, vR m11, vR m12, vR m13, vR m14, vR m15, vI im, vI nr, vI nl, vR m19, vR m20, vR m21, vI sp_, vR m23, vR m24, vR m25, vR m26, vR m27, vR m28, vI wtc, vI wcl, vI ir, vI ip, vR m33, vI shu, vR m35, vI sfa, vI swr], zI m1 (cy 0) 4 f1, zI m10 (cy 0) 68 f10, zI m12 (cy 0) 389 f12, zI m14 (cy 0) 389 f14, zI m19 (cy 0) 4 f19, zI m20 (cy 0) 32 f20, zI m21 (cy 0) 32 f21] sz) := by
  refine Met.ofW (cc := cX12_mend) (maxL := 12) (ret := (some .int)) (by decide) rfl ?_
  intro p e s m args below meth c s₁ B hml hv
  obtain ⟨rfl, hsz, hP, hG, hD0, hT⟩ := hv
  have hx := B.exec
  have hb := B.bytes
  have hr := B.returns
  have hts := atoms_spec (ws := vs_m_mend) B.pre
  have hown : s.vm.findClass RX12 = some m.cls := findClass_of_methodNamed B.named
  have hlocks := B.notSynchronized
  subst hsz
  have hD := hD0.self (sz := s.heap.size)
  generalize hAe : va_A [zO mm 12 [vI th, vR m1, vI tp, vI sz_, vI ap, vI bad, vI bk, vI opn, vI fp, vR m9, vR m10, vR m11, vR m12, vR m13, vR m14, vR m15, vI im, vI nr, vI nl, vR m19, vR m20, vR m21, vI sp_, vR m23, vR m24, vR m25, vR m26, vR m27, vR m28, vI wtc, vI wcl, vI ir, vI ip, vR m33, vI shu, vR m35, vI sfa, vI swr], zI m1 (cy 0) 4 f1, zI m10 (cy 0) 68 f10, zI m12 (cy 0) 389 f12, zI m14 (cy 0) 389 f14, zI m19 (cy 0) 4 f19, zI m20 (cy 0) 32 f20, zI m21 (cy 0) 32 f21] s.heap.size = A at hD hT ⊢
  have hA : ∀ q : Nat, s.heap.size ≤ q → A q := fun q h => by rw [← hAe]; exact Or.inr h
  have hS : va_S A s.heap s.heap [] := va_S.rf
  have hl0 := lv_entry ([vR mm, vI n, vI x, vI y, vI k, vI w]) (n := 12) (Nat.le_of_ble_eq_true rfl)
  rw [lg_entry_eq]
  generalize (lg_sl ([vR mm, vI n, vI x, vI y, vI k, vI w]) ++ List.replicate (12 - (lg_sl ([vR mm, vI n, vI x, vI y, vI k, vI w])).length) Slot.unset).toArray = ls at hl0 ⊢
  have hlv : lv_has ls 12 [(0, vR mm), (1, vI n), (2, vI x), (3, vI y), (4, vI k), (5, vI w)] := hl0
  have lf1 := hts (.fieldLink RX12 1 "KerbSplashModel" "thrown" "I") (List.mem_of_getElem? (i := 1) rfl)
  have hi12 : ∀ w ∈ wsX120, w ∈ vs_m_mend := fun w h => List.mem_cons_of_mem _ (List.mem_append_right _ (List.mem_append_left _ h))
  have gg_1 : GoodIn vs_m_mend (wsV RX12 286 RX12 yX12_isCell vs_m_isCell) := goodIn_sub (fun w h => List.mem_cons_of_mem _ (List.mem_append_right _ (List.mem_append_right _ (List.mem_append_left _ h)))) (gd_V gd_m_isCell (by decide +kernel))
  have gg_2 : GoodIn vs_m_mend (wsV RX12 324 RX12 yX12_isRain vs_m_isRain) := goodIn_sub (fun w h => List.mem_cons_of_mem _ (List.mem_append_right _ (List.mem_append_right _ (List.mem_append_right _ (List.mem_append_left _ h))))) (gd_V gd_m_isRain (by decide +kernel))
  have gg_3 : GoodIn vs_m_mend (va_wsS RX12 279 yX12_within vs_m_within) := goodIn_sub (fun w h => List.mem_cons_of_mem _ (List.mem_append_right _ (List.mem_append_right _ (List.mem_append_right _ (List.mem_append_right _ (List.mem_append_left _ h)))))) (gd_S gd_m_within (by decide +kernel))
  have gg_4 : GoodIn vs_m_mend (wsV RX12 175 RX12 yX12_may vs_m_may) := goodIn_sub (fun w h => List.mem_cons_of_mem _ (List.mem_append_right _ (List.mem_append_right _ (List.mem_append_right _ (List.mem_append_right _ (List.mem_append_right _ (List.mem_append_left _ h))))))) (gd_V gd_m_may (by decide +kernel))
  have gg_5 : GoodIn vs_m_mend (wsV RX12 312 RX12 yX12_isNow vs_m_isNow) := goodIn_sub (fun w h => List.mem_cons_of_mem _ (List.mem_append_right _ (List.mem_append_right _ (List.mem_append_right _ (List.mem_append_right _ (List.mem_append_right _ (List.mem_append_right _ (List.mem_append_left _ h)))))))) (gd_V gd_m_isNow (by decide +kernel))
  have gg_6 : GoodIn vs_m_mend (wsV RX12 381 RX12 yX12_keeps vs_m_keeps) := goodIn_sub (fun w h => List.mem_cons_of_mem _ (List.mem_append_right _ (List.mem_append_right _ (List.mem_append_right _ (List.mem_append_right _ (List.mem_append_right _ (List.mem_append_right _ (List.mem_append_right _ (List.mem_append_left _ h))))))))) (gd_V gd_m_keeps (by decide +kernel))
  have lf23 := hts (.fieldLink RX12 23 "KerbSplashModel" "b" "[I") (List.mem_of_getElem? (i := 2) rfl)
  have gg_7 : GoodIn vs_m_mend (va_wsS RX12 289 yX12_at vs_m_at) := goodIn_sub (fun w h => List.mem_cons_of_mem _ (List.mem_append_right _ (List.mem_append_right _ (List.mem_append_right _ (List.mem_append_right _ (List.mem_append_right _ (List.mem_append_right _ (List.mem_append_right _ (List.mem_append_right _ (List.mem_append_left _ h)))))))))) (gd_S gd_m_at (by decide +kernel))
  have gg_8 : GoodIn vs_m_mend (wsV RX12 384 RX12 yX12_deepBehind vs_m_deepBehind) := goodIn_sub (fun w h => List.mem_cons_of_mem _ (List.mem_append_right _ (List.mem_append_right _ (List.mem_append_right _ (List.mem_append_right _ (List.mem_append_right _ (List.mem_append_right _ (List.mem_append_right _ (List.mem_append_right _ (List.mem_append_right _ (List.mem_append_left _ h))))))))))) (gd_V gd_m_deepBehind (by decide +kernel))
  have gg_9 : GoodIn vs_m_mend (wsV RX12 387 RX12 yX12_comesBack vs_m_back) := goodIn_sub (fun w h => List.mem_cons_of_mem _ (List.mem_append_right _ (List.mem_append_right _ (List.mem_append_right _ (List.mem_append_right _ (List.mem_append_right _ (List.mem_append_right _ (List.mem_append_right _ (List.mem_append_right _ (List.mem_append_right _ (List.mem_append_right _ (List.mem_append_left _ h)))))))))))) (gd_V gd_m_back (by decide +kernel))
  have gg_10 : GoodIn vs_m_mend (wsV RX12 303 RX12 yX12_works vs_m_works) := goodIn_sub (fun w h => List.mem_cons_of_mem _ (List.mem_append_right _ (List.mem_append_right _ (List.mem_append_right _ (List.mem_append_right _ (List.mem_append_right _ (List.mem_append_right _ (List.mem_append_right _ (List.mem_append_right _ (List.mem_append_right _ (List.mem_append_right _ (List.mem_append_right _ (List.mem_append_left _ h))))))))))))) (gd_V gd_m_works (by decide +kernel))
  have lf29 := hts (.fieldLink RX12 29 "KerbSplashModel" "s" "[I") (List.mem_of_getElem? (i := 3) rfl)
  refine lv_aload_n hx hb dX12_mend_0 rfl (lv_at hlv 0 rfl) ?_
  refine lv_iconst (v := iI 0) hx hb dX12_mend_1 (by decide) ?_
  refine va_put (D := D) (ci := 12) (v := vI 0) (ty := .int) (C := RX12) (T := TX12) (N := 38) hx hb hts hi12 tyX12 tyX12_ok nmX12 hown hG.1 hP hD hS 0 rfl rfl 0 (by decide) lf1 (fun _ h9 => h9) rfl (by decide +kernel) rfl rfl (Nat.le_of_ble_eq_true rfl) dX12_mend_2 (fun H locs hP hD hS => ?_)
  have hP : va_P D vwCl [zO mm 12 [vI 0, vR m1, vI tp, vI sz_, vI ap, vI bad, vI bk, vI opn, vI fp, vR m9, vR m10, vR m11, vR m12, vR m13, vR m14, vR m15, vI im, vI nr, vI nl, vR m19, vR m20, vR m21, vI sp_, vR m23, vR m24, vR m25, vR m26, vR m27, vR m28, vI wtc, vI wcl, vI ir, vI ip, vR m33, vI shu, vR m35, vI sfa, vI swr], zI m1 (cy 0) 4 f1, zI m10 (cy 0) 68 f10, zI m12 (cy 0) 389 f12, zI m14 (cy 0) 389 f14, zI m19 (cy 0) 4 f19, zI m20 (cy 0) 32 f20, zI m21 (cy 0) 32 f21] H := hP
  have hD : va_D A [zO mm 12 [vI 0, vR m1, vI tp, vI sz_, vI ap, vI bad, vI bk, vI opn, vI fp, vR m9, vR m10, vR m11, vR m12, vR m13, vR m14, vR m15, vI im, vI nr, vI nl, vR m19, vR m20, vR m21, vI sp_, vR m23, vR m24, vR m25, vR m26, vR m27, vR m28, vI wtc, vI wcl, vI ir, vI ip, vR m33, vI shu, vR m35, vI sfa, vI swr], zI m1 (cy 0) 4 f1, zI m10 (cy 0) 68 f10, zI m12 (cy 0) 389 f12, zI m14 (cy 0) 389 f14, zI m19 (cy 0) 4 f19, zI m20 (cy 0) 32 f20, zI m21 (cy 0) 32 f21] := hD
  refine lv_aload_n hx hb dX12_mend_5 rfl (lv_at hlv 0 rfl) ?_
  refine lv_iload_n hx hb dX12_mend_6 rfl (lv_at hlv 2 rfl) ?_
  refine lv_iload_n hx hb dX12_mend_7 rfl (lv_at hlv 3 rfl) ?_
  refine lv_iconst (v := iI 1) hx hb dX12_mend_8 (by decide) ?_
  refine cj_i (wr := [zI m12 (cy 0) 389 f12, zI m14 (cy 0) 389 f14, zI m19 (cy 0) 4 f19, zI m20 (cy 0) 32 f20, zI m21 (cy 0) 32 f21]) (va_runV (As := [vI x, vI y, vI 1]) (rest := []) ⟨hx, hb, hml, hown, hts⟩ (m_isCell l hl D cy sa mm m1 m9 m10 m11 m12 m13 m14 m15 m19 m20 m21 m23 m24 m25 m26 m27 m28 m33 m35 0 tp sz_ ap bad bk opn fp im nr nl sp_ wtc wcl ir ip shu sfa swr f1 f10 x y 1 H.size (by show ((-2147483648) : Int) ≤ 0 ∧ (0 : Int) ≤ 2147483647; decide) (by first | exact hr_tp | omega) (by first | exact hr_sz_ | omega) (by first | exact hr_ap | omega) (by first | exact hr_bad | omega) (by first | exact hr_bk | omega) (by first | exact hr_opn | omega) (by first | exact hr_fp | omega) (by first | exact hr_im | omega) (by first | exact hr_nr | omega) (by first | exact hr_nl | omega) (by first | exact hr_sp_ | omega) (by first | exact hr_wtc | omega) (by first | exact hr_wcl | omega) (by first | exact hr_ir | omega) (by first | exact hr_ip | omega) (by first | exact hr_shu | omega) (by first | exact hr_sfa | omega) (by first | exact hr_swr | omega) (by first | exact hr_x | omega) (by first | exact hr_y | omega) (by show (1 : Int) ≤ 1 ∧ (1 : Int) ≤ 4; decide) hf10) (cwV 3 hts gg_1 rfl rfl rfl (by decide +kernel) ⟨Nat.le_of_ble_eq_true rfl, Nat.le_of_ble_eq_true rfl⟩) ⟨pcW.blind, (va_recv hG.1 hP (ci := 12) (q0 := 0) rfl rfl), (pcW.mk hP hD hS hA hG hT [0, 1, 2] rfl (by decide))⟩ rfl rfl hlv.1 rfl (lv_room (Nat.le_of_ble_eq_true rfl)) dX12_mend_9 ⟨Nat.le_of_ble_eq_true rfl, Nat.le_of_ble_eq_true rfl⟩) hP hD hS hA [0, 1, 2] [3, 4, 5, 6, 7] rfl rfl (by decide) (by decide) (fun r1 u1 H locs hw1 hP hD hS => ?_)
  obtain ⟨rfl, hq1_1, hq1_2, hq1_3, hq1_4⟩ := hw1
  have hP : va_P D vwCl [zI m12 (cy 0) 389 f12, zI m14 (cy 0) 389 f14, zI m19 (cy 0) 4 f19, zI m20 (cy 0) 32 f20, zI m21 (cy 0) 32 f21, zO mm 12 [vI (u1.2.1 1), vR m1, vI tp, vI sz_, vI ap, vI bad, vI bk, vI opn, vI fp, vR m9, vR m10, vR m11, vR m12, vR m13, vR m14, vR m15, vI im, vI nr, vI nl, vR m19, vR m20, vR m21, vI sp_, vR m23, vR m24, vR m25, vR m26, vR m27, vR m28, vI wtc, vI wcl, vI ir, vI ip, vR m33, vI shu, vR m35, vI sfa, vI swr], zI m1 (cy 0) 4 (u1.2.2 0), zI m10 (cy 0) 68 f10] H := hP
  have hD : va_D A [zI m12 (cy 0) 389 f12, zI m14 (cy 0) 389 f14, zI m19 (cy 0) 4 f19, zI m20 (cy 0) 32 f20, zI m21 (cy 0) 32 f21, zO mm 12 [vI (u1.2.1 1), vR m1, vI tp, vI sz_, vI ap, vI bad, vI bk, vI opn, vI fp, vR m9, vR m10, vR m11, vR m12, vR m13, vR m14, vR m15, vI im, vI nr, vI nl, vR m19, vR m20, vR m21, vI sp_, vR m23, vR m24, vR m25, vR m26, vR m27, vR m28, vI wtc, vI wcl, vI ir, vI ip, vR m33, vI shu, vR m35, vI sfa, vI swr], zI m1 (cy 0) 4 (u1.2.2 0), zI m10 (cy 0) 68 f10] := hD
  refine iz_eq (tgt := 68) hx hb dX12_mend_12 (by decide) (by first | exact rgw hq1_2 (by decide) (by decide) | omega) (fun c_1 => ?_) (fun c_1 => ?_)
  · refine lv_iconst (v := iI 0) hx hb dX12_mend_68 (by decide) ?_
    refine W.widen (k := 0) (n := 0) (Nat.le_of_ble_eq_true rfl) (Nat.le_of_ble_eq_true rfl) ?_
    exact W.iret (v := iI 0) hx hb hr (fun t ht hW => ⟨⟨iI 0, ((fun k => ([] : List Nat).getD k 0), (fun k => ([0, (u1.2.1 1)] : List Int).getD k 0), (fun k => ([(u1.2.2 0), f12, f14] : List (Nat → Int32)).getD k (fun _ => 0))), rfl, ⟨rfl, (by show ((-2147483648) ≤ (u1.2.1 1) ∧ (u1.2.1 1) ≤ 2147483647); first | exact hq1_1 | omega), (by show ((-2147483648) ≤ 0 ∧ 0 ≤ 2147483647); show ((-2147483648) : Int) ≤ 0 ∧ (0 : Int) ≤ 2147483647; decide), hq1_4, hf12, hf14, hf19⟩, by rw [ht]; exact hP.sub [5, 6, 7, 0, 1, 2, 3, 4] rfl, hD.sub [5, 6, 7, 0, 1, 2, 3, 4] (by decide) rfl⟩, hS.F ht⟩) hS.2.2 dX12_mend_69
  · refine lv_aload_n hx hb dX12_mend_15 rfl (lv_at hlv 0 rfl) ?_
    refine lv_iload_n hx hb dX12_mend_16 rfl (lv_at hlv 1 rfl) ?_
    refine lv_iconst (v := iI 2) hx hb dX12_mend_17 (by decide) ?_
    refine cj_i (wr := [zI m12 (cy 0) 389 f12, zI m14 (cy 0) 389 f14, zI m19 (cy 0) 4 f19, zI m20 (cy 0) 32 f20, zI m21 (cy 0) 32 f21, zI m10 (cy 0) 68 f10]) (va_runV (As := [vI n, vI 2]) (rest := []) ⟨hx, hb, hml, hown, hts⟩ (m_isRain l hl D cy sa mm m1 m9 m10 m11 m12 m13 m14 m15 m19 m20 m21 m23 m24 m25 m26 m27 m28 m33 m35 (u1.2.1 1) tp sz_ ap bad bk opn fp im nr nl sp_ wtc wcl ir ip shu sfa swr (u1.2.2 0) n 2 H.size (by first | exact hq1_1 | omega) (by first | exact hr_tp | omega) (by first | exact hr_sz_ | omega) (by first | exact hr_ap | omega) (by first | exact hr_bad | omega) (by first | exact hr_bk | omega) (by first | exact hr_opn | omega) (by first | exact hr_fp | omega) (by first | exact hr_im | omega) (by first | exact hr_nr | omega) (by first | exact hr_nl | omega) (by first | exact hr_sp_ | omega) (by first | exact hr_wtc | omega) (by first | exact hr_wcl | omega) (by first | exact hr_ir | omega) (by first | exact hr_ip | omega) (by first | exact hr_shu | omega) (by first | exact hr_sfa | omega) (by first | exact hr_swr | omega) (by first | exact hr_n | omega) (by show (1 : Int) ≤ 2 ∧ (2 : Int) ≤ 4; decide)) (cwV 2 hts gg_2 rfl rfl rfl (by decide +kernel) ⟨Nat.le_of_ble_eq_true rfl, Nat.le_of_ble_eq_true rfl⟩) ⟨pcW.blind, (va_recv hG.1 hP (ci := 12) (q0 := 5) rfl rfl), (pcW.mk hP hD hS hA hG hT [5, 6] rfl (by decide))⟩ rfl rfl hlv.1 rfl (lv_room (Nat.le_of_ble_eq_true rfl)) dX12_mend_18 ⟨Nat.le_of_ble_eq_true rfl, Nat.le_of_ble_eq_true rfl⟩) hP hD hS hA [5, 6] [0, 1, 2, 3, 4, 7] rfl rfl (by decide) (by decide) (fun r2 u2 H locs hw2 hP hD hS => ?_)
    obtain ⟨rfl, hq2_1, hq2_2, hq2_3⟩ := hw2
    have hP : va_P D vwCl [zI m12 (cy 0) 389 f12, zI m14 (cy 0) 389 f14, zI m19 (cy 0) 4 f19, zI m20 (cy 0) 32 f20, zI m21 (cy 0) 32 f21, zI m10 (cy 0) 68 f10, zO mm 12 [vI (u2.2.1 1), vR m1, vI tp, vI sz_, vI ap, vI bad, vI bk, vI opn, vI fp, vR m9, vR m10, vR m11, vR m12, vR m13, vR m14, vR m15, vI im, vI nr, vI nl, vR m19, vR m20, vR m21, vI sp_, vR m23, vR m24, vR m25, vR m26, vR m27, vR m28, vI wtc, vI wcl, vI ir, vI ip, vR m33, vI shu, vR m35, vI sfa, vI swr], zI m1 (cy 0) 4 (u2.2.2 0)] H := hP
    have hD : va_D A [zI m12 (cy 0) 389 f12, zI m14 (cy 0) 389 f14, zI m19 (cy 0) 4 f19, zI m20 (cy 0) 32 f20, zI m21 (cy 0) 32 f21, zI m10 (cy 0) 68 f10, zO mm 12 [vI (u2.2.1 1), vR m1, vI tp, vI sz_, vI ap, vI bad, vI bk, vI opn, vI fp, vR m9, vR m10, vR m11, vR m12, vR m13, vR m14, vR m15, vI im, vI nr, vI nl, vR m19, vR m20, vR m21, vI sp_, vR m23, vR m24, vR m25, vR m26, vR m27, vR m28, vI wtc, vI wcl, vI ir, vI ip, vR m33, vI shu, vR m35, vI sfa, vI swr], zI m1 (cy 0) 4 (u2.2.2 0)] := hD
    refine iz_eq (tgt := 68) hx hb dX12_mend_21 (by decide) (by first | exact rgw hq2_2 (by decide) (by decide) | omega) (fun c_2 => ?_) (fun c_2 => ?_)
    · refine lv_iconst (v := iI 0) hx hb dX12_mend_68 (by decide) ?_
      refine W.widen (k := 0) (n := 0) (Nat.le_of_ble_eq_true rfl) (Nat.le_of_ble_eq_true rfl) ?_
      exact W.iret (v := iI 0) hx hb hr (fun t ht hW => ⟨⟨iI 0, ((fun k => ([] : List Nat).getD k 0), (fun k => ([0, (u2.2.1 1)] : List Int).getD k 0), (fun k => ([(u2.2.2 0), f12, f14] : List (Nat → Int32)).getD k (fun _ => 0))), rfl, ⟨rfl, (by show ((-2147483648) ≤ (u2.2.1 1) ∧ (u2.2.1 1) ≤ 2147483647); first | exact hq2_1 | omega), (by show ((-2147483648) ≤ 0 ∧ 0 ≤ 2147483647); show ((-2147483648) : Int) ≤ 0 ∧ (0 : Int) ≤ 2147483647; decide), hq1_4, hf12, hf14, hf19⟩, by rw [ht]; exact hP.sub [6, 7, 5, 0, 1, 2, 3, 4] rfl, hD.sub [6, 7, 5, 0, 1, 2, 3, 4] (by decide) rfl⟩, hS.F ht⟩) hS.2.2 dX12_mend_69
    · refine lv_aload_n hx hb dX12_mend_24 rfl (lv_at hlv 0 rfl) ?_
      refine lv_iload hx hb dX12_mend_25 (lv_at hlv 4 rfl) ?_
      refine lv_iconst (v := iI 0) hx hb dX12_mend_27 (by decide) ?_
      refine lv_sipush (v := iI 9999) hx hb dX12_mend_28 (by decide) ?_
      refine cj_i (wr := [zI m12 (cy 0) 389 f12, zI m14 (cy 0) 389 f14, zI m19 (cy 0) 4 f19, zI m20 (cy 0) 32 f20, zI m21 (cy 0) 32 f21, zI m10 (cy 0) 68 f10, zO mm 12 [vI (u2.2.1 1), vR m1, vI tp, vI sz_, vI ap, vI bad, vI bk, vI opn, vI fp, vR m9, vR m10, vR m11, vR m12, vR m13, vR m14, vR m15, vI im, vI nr, vI nl, vR m19, vR m20, vR m21, vI sp_, vR m23, vR m24, vR m25, vR m26, vR m27, vR m28, vI wtc, vI wcl, vI ir, vI ip, vR m33, vI shu, vR m35, vI sfa, vI swr], zI m1 (cy 0) 4 (u2.2.2 0)]) (va_runS (As := [vI k, vI 0, vI 9999]) (rest := [vR mm]) ⟨hx, hb, hml, hown, hts⟩ (m_within l hl D cy sa k 0 9999 H.size (by first | exact hr_k | omega) (by show ((-2147483648) : Int) ≤ 0 ∧ (0 : Int) ≤ 2147483647; decide) (by show ((-2147483648) : Int) ≤ 9999 ∧ (9999 : Int) ≤ 2147483647; decide)) (va_cwS 3 hts gg_3 rfl rfl rfl (by decide +kernel) ⟨Nat.le_of_ble_eq_true rfl, Nat.le_of_ble_eq_true rfl⟩) ⟨pcW.blind, (pcW.mk hP hD hS hA hG hT [] rfl (by decide))⟩ rfl rfl hlv.1 rfl (lv_room (Nat.le_of_ble_eq_true rfl)) dX12_mend_31 ⟨Nat.le_of_ble_eq_true rfl, Nat.le_of_ble_eq_true rfl⟩) hP hD hS hA [] [0, 1, 2, 3, 4, 5, 6, 7] rfl rfl (by decide) (by decide) (fun r3 u3 H locs hw3 hP hD hS => ?_)
      obtain ⟨rfl, hq3_1, hq3_2, hq3_3⟩ := hw3
      have hP : va_P D vwCl [zI m12 (cy 0) 389 f12, zI m14 (cy 0) 389 f14, zI m19 (cy 0) 4 f19, zI m20 (cy 0) 32 f20, zI m21 (cy 0) 32 f21, zI m10 (cy 0) 68 f10, zO mm 12 [vI (u2.2.1 1), vR m1, vI tp, vI sz_, vI ap, vI bad, vI bk, vI opn, vI fp, vR m9, vR m10, vR m11, vR m12, vR m13, vR m14, vR m15, vI im, vI nr, vI nl, vR m19, vR m20, vR m21, vI sp_, vR m23, vR m24, vR m25, vR m26, vR m27, vR m28, vI wtc, vI wcl, vI ir, vI ip, vR m33, vI shu, vR m35, vI sfa, vI swr], zI m1 (cy 0) 4 (u2.2.2 0)] H := hP
      have hD : va_D A [zI m12 (cy 0) 389 f12, zI m14 (cy 0) 389 f14, zI m19 (cy 0) 4 f19, zI m20 (cy 0) 32 f20, zI m21 (cy 0) 32 f21, zI m10 (cy 0) 68 f10, zO mm 12 [vI (u2.2.1 1), vR m1, vI tp, vI sz_, vI ap, vI bad, vI bk, vI opn, vI fp, vR m9, vR m10, vR m11, vR m12, vR m13, vR m14, vR m15, vI im, vI nr, vI nl, vR m19, vR m20, vR m21, vI sp_, vR m23, vR m24, vR m25, vR m26, vR m27, vR m28, vI wtc, vI wcl, vI ir, vI ip, vR m33, vI shu, vR m35, vI sfa, vI swr], zI m1 (cy 0) 4 (u2.2.2 0)] := hD
      refine iz_eq (tgt := 51) hx hb dX12_mend_34 (by decide) (by first | exact rgw hq3_1 (by decide) (by decide) | omega) (fun c_3 => ?_) (fun c_3 => ?_)
      · refine lv_iconst (v := iI 0) hx hb dX12_mend_51 (by decide) ?_
        refine lv_iconst (v := iI 3) hx hb dX12_mend_52 (by decide) ?_
        refine lv_iconst (v := iI 2) hx hb dX12_mend_53 (by decide) ?_
        refine cj_i (wr := [zI m12 (cy 0) 389 f12, zI m14 (cy 0) 389 f14, zI m19 (cy 0) 4 f19, zI m20 (cy 0) 32 f20, zI m21 (cy 0) 32 f21, zI m10 (cy 0) 68 f10]) (va_runV (As := [vI 0, vI 3, vI 2]) (rest := []) ⟨hx, hb, hml, hown, hts⟩ (m_may l hl D cy sa mm m1 m9 m10 m11 m12 m13 m14 m15 m19 m20 m21 m23 m24 m25 m26 m27 m28 m33 m35 (u2.2.1 1) tp sz_ ap bad bk opn fp im nr nl sp_ wtc wcl ir ip shu sfa swr (u2.2.2 0) 0 3 2 H.size (by first | exact hq2_1 | omega) (by first | exact hr_tp | omega) (by first | exact hr_sz_ | omega) (by first | exact hr_ap | omega) (by first | exact hr_bad | omega) (by first | exact hr_bk | omega) (by first | exact hr_opn | omega) (by first | exact hr_fp | omega) (by first | exact hr_im | omega) (by first | exact hr_nr | omega) (by first | exact hr_nl | omega) (by first | exact hr_sp_ | omega) (by first | exact hr_wtc | omega) (by first | exact hr_wcl | omega) (by first | exact hr_ir | omega) (by first | exact hr_ip | omega) (by first | exact hr_shu | omega) (by first | exact hr_sfa | omega) (by first | exact hr_swr | omega) (by show (0 : Int) ≤ 0 ∧ (0 : Int) ≤ 1; decide) (by show (1 : Int) ≤ 3 ∧ (3 : Int) ≤ 4; decide) (by show (0 : Int) ≤ 2 ∧ (2 : Int) ≤ 3; decide)) (cwV 3 hts gg_4 rfl rfl rfl (by decide +kernel) ⟨Nat.le_of_ble_eq_true rfl, Nat.le_of_ble_eq_true rfl⟩) ⟨pcW.blind, (va_recv hG.1 hP (ci := 12) (q0 := 6) rfl rfl), (pcW.mk hP hD hS hA hG hT [6, 7] rfl (by decide))⟩ rfl rfl hlv.1 rfl (lv_room (Nat.le_of_ble_eq_true rfl)) dX12_mend_54 ⟨Nat.le_of_ble_eq_true rfl, Nat.le_of_ble_eq_true rfl⟩) hP hD hS hA [6, 7] [0, 1, 2, 3, 4, 5] rfl rfl (by decide) (by decide) (fun r4 u4 H locs hw4 hP hD hS => ?_)
        obtain ⟨rfl, hq4_1, hq4_2, hq4_3, hq4_4⟩ := hw4
        have hP : va_P D vwCl [zI m12 (cy 0) 389 f12, zI m14 (cy 0) 389 f14, zI m19 (cy 0) 4 f19, zI m20 (cy 0) 32 f20, zI m21 (cy 0) 32 f21, zI m10 (cy 0) 68 f10, zO mm 12 [vI (u4.2.1 1), vR m1, vI tp, vI sz_, vI ap, vI bad, vI bk, vI opn, vI fp, vR m9, vR m10, vR m11, vR m12, vR m13, vR m14, vR m15, vI im, vI nr, vI nl, vR m19, vR m20, vR m21, vI sp_, vR m23, vR m24, vR m25, vR m26, vR m27, vR m28, vI wtc, vI wcl, vI ir, vI ip, vR m33, vI shu, vR m35, vI sfa, vI swr], zI m1 (cy 0) 4 (u4.2.2 0)] H := hP
        have hD : va_D A [zI m12 (cy 0) 389 f12, zI m14 (cy 0) 389 f14, zI m19 (cy 0) 4 f19, zI m20 (cy 0) 32 f20, zI m21 (cy 0) 32 f21, zI m10 (cy 0) 68 f10, zO mm 12 [vI (u4.2.1 1), vR m1, vI tp, vI sz_, vI ap, vI bad, vI bk, vI opn, vI fp, vR m9, vR m10, vR m11, vR m12, vR m13, vR m14, vR m15, vI im, vI nr, vI nl, vR m19, vR m20, vR m21, vI sp_, vR m23, vR m24, vR m25, vR m26, vR m27, vR m28, vI wtc, vI wcl, vI ir, vI ip, vR m33, vI shu, vR m35, vI sfa, vI swr], zI m1 (cy 0) 4 (u4.2.2 0)] := hD
        refine lt_i (y := iI 0) (by rw [show (u4.2.1 0) = 0 by omega]) ?_
        refine iz_eq (tgt := 68) hx hb dX12_mend_57 (by decide) (by show ((-2147483648) : Int) ≤ 0 ∧ (0 : Int) ≤ 2147483647; decide) (fun c_4 => ?_) (fun c_4 => by exfalso; omega)
        refine lv_iconst (v := iI 0) hx hb dX12_mend_68 (by decide) ?_
        refine W.widen (k := 0) (n := 0) (Nat.le_of_ble_eq_true rfl) (Nat.le_of_ble_eq_true rfl) ?_
        exact W.iret (v := iI 0) hx hb hr (fun t ht hW => ⟨⟨iI 0, ((fun k => ([] : List Nat).getD k 0), (fun k => ([0, (u4.2.1 1)] : List Int).getD k 0), (fun k => ([(u4.2.2 0), f12, f14] : List (Nat → Int32)).getD k (fun _ => 0))), rfl, ⟨rfl, (by show ((-2147483648) ≤ (u4.2.1 1) ∧ (u4.2.1 1) ≤ 2147483647); first | exact hq4_1 | omega), (by show ((-2147483648) ≤ 0 ∧ 0 ≤ 2147483647); show ((-2147483648) : Int) ≤ 0 ∧ (0 : Int) ≤ 2147483647; decide), hq1_4, hf12, hf14, hf19⟩, by rw [ht]; exact hP.sub [6, 7, 5, 0, 1, 2, 3, 4] rfl, hD.sub [6, 7, 5, 0, 1, 2, 3, 4] (by decide) rfl⟩, hS.F ht⟩) hS.2.2 dX12_mend_69
      · refine lv_iload hx hb dX12_mend_37 (lv_at hlv 5 rfl) ?_
        refine lv_iconst (v := iI 0) hx hb dX12_mend_39 (by decide) ?_
        refine lv_iconst (v := iI 1) hx hb dX12_mend_40 (by decide) ?_
        refine cj_i (wr := [zI m12 (cy 0) 389 f12, zI m14 (cy 0) 389 f14, zI m19 (cy 0) 4 f19, zI m20 (cy 0) 32 f20, zI m21 (cy 0) 32 f21, zI m10 (cy 0) 68 f10, zO mm 12 [vI (u2.2.1 1), vR m1, vI tp, vI sz_, vI ap, vI bad, vI bk, vI opn, vI fp, vR m9, vR m10, vR m11, vR m12, vR m13, vR m14, vR m15, vI im, vI nr, vI nl, vR m19, vR m20, vR m21, vI sp_, vR m23, vR m24, vR m25, vR m26, vR m27, vR m28, vI wtc, vI wcl, vI ir, vI ip, vR m33, vI shu, vR m35, vI sfa, vI swr], zI m1 (cy 0) 4 (u2.2.2 0)]) (va_runS (As := [vI w, vI 0, vI 1]) (rest := [vR mm]) ⟨hx, hb, hml, hown, hts⟩ (m_within l hl D cy sa w 0 1 H.size (by first | exact hr_w | omega) (by show ((-2147483648) : Int) ≤ 0 ∧ (0 : Int) ≤ 2147483647; decide) (by show ((-2147483648) : Int) ≤ 1 ∧ (1 : Int) ≤ 2147483647; decide)) (va_cwS 3 hts gg_3 rfl rfl rfl (by decide +kernel) ⟨Nat.le_of_ble_eq_true rfl, Nat.le_of_ble_eq_true rfl⟩) ⟨pcW.blind, (pcW.mk hP hD hS hA hG hT [] rfl (by decide))⟩ rfl rfl hlv.1 rfl (lv_room (Nat.le_of_ble_eq_true rfl)) dX12_mend_41 ⟨Nat.le_of_ble_eq_true rfl, Nat.le_of_ble_eq_true rfl⟩) hP hD hS hA [] [0, 1, 2, 3, 4, 5, 6, 7] rfl rfl (by decide) (by decide) (fun r5 u5 H locs hw5 hP hD hS => ?_)
        obtain ⟨rfl, hq5_1, hq5_2, hq5_3⟩ := hw5
        have hP : va_P D vwCl [zI m12 (cy 0) 389 f12, zI m14 (cy 0) 389 f14, zI m19 (cy 0) 4 f19, zI m20 (cy 0) 32 f20, zI m21 (cy 0) 32 f21, zI m10 (cy 0) 68 f10, zO mm 12 [vI (u2.2.1 1), vR m1, vI tp, vI sz_, vI ap, vI bad, vI bk, vI opn, vI fp, vR m9, vR m10, vR m11, vR m12, vR m13, vR m14, vR m15, vI im, vI nr, vI nl, vR m19, vR m20, vR m21, vI sp_, vR m23, vR m24, vR m25, vR m26, vR m27, vR m28, vI wtc, vI wcl, vI ir, vI ip, vR m33, vI shu, vR m35, vI sfa, vI swr], zI m1 (cy 0) 4 (u2.2.2 0)] H := hP
        have hD : va_D A [zI m12 (cy 0) 389 f12, zI m14 (cy 0) 389 f14, zI m19 (cy 0) 4 f19, zI m20 (cy 0) 32 f20, zI m21 (cy 0) 32 f21, zI m10 (cy 0) 68 f10, zO mm 12 [vI (u2.2.1 1), vR m1, vI tp, vI sz_, vI ap, vI bad, vI bk, vI opn, vI fp, vR m9, vR m10, vR m11, vR m12, vR m13, vR m14, vR m15, vI im, vI nr, vI nl, vR m19, vR m20, vR m21, vI sp_, vR m23, vR m24, vR m25, vR m26, vR m27, vR m28, vI wtc, vI wcl, vI ir, vI ip, vR m33, vI shu, vR m35, vI sfa, vI swr], zI m1 (cy 0) 4 (u2.2.2 0)] := hD
        refine iz_eq (tgt := 51) hx hb dX12_mend_44 (by decide) (by first | exact rgw hq5_1 (by decide) (by decide) | omega) (fun c_5 => ?_) (fun c_5 => ?_)
        · refine lv_iconst (v := iI 0) hx hb dX12_mend_51 (by decide) ?_
          refine lv_iconst (v := iI 3) hx hb dX12_mend_52 (by decide) ?_
          refine lv_iconst (v := iI 2) hx hb dX12_mend_53 (by decide) ?_
          refine cj_i (wr := [zI m12 (cy 0) 389 f12, zI m14 (cy 0) 389 f14, zI m19 (cy 0) 4 f19, zI m20 (cy 0) 32 f20, zI m21 (cy 0) 32 f21, zI m10 (cy 0) 68 f10]) (va_runV (As := [vI 0, vI 3, vI 2]) (rest := []) ⟨hx, hb, hml, hown, hts⟩ (m_may l hl D cy sa mm m1 m9 m10 m11 m12 m13 m14 m15 m19 m20 m21 m23 m24 m25 m26 m27 m28 m33 m35 (u2.2.1 1) tp sz_ ap bad bk opn fp im nr nl sp_ wtc wcl ir ip shu sfa swr (u2.2.2 0) 0 3 2 H.size (by first | exact hq2_1 | omega) (by first | exact hr_tp | omega) (by first | exact hr_sz_ | omega) (by first | exact hr_ap | omega) (by first | exact hr_bad | omega) (by first | exact hr_bk | omega) (by first | exact hr_opn | omega) (by first | exact hr_fp | omega) (by first | exact hr_im | omega) (by first | exact hr_nr | omega) (by first | exact hr_nl | omega) (by first | exact hr_sp_ | omega) (by first | exact hr_wtc | omega) (by first | exact hr_wcl | omega) (by first | exact hr_ir | omega) (by first | exact hr_ip | omega) (by first | exact hr_shu | omega) (by first | exact hr_sfa | omega) (by first | exact hr_swr | omega) (by show (0 : Int) ≤ 0 ∧ (0 : Int) ≤ 1; decide) (by show (1 : Int) ≤ 3 ∧ (3 : Int) ≤ 4; decide) (by show (0 : Int) ≤ 2 ∧ (2 : Int) ≤ 3; decide)) (cwV 3 hts gg_4 rfl rfl rfl (by decide +kernel) ⟨Nat.le_of_ble_eq_true rfl, Nat.le_of_ble_eq_true rfl⟩) ⟨pcW.blind, (va_recv hG.1 hP (ci := 12) (q0 := 6) rfl rfl), (pcW.mk hP hD hS hA hG hT [6, 7] rfl (by decide))⟩ rfl rfl hlv.1 rfl (lv_room (Nat.le_of_ble_eq_true rfl)) dX12_mend_54 ⟨Nat.le_of_ble_eq_true rfl, Nat.le_of_ble_eq_true rfl⟩) hP hD hS hA [6, 7] [0, 1, 2, 3, 4, 5] rfl rfl (by decide) (by decide) (fun r6 u6 H locs hw6 hP hD hS => ?_)
          obtain ⟨rfl, hq6_1, hq6_2, hq6_3, hq6_4⟩ := hw6
          have hP : va_P D vwCl [zI m12 (cy 0) 389 f12, zI m14 (cy 0) 389 f14, zI m19 (cy 0) 4 f19, zI m20 (cy 0) 32 f20, zI m21 (cy 0) 32 f21, zI m10 (cy 0) 68 f10, zO mm 12 [vI (u6.2.1 1), vR m1, vI tp, vI sz_, vI ap, vI bad, vI bk, vI opn, vI fp, vR m9, vR m10, vR m11, vR m12, vR m13, vR m14, vR m15, vI im, vI nr, vI nl, vR m19, vR m20, vR m21, vI sp_, vR m23, vR m24, vR m25, vR m26, vR m27, vR m28, vI wtc, vI wcl, vI ir, vI ip, vR m33, vI shu, vR m35, vI sfa, vI swr], zI m1 (cy 0) 4 (u6.2.2 0)] H := hP
          have hD : va_D A [zI m12 (cy 0) 389 f12, zI m14 (cy 0) 389 f14, zI m19 (cy 0) 4 f19, zI m20 (cy 0) 32 f20, zI m21 (cy 0) 32 f21, zI m10 (cy 0) 68 f10, zO mm 12 [vI (u6.2.1 1), vR m1, vI tp, vI sz_, vI ap, vI bad, vI bk, vI opn, vI fp, vR m9, vR m10, vR m11, vR m12, vR m13, vR m14, vR m15, vI im, vI nr, vI nl, vR m19, vR m20, vR m21, vI sp_, vR m23, vR m24, vR m25, vR m26, vR m27, vR m28, vI wtc, vI wcl, vI ir, vI ip, vR m33, vI shu, vR m35, vI sfa, vI swr], zI m1 (cy 0) 4 (u6.2.2 0)] := hD
          refine lt_i (y := iI 0) (by rw [show (u6.2.1 0) = 0 by omega]) ?_
          refine iz_eq (tgt := 68) hx hb dX12_mend_57 (by decide) (by show ((-2147483648) : Int) ≤ 0 ∧ (0 : Int) ≤ 2147483647; decide) (fun c_6 => ?_) (fun c_6 => by exfalso; omega)
          refine lv_iconst (v := iI 0) hx hb dX12_mend_68 (by decide) ?_
          refine W.widen (k := 0) (n := 0) (Nat.le_of_ble_eq_true rfl) (Nat.le_of_ble_eq_true rfl) ?_
          exact W.iret (v := iI 0) hx hb hr (fun t ht hW => ⟨⟨iI 0, ((fun k => ([] : List Nat).getD k 0), (fun k => ([0, (u6.2.1 1)] : List Int).getD k 0), (fun k => ([(u6.2.2 0), f12, f14] : List (Nat → Int32)).getD k (fun _ => 0))), rfl, ⟨rfl, (by show ((-2147483648) ≤ (u6.2.1 1) ∧ (u6.2.1 1) ≤ 2147483647); first | exact hq6_1 | omega), (by show ((-2147483648) ≤ 0 ∧ 0 ≤ 2147483647); show ((-2147483648) : Int) ≤ 0 ∧ (0 : Int) ≤ 2147483647; decide), hq1_4, hf12, hf14, hf19⟩, by rw [ht]; exact hP.sub [6, 7, 5, 0, 1, 2, 3, 4] rfl, hD.sub [6, 7, 5, 0, 1, 2, 3, 4] (by decide) rfl⟩, hS.F ht⟩) hS.2.2 dX12_mend_69
        · refine lv_iconst (v := iI 1) hx hb dX12_mend_47 (by decide) ?_
          refine lv_goto (tgt := 52) hx hb dX12_mend_48 (by decide) ?_
          refine lv_iconst (v := iI 3) hx hb dX12_mend_52 (by decide) ?_
          refine lv_iconst (v := iI 2) hx hb dX12_mend_53 (by decide) ?_
          refine cj_i (wr := [zI m12 (cy 0) 389 f12, zI m14 (cy 0) 389 f14, zI m19 (cy 0) 4 f19, zI m20 (cy 0) 32 f20, zI m21 (cy 0) 32 f21, zI m10 (cy 0) 68 f10]) (va_runV (As := [vI 1, vI 3, vI 2]) (rest := []) ⟨hx, hb, hml, hown, hts⟩ (m_may l hl D cy sa mm m1 m9 m10 m11 m12 m13 m14 m15 m19 m20 m21 m23 m24 m25 m26 m27 m28 m33 m35 (u2.2.1 1) tp sz_ ap bad bk opn fp im nr nl sp_ wtc wcl ir ip shu sfa swr (u2.2.2 0) 1 3 2 H.size (by first | exact hq2_1 | omega) (by first | exact hr_tp | omega) (by first | exact hr_sz_ | omega) (by first | exact hr_ap | omega) (by first | exact hr_bad | omega) (by first | exact hr_bk | omega) (by first | exact hr_opn | omega) (by first | exact hr_fp | omega) (by first | exact hr_im | omega) (by first | exact hr_nr | omega) (by first | exact hr_nl | omega) (by first | exact hr_sp_ | omega) (by first | exact hr_wtc | omega) (by first | exact hr_wcl | omega) (by first | exact hr_ir | omega) (by first | exact hr_ip | omega) (by first | exact hr_shu | omega) (by first | exact hr_sfa | omega) (by first | exact hr_swr | omega) (by show (0 : Int) ≤ 1 ∧ (1 : Int) ≤ 1; decide) (by show (1 : Int) ≤ 3 ∧ (3 : Int) ≤ 4; decide) (by show (0 : Int) ≤ 2 ∧ (2 : Int) ≤ 3; decide)) (cwV 3 hts gg_4 rfl rfl rfl (by decide +kernel) ⟨Nat.le_of_ble_eq_true rfl, Nat.le_of_ble_eq_true rfl⟩) ⟨pcW.blind, (va_recv hG.1 hP (ci := 12) (q0 := 6) rfl rfl), (pcW.mk hP hD hS hA hG hT [6, 7] rfl (by decide))⟩ rfl rfl hlv.1 rfl (lv_room (Nat.le_of_ble_eq_true rfl)) dX12_mend_54 ⟨Nat.le_of_ble_eq_true rfl, Nat.le_of_ble_eq_true rfl⟩) hP hD hS hA [6, 7] [0, 1, 2, 3, 4, 5] rfl rfl (by decide) (by decide) (fun r7 u7 H locs hw7 hP hD hS => ?_)
          obtain ⟨rfl, hq7_1, hq7_2, hq7_3, hq7_4⟩ := hw7
          have hP : va_P D vwCl [zI m12 (cy 0) 389 f12, zI m14 (cy 0) 389 f14, zI m19 (cy 0) 4 f19, zI m20 (cy 0) 32 f20, zI m21 (cy 0) 32 f21, zI m10 (cy 0) 68 f10, zO mm 12 [vI (u7.2.1 1), vR m1, vI tp, vI sz_, vI ap, vI bad, vI bk, vI opn, vI fp, vR m9, vR m10, vR m11, vR m12, vR m13, vR m14, vR m15, vI im, vI nr, vI nl, vR m19, vR m20, vR m21, vI sp_, vR m23, vR m24, vR m25, vR m26, vR m27, vR m28, vI wtc, vI wcl, vI ir, vI ip, vR m33, vI shu, vR m35, vI sfa, vI swr], zI m1 (cy 0) 4 (u7.2.2 0)] H := hP
          have hD : va_D A [zI m12 (cy 0) 389 f12, zI m14 (cy 0) 389 f14, zI m19 (cy 0) 4 f19, zI m20 (cy 0) 32 f20, zI m21 (cy 0) 32 f21, zI m10 (cy 0) 68 f10, zO mm 12 [vI (u7.2.1 1), vR m1, vI tp, vI sz_, vI ap, vI bad, vI bk, vI opn, vI fp, vR m9, vR m10, vR m11, vR m12, vR m13, vR m14, vR m15, vI im, vI nr, vI nl, vR m19, vR m20, vR m21, vI sp_, vR m23, vR m24, vR m25, vR m26, vR m27, vR m28, vI wtc, vI wcl, vI ir, vI ip, vR m33, vI shu, vR m35, vI sfa, vI swr], zI m1 (cy 0) 4 (u7.2.2 0)] := hD
          refine iz_eq (tgt := 68) hx hb dX12_mend_57 (by decide) (by first | exact rgw hq7_2 (by decide) (by decide) | omega) (fun c_7 => ?_) (fun c_7 => ?_)
          · refine lv_iconst (v := iI 0) hx hb dX12_mend_68 (by decide) ?_
            refine W.widen (k := 0) (n := 0) (Nat.le_of_ble_eq_true rfl) (Nat.le_of_ble_eq_true rfl) ?_
            exact W.iret (v := iI 0) hx hb hr (fun t ht hW => ⟨⟨iI 0, ((fun k => ([] : List Nat).getD k 0), (fun k => ([0, (u7.2.1 1)] : List Int).getD k 0), (fun k => ([(u7.2.2 0), f12, f14] : List (Nat → Int32)).getD k (fun _ => 0))), rfl, ⟨rfl, (by show ((-2147483648) ≤ (u7.2.1 1) ∧ (u7.2.1 1) ≤ 2147483647); first | exact hq7_1 | omega), (by show ((-2147483648) ≤ 0 ∧ 0 ≤ 2147483647); show ((-2147483648) : Int) ≤ 0 ∧ (0 : Int) ≤ 2147483647; decide), hq1_4, hf12, hf14, hf19⟩, by rw [ht]; exact hP.sub [6, 7, 5, 0, 1, 2, 3, 4] rfl, hD.sub [6, 7, 5, 0, 1, 2, 3, 4] (by decide) rfl⟩, hS.F ht⟩) hS.2.2 dX12_mend_69
          · refine lv_aload_n hx hb dX12_mend_60 rfl (lv_at hlv 0 rfl) ?_
            refine lv_iconst (v := iI 4) hx hb dX12_mend_61 (by decide) ?_
            refine cj_i (wr := [zI m14 (cy 0) 389 f14, zI m19 (cy 0) 4 f19, zI m20 (cy 0) 32 f20, zI m21 (cy 0) 32 f21]) (va_runV (As := [vI 4]) (rest := []) ⟨hx, hb, hml, hown, hts⟩ (m_isNow l hl D cy sa mm m1 m9 m10 m11 m12 m13 m14 m15 m19 m20 m21 m23 m24 m25 m26 m27 m28 m33 m35 (u7.2.1 1) tp sz_ ap bad bk opn fp im nr nl sp_ wtc wcl ir ip shu sfa swr (u7.2.2 0) f10 f12 4 H.size (by first | exact hq7_1 | omega) (by first | exact hr_tp | omega) (by first | exact hr_sz_ | omega) (by first | exact hr_ap | omega) (by first | exact hr_bad | omega) (by first | exact hr_bk | omega) (by first | exact hr_opn | omega) (by first | exact hr_fp | omega) (by first | exact hr_im | omega) (by first | exact hr_nr | omega) (by first | exact hr_nl | omega) (by first | exact hr_sp_ | omega) (by first | exact hr_wtc | omega) (by first | exact hr_wcl | omega) (by first | exact hr_ir | omega) (by first | exact hr_ip | omega) (by first | exact hr_shu | omega) (by first | exact hr_sfa | omega) (by first | exact hr_swr | omega) (by show (1 : Int) ≤ 4 ∧ (4 : Int) ≤ 4; decide) hq1_4 (hf12.1)) (cwV 1 hts gg_5 rfl rfl rfl (by decide +kernel) ⟨Nat.le_of_ble_eq_true rfl, Nat.le_of_ble_eq_true rfl⟩) ⟨pcW.blind, (va_recv hG.1 hP (ci := 12) (q0 := 6) rfl rfl), (pcW.mk hP hD hS hA hG hT [6, 7, 5, 0] rfl (by decide))⟩ rfl rfl hlv.1 rfl (lv_room (Nat.le_of_ble_eq_true rfl)) dX12_mend_62 ⟨Nat.le_of_ble_eq_true rfl, Nat.le_of_ble_eq_true rfl⟩) hP hD hS hA [6, 7, 5, 0] [1, 2, 3, 4] rfl rfl (by decide) (by decide) (fun r8 u8 H locs hw8 hP hD hS => ?_)
            obtain ⟨rfl, hq8_1, hq8_2, hq8_3, hq8_4, hq8_5⟩ := hw8
            have hP : va_P D vwCl [zI m14 (cy 0) 389 f14, zI m19 (cy 0) 4 f19, zI m20 (cy 0) 32 f20, zI m21 (cy 0) 32 f21, zO mm 12 [vI (u8.2.1 1), vR m1, vI tp, vI sz_, vI ap, vI bad, vI bk, vI opn, vI fp, vR m9, vR m10, vR m11, vR m12, vR m13, vR m14, vR m15, vI im, vI nr, vI nl, vR m19, vR m20, vR m21, vI sp_, vR m23, vR m24, vR m25, vR m26, vR m27, vR m28, vI wtc, vI wcl, vI ir, vI ip, vR m33, vI shu, vR m35, vI sfa, vI swr], zI m1 (cy 0) 4 (u8.2.2 0), zI m10 (cy 0) 68 f10, zI m12 (cy 0) 389 f12] H := hP
            have hD : va_D A [zI m14 (cy 0) 389 f14, zI m19 (cy 0) 4 f19, zI m20 (cy 0) 32 f20, zI m21 (cy 0) 32 f21, zO mm 12 [vI (u8.2.1 1), vR m1, vI tp, vI sz_, vI ap, vI bad, vI bk, vI opn, vI fp, vR m9, vR m10, vR m11, vR m12, vR m13, vR m14, vR m15, vI im, vI nr, vI nl, vR m19, vR m20, vR m21, vI sp_, vR m23, vR m24, vR m25, vR m26, vR m27, vR m28, vI wtc, vI wcl, vI ir, vI ip, vR m33, vI shu, vR m35, vI sfa, vI swr], zI m1 (cy 0) 4 (u8.2.2 0), zI m10 (cy 0) 68 f10, zI m12 (cy 0) 389 f12] := hD
            refine iz_ne (tgt := 70) hx hb dX12_mend_65 (by decide) (by first | exact rgw hq8_2 (by decide) (by decide) | omega) (fun c_8 => ?_) (fun c_8 => ?_)
            · refine lv_aload_n hx hb dX12_mend_70 rfl (lv_at hlv 0 rfl) ?_
              refine cj_v (wr := [zI m19 (cy 0) 4 f19, zI m20 (cy 0) 32 f20, zI m21 (cy 0) 32 f21, zI m1 (cy 0) 4 (u8.2.2 0), zI m10 (cy 0) 68 f10]) (va_runV (As := []) (rest := []) ⟨hx, hb, hml, hown, hts⟩ (m_keeps l hl D cy sa mm m1 m9 m10 m11 m12 m13 m14 m15 m19 m20 m21 m23 m24 m25 m26 m27 m28 m33 m35 (u8.2.1 1) tp sz_ ap bad bk opn fp im nr nl sp_ wtc wcl ir ip shu sfa swr f12 f14 qs H.size (by first | exact hq8_1 | omega) (by first | exact hr_tp | omega) (by first | exact hr_sz_ | omega) (by first | exact hr_ap | omega) (by first | exact hr_bad | omega) (by first | exact hr_bk | omega) (by first | exact hr_opn | omega) (by first | exact hr_fp | omega) (by first | exact hr_im | omega) (by first | exact hr_nr | omega) (by first | exact hr_nl | omega) (by first | exact hr_sp_ | omega) (by first | exact hr_wtc | omega) (by first | exact hr_wcl | omega) (by first | exact hr_ir | omega) (by first | exact hr_ip | omega) (by first | exact hr_shu | omega) (by first | exact hr_sfa | omega) (by first | exact hr_swr | omega) hf12 hf14) (cwV 0 hts gg_6 rfl rfl rfl (by decide +kernel) ⟨Nat.le_of_ble_eq_true rfl, Nat.le_of_ble_eq_true rfl⟩) ⟨pcW.blind, (va_recv hG.1 hP (ci := 12) (q0 := 4) rfl rfl), (pcW.mk hP hD hS hA hG hT [4, 7, 0] rfl (by decide))⟩ rfl rfl hlv.1 rfl (lv_room (Nat.le_of_ble_eq_true rfl)) dX12_mend_71 ⟨Nat.le_of_ble_eq_true rfl, Nat.le_of_ble_eq_true rfl⟩) hP hD hS hA [4, 7, 0] [1, 2, 3, 5, 6] rfl rfl (by decide) (by decide) (fun u9 H locs hw9 hP hD hS => ?_)
              obtain ⟨hq9_0, hq9_1⟩ := hw9
              have hP : va_P D vwCl [zI m19 (cy 0) 4 f19, zI m20 (cy 0) 32 f20, zI m21 (cy 0) 32 f21, zI m1 (cy 0) 4 (u8.2.2 0), zI m10 (cy 0) 68 f10, zO mm 12 [vI (u8.2.1 1), vR m1, vI tp, vI sz_, vI ap, vI bad, vI bk, vI opn, vI fp, vR m9, vR m10, vR m11, vR m12, vR m13, vR m14, vR m15, vI im, vI nr, vI nl, vR m19, vR m20, vR m21, vI sp_, vR m23, vR m24, vR m25, vR m26, vR m27, vR m28, vI wtc, vI wcl, vI ir, vI ip, vR m33, vI shu, vR m35, vI sfa, vI swr], zI m12 (cy 0) 389 f12, zI m14 (cy 0) 389 (u9.2.2 0)] H := hP
              have hD : va_D A [zI m19 (cy 0) 4 f19, zI m20 (cy 0) 32 f20, zI m21 (cy 0) 32 f21, zI m1 (cy 0) 4 (u8.2.2 0), zI m10 (cy 0) 68 f10, zO mm 12 [vI (u8.2.1 1), vR m1, vI tp, vI sz_, vI ap, vI bad, vI bk, vI opn, vI fp, vR m9, vR m10, vR m11, vR m12, vR m13, vR m14, vR m15, vI im, vI nr, vI nl, vR m19, vR m20, vR m21, vI sp_, vR m23, vR m24, vR m25, vR m26, vR m27, vR m28, vI wtc, vI wcl, vI ir, vI ip, vR m33, vI shu, vR m35, vI sfa, vI swr], zI m12 (cy 0) 389 f12, zI m14 (cy 0) 389 (u9.2.2 0)] := hD
              refine lv_iconst (v := iI (-1)) hx hb dX12_mend_74 (by decide) ?_
              refine lv_istore (lv' := [(6, vI (-1)), (0, vR mm), (1, vI n), (2, vI x), (3, vI y), (4, vI k), (5, vI w)]) hx hb dX12_mend_75 hlv (by decide) rfl (fun ls hlv => ?_)
              refine lv_iconst (v := iI 0) hx hb dX12_mend_77 (by decide) ?_
              refine lv_istore (lv' := [(7, vI 0), (6, vI (-1)), (0, vR mm), (1, vI n), (2, vI x), (3, vI y), (4, vI k), (5, vI w)]) hx hb dX12_mend_78 hlv (by decide) rfl (fun ls hlv => ?_)
              refine lv_iconst (v := iI 0) hx hb dX12_mend_80 (by decide) ?_
              refine lv_istore (lv' := [(8, vI 0), (7, vI 0), (6, vI (-1)), (0, vR mm), (1, vI n), (2, vI x), (3, vI y), (4, vI k), (5, vI w)]) hx hb dX12_mend_81 hlv (by decide) rfl (fun ls hlv => ?_)
              refine (?_ : ∀ (fu : Nat) (q6 : Int) (q7 : Int) (q8 : Int) (wg : Nat → Int32) (H : Heap) (locs : List Loc) (ls : Array Slot), 256 - q8 < (fu : Int) → ((-1) ≤ q6 ∧ q6 ≤ 256) → ((-2147483648) ≤ q7 ∧ q7 ≤ 2147483647) → (0 ≤ q8 ∧ q8 ≤ 256) → SQ qs 8 wg → va_P D vwCl [zI m19 (cy 0) 4 f19, zI m20 (cy 0) 32 f20, zI m21 (cy 0) 32 f21, zI m1 (cy 0) 4 (u8.2.2 0), zI m10 (cy 0) 68 f10, zO mm 12 [vI (u8.2.1 1), vR m1, vI tp, vI sz_, vI ap, vI bad, vI bk, vI opn, vI fp, vR m9, vR m10, vR m11, vR m12, vR m13, vR m14, vR m15, vI im, vI nr, vI nl, vR m19, vR m20, vR m21, vI sp_, vR m23, vR m24, vR m25, vR m26, vR m27, vR m28, vI wtc, vI wcl, vI ir, vI ip, vR m33, vI shu, vR m35, vI sfa, vI swr], zI m12 (cy 0) 389 wg, zI m14 (cy 0) 389 (u9.2.2 0)] H → va_D A [zI m19 (cy 0) 4 f19, zI m20 (cy 0) 32 f20, zI m21 (cy 0) 32 f21, zI m1 (cy 0) 4 (u8.2.2 0), zI m10 (cy 0) 68 f10, zO mm 12 [vI (u8.2.1 1), vR m1, vI tp, vI sz_, vI ap, vI bad, vI bk, vI opn, vI fp, vR m9, vR m10, vR m11, vR m12, vR m13, vR m14, vR m15, vI im, vI nr, vI nl, vR m19, vR m20, vR m21, vI sp_, vR m23, vR m24, vR m25, vR m26, vR m27, vR m28, vI wtc, vI wcl, vI ir, vI ip, vR m33, vI shu, vR m35, vI sfa, vI swr], zI m12 (cy 0) 389 wg, zI m14 (cy 0) 389 (u9.2.2 0)] → va_S A s.heap H locs → lv_has ls 12 [(8, vI q8), (7, vI q7), (6, vI q6), (0, vR mm), (1, vI n), (2, vI x), (3, vI y), (4, vI k), (5, vI w)] → W p l e _ s m _ below meth c H locs _ _ _ (F0 m 83 ls [])) (((256 - 0) + 1 : Int)).toNat (-1) 0 0 f12 _ _ _ (by omega) (by show ((-1) : Int) ≤ (-1) ∧ ((-1) : Int) ≤ 256; decide) (by show ((-2147483648) : Int) ≤ 0 ∧ (0 : Int) ≤ 2147483647; decide) (by show (0 : Int) ≤ 0 ∧ (0 : Int) ≤ 256; decide) hq9_0 hP hD hS hlv
              clear hP hD hS hlv
              intro fu
              induction fu with
              | zero => intro q6 q7 q8 wg H locs ls hm83 hl83_0 hl83_1 hl83_2 hiwg hP hD hS hlv; omega
              | succ fu ih83 =>
                intro q6 q7 q8 wg H locs ls hm83 hl83_0 hl83_1 hl83_2 hiwg hP hD hS hlv
                refine lv_iload hx hb dX12_mend_83 (lv_at hlv 0 rfl) ?_
                refine lv_iconst (v := iI 1) hx hb dX12_mend_85 (by decide) ?_
                refine lv_aload_n hx hb dX12_mend_86 rfl (lv_at hlv 3 rfl) ?_
                refine va_get (D := D) (ci := 12) (v := vR m10) (C := RX12) (T := TX12) (N := 38) hx hb hts hi12 hown hG.1 hP 5 rfl rfl 10 (by decide) lf23 (fun _ h9 => h9) rfl dX12_mend_87 ?_
                refine lv_iconst (v := iI 5) hx hb dX12_mend_90 (by decide) ?_
                refine va_iald hx hb hG.1 hP 4 0 rfl rfl (iI_in (by omega) (by decide)) dX12_mend_91 ?_
                refine lt_nz (i := 5) (by omega) (fun z_9 hz_9 lz_9 uz_9 => ?_)
                have hz_9 : z_9 = nz f10 5 := hz_9
                have hbz_9_8 := hq8_4.1.2.2.2.2.2.1
                refine lv_ishl hx hb dX12_mend_92 ?_
                refine lt_sh2 (n := 8) (M := 256) (by decide) (by decide) (by omega) (fun z_10 ez_10 lz_10 hz_10 => ?_)
                refine ir_ge (tgt := 278) hx hb dX12_mend_93 (by decide) (by first | exact rgw hl83_2 (by decide) (by decide) | omega) (by omega) (fun c_11 => ?_) (fun c_11 => ?_)
                · refine lv_iload hx hb dX12_mend_278 (lv_at hlv 2 rfl) ?_
                  refine lv_iconst (v := iI (-1)) hx hb dX12_mend_280 (by decide) ?_
                  refine ir_ne (tgt := 288) hx hb dX12_mend_281 (by decide) (by first | exact rgw hl83_0 (by decide) (by decide) | omega) (by show ((-2147483648) : Int) ≤ (-1) ∧ ((-1) : Int) ≤ 2147483647; decide) (fun c_12 => ?_) (fun c_12 => ?_)
                  · refine lv_iload hx hb dX12_mend_288 (lv_at hlv 8 rfl) ?_
                    refine iz_ne (tgt := 298) hx hb dX12_mend_290 (by decide) (by first | exact hr_w | omega) (fun c_13 => ?_) (fun c_13 => ?_)
                    · refine lv_iload hx hb dX12_mend_298 (lv_at hlv 1 rfl) ?_
                      refine W.widen (k := 0) (n := 0) (Nat.le_of_ble_eq_true rfl) (Nat.le_of_ble_eq_true rfl) ?_
                      exact W.iret (v := iI q7) hx hb hr (fun t ht hW => ⟨⟨iI q7, ((fun k => ([] : List Nat).getD k 0), (fun k => ([q7, (u8.2.1 1)] : List Int).getD k 0), (fun k => ([(u8.2.2 0), wg, (u9.2.2 0)] : List (Nat → Int32)).getD k (fun _ => 0))), rfl, ⟨rfl, (by show ((-2147483648) ≤ (u8.2.1 1) ∧ (u8.2.1 1) ≤ 2147483647); first | exact hq8_1 | omega), (by show ((-2147483648) ≤ q7 ∧ q7 ≤ 2147483647); first | exact hl83_1 | omega), hq8_4, hiwg, (hq9_1.1), hf19⟩, by rw [ht]; exact hP.sub [5, 3, 4, 6, 7, 0, 1, 2] rfl, hD.sub [5, 3, 4, 6, 7, 0, 1, 2] (by decide) rfl⟩, hS.F ht⟩) hS.2.2 dX12_mend_300
                    · refine lv_iload hx hb dX12_mend_293 (lv_at hlv 2 rfl) ?_
                      refine lv_goto (tgt := 300) hx hb dX12_mend_295 (by decide) ?_
                      refine W.widen (k := 0) (n := 0) (Nat.le_of_ble_eq_true rfl) (Nat.le_of_ble_eq_true rfl) ?_
                      exact W.iret (v := iI q6) hx hb hr (fun t ht hW => ⟨⟨iI q6, ((fun k => ([] : List Nat).getD k 0), (fun k => ([q6, (u8.2.1 1)] : List Int).getD k 0), (fun k => ([(u8.2.2 0), wg, (u9.2.2 0)] : List (Nat → Int32)).getD k (fun _ => 0))), rfl, ⟨rfl, (by show ((-2147483648) ≤ (u8.2.1 1) ∧ (u8.2.1 1) ≤ 2147483647); first | exact hq8_1 | omega), (by show ((-2147483648) ≤ q6 ∧ q6 ≤ 2147483647); first | exact rgw hl83_0 (by decide) (by decide) | omega), hq8_4, hiwg, (hq9_1.1), hf19⟩, by rw [ht]; exact hP.sub [5, 3, 4, 6, 7, 0, 1, 2] rfl, hD.sub [5, 3, 4, 6, 7, 0, 1, 2] (by decide) rfl⟩, hS.F ht⟩) hS.2.2 dX12_mend_300
                  · refine lv_iconst (v := iI (-1)) hx hb dX12_mend_284 (by decide) ?_
                    refine lv_goto (tgt := 300) hx hb dX12_mend_285 (by decide) ?_
                    refine W.widen (k := 0) (n := 0) (Nat.le_of_ble_eq_true rfl) (Nat.le_of_ble_eq_true rfl) ?_
                    exact W.iret (v := iI (-1)) hx hb hr (fun t ht hW => ⟨⟨iI (-1), ((fun k => ([] : List Nat).getD k 0), (fun k => ([(-1), (u8.2.1 1)] : List Int).getD k 0), (fun k => ([(u8.2.2 0), wg, (u9.2.2 0)] : List (Nat → Int32)).getD k (fun _ => 0))), rfl, ⟨rfl, (by show ((-2147483648) ≤ (u8.2.1 1) ∧ (u8.2.1 1) ≤ 2147483647); first | exact hq8_1 | omega), (by show ((-2147483648) ≤ (-1) ∧ (-1) ≤ 2147483647); show ((-2147483648) : Int) ≤ (-1) ∧ ((-1) : Int) ≤ 2147483647; decide), hq8_4, hiwg, (hq9_1.1), hf19⟩, by rw [ht]; exact hP.sub [5, 3, 4, 6, 7, 0, 1, 2] rfl, hD.sub [5, 3, 4, 6, 7, 0, 1, 2] (by decide) rfl⟩, hS.F ht⟩) hS.2.2 dX12_mend_300
                · refine lv_iconst (v := iI 0) hx hb dX12_mend_96 (by decide) ?_
                  refine lv_istore (lv' := [(9, vI 0), (8, vI q8), (7, vI q7), (6, vI q6), (0, vR mm), (1, vI n), (2, vI x), (3, vI y), (4, vI k), (5, vI w)]) hx hb dX12_mend_97 hlv (by decide) rfl (fun ls hlv => ?_)
                  refine lv_iconst (v := iI 1) hx hb dX12_mend_99 (by decide) ?_
                  refine lv_istore (lv' := [(10, vI 1), (9, vI 0), (8, vI q8), (7, vI q7), (6, vI q6), (0, vR mm), (1, vI n), (2, vI x), (3, vI y), (4, vI k), (5, vI w)]) hx hb dX12_mend_100 hlv (by decide) rfl (fun ls hlv => ?_)
                  refine lv_iconst (v := iI 0) hx hb dX12_mend_102 (by decide) ?_
                  refine lv_istore (lv' := [(11, vI 0), (10, vI 1), (9, vI 0), (8, vI q8), (7, vI q7), (6, vI q6), (0, vR mm), (1, vI n), (2, vI x), (3, vI y), (4, vI k), (5, vI w)]) hx hb dX12_mend_103 hlv (by decide) rfl (fun ls hlv => ?_)
                  refine (?_ : ∀ (fu : Nat) (q9_ : Int) (q10 : Int) (q11 : Int) (H : Heap) (locs : List Loc) (ls : Array Slot), 8 - q11 < (fu : Int) → ((-2147483648) ≤ q9_ ∧ q9_ ≤ 2147483647) → (0 ≤ q10 ∧ q10 ≤ 1) → (0 ≤ q11 ∧ q11 ≤ 8) → (q11 ≤ nz f10 5) → (q10 = 1 → MD q8 q11 wg) → va_P D vwCl [zI m19 (cy 0) 4 f19, zI m20 (cy 0) 32 f20, zI m21 (cy 0) 32 f21, zI m1 (cy 0) 4 (u8.2.2 0), zI m10 (cy 0) 68 f10, zO mm 12 [vI (u8.2.1 1), vR m1, vI tp, vI sz_, vI ap, vI bad, vI bk, vI opn, vI fp, vR m9, vR m10, vR m11, vR m12, vR m13, vR m14, vR m15, vI im, vI nr, vI nl, vR m19, vR m20, vR m21, vI sp_, vR m23, vR m24, vR m25, vR m26, vR m27, vR m28, vI wtc, vI wcl, vI ir, vI ip, vR m33, vI shu, vR m35, vI sfa, vI swr], zI m12 (cy 0) 389 wg, zI m14 (cy 0) 389 (u9.2.2 0)] H → va_D A [zI m19 (cy 0) 4 f19, zI m20 (cy 0) 32 f20, zI m21 (cy 0) 32 f21, zI m1 (cy 0) 4 (u8.2.2 0), zI m10 (cy 0) 68 f10, zO mm 12 [vI (u8.2.1 1), vR m1, vI tp, vI sz_, vI ap, vI bad, vI bk, vI opn, vI fp, vR m9, vR m10, vR m11, vR m12, vR m13, vR m14, vR m15, vI im, vI nr, vI nl, vR m19, vR m20, vR m21, vI sp_, vR m23, vR m24, vR m25, vR m26, vR m27, vR m28, vI wtc, vI wcl, vI ir, vI ip, vR m33, vI shu, vR m35, vI sfa, vI swr], zI m12 (cy 0) 389 wg, zI m14 (cy 0) 389 (u9.2.2 0)] → va_S A s.heap H locs → lv_has ls 12 [(11, vI q11), (10, vI q10), (9, vI q9_), (8, vI q8), (7, vI q7), (6, vI q6), (0, vR mm), (1, vI n), (2, vI x), (3, vI y), (4, vI k), (5, vI w)] → W p l e _ s m _ below meth c H locs _ _ _ (F0 m 105 ls [])) (((8 - 0) + 1 : Int)).toNat 0 1 0 _ _ _ (by omega) (by show ((-2147483648) : Int) ≤ 0 ∧ (0 : Int) ≤ 2147483647; decide) (by show (0 : Int) ≤ 1 ∧ (1 : Int) ≤ 1; decide) (by show (0 : Int) ≤ 0 ∧ (0 : Int) ≤ 8; decide) (by omega) (fun _ => MD.zero)  hP hD hS hlv
                  clear hP hD hS hlv
                  intro fu
                  induction fu with
                  | zero => intro q9_ q10 q11 H locs ls hm105 hl105_0 hl105_1 hl105_2 hl105_3 hl105_4  hP hD hS hlv; omega
                  | succ fu ih105 =>
                    intro q9_ q10 q11 H locs ls hm105 hl105_0 hl105_1 hl105_2 hl105_3 hl105_4  hP hD hS hlv
                    refine lv_iload hx hb dX12_mend_105 (lv_at hlv 0 rfl) ?_
                    refine lv_aload_n hx hb dX12_mend_107 rfl (lv_at hlv 6 rfl) ?_
                    refine va_get (D := D) (ci := 12) (v := vR m10) (C := RX12) (T := TX12) (N := 38) hx hb hts hi12 hown hG.1 hP 5 rfl rfl 10 (by decide) lf23 (fun _ h9 => h9) rfl dX12_mend_108 ?_
                    refine lv_iconst (v := iI 5) hx hb dX12_mend_111 (by decide) ?_
                    refine va_iald hx hb hG.1 hP 4 0 rfl rfl (iI_in (by omega) (by decide)) dX12_mend_112 ?_
                    refine lt_nz (i := 5) (by omega) (fun z_14 hz_14 lz_14 uz_14 => ?_)
                    have hz_14 : z_14 = nz f10 5 := hz_14
                    have hbz_14_7 := hq8_4.1.2.2.2.2.2.1
                    refine ir_ge (tgt := 180) hx hb dX12_mend_113 (by decide) (by first | exact rgw hl105_2 (by decide) (by decide) | omega) (by omega) (fun c_15 => ?_) (fun c_15 => ?_)
                    · refine lv_iload hx hb dX12_mend_180 (lv_at hlv 1 rfl) ?_
                      refine iz_eq (tgt := 272) hx hb dX12_mend_182 (by decide) (by first | exact rgw hl105_1 (by decide) (by decide) | omega) (fun c_16 => ?_) (fun c_16 => ?_)
                      · obtain ⟨z_17, hz_17⟩ : ∃ z : Int, z = q8 + 1 := ⟨_, rfl⟩
                        refine lv_iinc (v := iI z_17) (lv' := [(8, vI z_17), (11, vI q11), (10, vI q10), (9, vI q9_), (7, vI q7), (6, vI q6), (0, vR mm), (1, vI n), (2, vI x), (3, vI y), (4, vI k), (5, vI w)]) hx hb dX12_mend_272 hlv (k := 3) rfl (by rw [hz_17]; exact (Int32.ofInt_add _ _).symm) (by decide) rfl (fun ls hlv => ?_)
                        refine lv_goto (tgt := 83) hx hb dX12_mend_275 (by decide) ?_
                        exact ih83 q6 q7 z_17 wg H locs ls (by omega) (by first | exact hl83_0 | omega) (by first | exact hl83_1 | omega) (by omega) hiwg (hP.sub [0, 1, 2, 3, 4, 5, 6, 7] rfl) (hD.sub [0, 1, 2, 3, 4, 5, 6, 7] (by decide) rfl) hS (lv_sub hlv [0, 4, 5, 6, 7, 8, 9, 10, 11] rfl)
                      · refine lv_iload hx hb dX12_mend_185 (lv_at hlv 5 rfl) ?_
                        refine lv_iconst (v := iI (-1)) hx hb dX12_mend_187 (by decide) ?_
                        refine ir_eq (tgt := 201) hx hb dX12_mend_188 (by decide) (by first | exact rgw hl83_0 (by decide) (by decide) | omega) (by show ((-2147483648) : Int) ≤ (-1) ∧ ((-1) : Int) ≤ 2147483647; decide) (fun c_18 => ?_) (fun c_18 => ?_)
                        · refine lv_iconst (v := iI 0) hx hb dX12_mend_201 (by decide) ?_
                          refine lv_istore (lv' := [(11, vI 0), (10, vI q10), (9, vI q9_), (8, vI q8), (7, vI q7), (6, vI q6), (0, vR mm), (1, vI n), (2, vI x), (3, vI y), (4, vI k), (5, vI w)]) hx hb dX12_mend_202 hlv (by decide) rfl (fun ls hlv => ?_)
                          refine (?_ : ∀ (fu : Nat) (r11 : Int) (wj : Nat → Int32) (H : Heap) (locs : List Loc) (ls : Array Slot), 8 - r11 < (fu : Int) → (0 ≤ r11 ∧ r11 ≤ 8) → (MF q8 r11 (nz f10 5) wj) → SQ qs 8 wj → va_P D vwCl [zI m19 (cy 0) 4 f19, zI m20 (cy 0) 32 f20, zI m21 (cy 0) 32 f21, zI m1 (cy 0) 4 (u8.2.2 0), zI m10 (cy 0) 68 f10, zO mm 12 [vI (u8.2.1 1), vR m1, vI tp, vI sz_, vI ap, vI bad, vI bk, vI opn, vI fp, vR m9, vR m10, vR m11, vR m12, vR m13, vR m14, vR m15, vI im, vI nr, vI nl, vR m19, vR m20, vR m21, vI sp_, vR m23, vR m24, vR m25, vR m26, vR m27, vR m28, vI wtc, vI wcl, vI ir, vI ip, vR m33, vI shu, vR m35, vI sfa, vI swr], zI m12 (cy 0) 389 wj, zI m14 (cy 0) 389 (u9.2.2 0)] H → va_D A [zI m19 (cy 0) 4 f19, zI m20 (cy 0) 32 f20, zI m21 (cy 0) 32 f21, zI m1 (cy 0) 4 (u8.2.2 0), zI m10 (cy 0) 68 f10, zO mm 12 [vI (u8.2.1 1), vR m1, vI tp, vI sz_, vI ap, vI bad, vI bk, vI opn, vI fp, vR m9, vR m10, vR m11, vR m12, vR m13, vR m14, vR m15, vI im, vI nr, vI nl, vR m19, vR m20, vR m21, vI sp_, vR m23, vR m24, vR m25, vR m26, vR m27, vR m28, vI wtc, vI wcl, vI ir, vI ip, vR m33, vI shu, vR m35, vI sfa, vI swr], zI m12 (cy 0) 389 wj, zI m14 (cy 0) 389 (u9.2.2 0)] → va_S A s.heap H locs → lv_has ls 12 [(11, vI r11), (10, vI q10), (9, vI q9_), (8, vI q8), (7, vI q7), (6, vI q6), (0, vR mm), (1, vI n), (2, vI x), (3, vI y), (4, vI k), (5, vI w)] → W p l e _ s m _ below meth c H locs _ _ _ (F0 m 204 ls [])) (((8 - 0) + 1 : Int)).toNat 0 wg _ _ _ (by omega) (by show (0 : Int) ≤ 0 ∧ (0 : Int) ≤ 8; decide) (fun j _ hj hb => hl105_4 (by omega) j (by omega) hb) hiwg hP hD hS hlv
                          clear hP hD hS hlv
                          intro fu
                          induction fu with
                          | zero => intro r11 wj H locs ls hm204 hl204_0 hl204_1 hiwj hP hD hS hlv; omega
                          | succ fu ih204 =>
                            intro r11 wj H locs ls hm204 hl204_0 hl204_1 hiwj hP hD hS hlv
                            refine lv_iload hx hb dX12_mend_204 (lv_at hlv 0 rfl) ?_
                            refine lv_aload_n hx hb dX12_mend_206 rfl (lv_at hlv 6 rfl) ?_
                            refine va_get (D := D) (ci := 12) (v := vR m10) (C := RX12) (T := TX12) (N := 38) hx hb hts hi12 hown hG.1 hP 5 rfl rfl 10 (by decide) lf23 (fun _ h9 => h9) rfl dX12_mend_207 ?_
                            refine lv_iconst (v := iI 5) hx hb dX12_mend_210 (by decide) ?_
                            refine va_iald hx hb hG.1 hP 4 0 rfl rfl (iI_in (by omega) (by decide)) dX12_mend_211 ?_
                            refine lt_nz (i := 5) (by omega) (fun z_19 hz_19 lz_19 uz_19 => ?_)
                            have hz_19 : z_19 = nz f10 5 := hz_19
                            have hbz_19_7 := hq8_4.1.2.2.2.2.2.1
                            refine ir_ge (tgt := 238) hx hb dX12_mend_212 (by decide) (by first | exact rgw hl204_0 (by decide) (by decide) | omega) (by omega) (fun c_20 => ?_) (fun c_20 => ?_)
                            · refine lv_aload_n hx hb dX12_mend_238 rfl (lv_at hlv 6 rfl) ?_
                              refine lv_iload_n hx hb dX12_mend_239 rfl (lv_at hlv 7 rfl) ?_
                              refine lv_iload_n hx hb dX12_mend_240 rfl (lv_at hlv 8 rfl) ?_
                              refine lv_iload_n hx hb dX12_mend_241 rfl (lv_at hlv 9 rfl) ?_
                              refine cj_i (wr := [zI m19 (cy 0) 4 f19, zI m20 (cy 0) 32 f20, zI m21 (cy 0) 32 f21, zI m1 (cy 0) 4 (u8.2.2 0), zI m10 (cy 0) 68 f10, zO mm 12 [vI (u8.2.1 1), vR m1, vI tp, vI sz_, vI ap, vI bad, vI bk, vI opn, vI fp, vR m9, vR m10, vR m11, vR m12, vR m13, vR m14, vR m15, vI im, vI nr, vI nl, vR m19, vR m20, vR m21, vI sp_, vR m23, vR m24, vR m25, vR m26, vR m27, vR m28, vI wtc, vI wcl, vI ir, vI ip, vR m33, vI shu, vR m35, vI sfa, vI swr], zI m12 (cy 0) 389 wj, zI m14 (cy 0) 389 (u9.2.2 0)]) (va_runS (As := [vI x, vI y]) (rest := [vI n, vR mm]) ⟨hx, hb, hml, hown, hts⟩ (m_at l hl D cy sa x y H.size (by omega) (by omega)) (va_cwS 2 hts gg_7 rfl rfl rfl (by decide +kernel) ⟨Nat.le_of_ble_eq_true rfl, Nat.le_of_ble_eq_true rfl⟩) ⟨pcW.blind, (pcW.mk hP hD hS hA hG hT [] rfl (by decide))⟩ rfl rfl hlv.1 rfl (lv_room (Nat.le_of_ble_eq_true rfl)) dX12_mend_242 ⟨Nat.le_of_ble_eq_true rfl, Nat.le_of_ble_eq_true rfl⟩) hP hD hS hA [] [0, 1, 2, 3, 4, 5, 6, 7] rfl rfl (by decide) (by decide) (fun r10 u10 H locs hw10 hP hD hS => ?_)
                              obtain ⟨rfl, hq10_1, hq10_2⟩ := hw10
                              have hP : va_P D vwCl [zI m19 (cy 0) 4 f19, zI m20 (cy 0) 32 f20, zI m21 (cy 0) 32 f21, zI m1 (cy 0) 4 (u8.2.2 0), zI m10 (cy 0) 68 f10, zO mm 12 [vI (u8.2.1 1), vR m1, vI tp, vI sz_, vI ap, vI bad, vI bk, vI opn, vI fp, vR m9, vR m10, vR m11, vR m12, vR m13, vR m14, vR m15, vI im, vI nr, vI nl, vR m19, vR m20, vR m21, vI sp_, vR m23, vR m24, vR m25, vR m26, vR m27, vR m28, vI wtc, vI wcl, vI ir, vI ip, vR m33, vI shu, vR m35, vI sfa, vI swr], zI m12 (cy 0) 389 wj, zI m14 (cy 0) 389 (u9.2.2 0)] H := hP
                              have hD : va_D A [zI m19 (cy 0) 4 f19, zI m20 (cy 0) 32 f20, zI m21 (cy 0) 32 f21, zI m1 (cy 0) 4 (u8.2.2 0), zI m10 (cy 0) 68 f10, zO mm 12 [vI (u8.2.1 1), vR m1, vI tp, vI sz_, vI ap, vI bad, vI bk, vI opn, vI fp, vR m9, vR m10, vR m11, vR m12, vR m13, vR m14, vR m15, vI im, vI nr, vI nl, vR m19, vR m20, vR m21, vI sp_, vR m23, vR m24, vR m25, vR m26, vR m27, vR m28, vI wtc, vI wcl, vI ir, vI ip, vR m33, vI shu, vR m35, vI sfa, vI swr], zI m12 (cy 0) 389 wj, zI m14 (cy 0) 389 (u9.2.2 0)] := hD
                              refine cj_i (wr := [zI m1 (cy 0) 4 (u8.2.2 0), zI m14 (cy 0) 389 (u9.2.2 0)]) (va_runV (As := [vI n, vI (u10.2.1 0)]) (rest := []) ⟨hx, hb, hml, hown, hts⟩ (m_deepBehind l hl D cy sa mm m1 m9 m10 m11 m12 m13 m14 m15 m19 m20 m21 m23 m24 m25 m26 m27 m28 m33 m35 (u8.2.1 1) tp sz_ ap bad bk opn fp im nr nl sp_ wtc wcl ir ip shu sfa swr f10 wj f19 f20 f21 n (u10.2.1 0) qs H.size (by first | exact hq8_1 | omega) (by first | exact hr_tp | omega) (by first | exact hr_sz_ | omega) (by first | exact hr_ap | omega) (by first | exact hr_bad | omega) (by first | exact hr_bk | omega) (by first | exact hr_opn | omega) (by first | exact hr_fp | omega) (by first | exact hr_im | omega) (by first | exact hr_nr | omega) (by first | exact hr_nl | omega) (by first | exact hr_sp_ | omega) (by first | exact hr_wtc | omega) (by first | exact hr_wcl | omega) (by first | exact hr_ir | omega) (by first | exact hr_ip | omega) (by first | exact hr_shu | omega) (by first | exact hr_sfa | omega) (by first | exact hr_swr | omega) (by omega) (by first | exact hq10_1 | omega) hq8_4 hiwj hf19) (cwV 2 hts gg_8 rfl rfl rfl (by decide +kernel) ⟨Nat.le_of_ble_eq_true rfl, Nat.le_of_ble_eq_true rfl⟩) ⟨pcW.blind, (va_recv hG.1 hP (ci := 12) (q0 := 5) rfl rfl), (pcW.mk hP hD hS hA hG hT [5, 4, 6, 0, 1, 2] rfl (by decide))⟩ rfl rfl hlv.1 rfl (lv_room (Nat.le_of_ble_eq_true rfl)) dX12_mend_245 ⟨Nat.le_of_ble_eq_true rfl, Nat.le_of_ble_eq_true rfl⟩) hP hD hS hA [5, 4, 6, 0, 1, 2] [3, 7] rfl rfl (by decide) (by decide) (fun r11 u11 H locs hw11 hP hD hS => ?_)
                              obtain ⟨rfl, hq11_1, hq11_2, hq11_3, hq11_4⟩ := hw11
                              have hP : va_P D vwCl [zI m1 (cy 0) 4 (u8.2.2 0), zI m14 (cy 0) 389 (u9.2.2 0), zO mm 12 [vI (u8.2.1 1), vR m1, vI tp, vI sz_, vI ap, vI bad, vI bk, vI opn, vI fp, vR m9, vR m10, vR m11, vR m12, vR m13, vR m14, vR m15, vI im, vI nr, vI nl, vR m19, vR m20, vR m21, vI sp_, vR m23, vR m24, vR m25, vR m26, vR m27, vR m28, vI wtc, vI wcl, vI ir, vI ip, vR m33, vI shu, vR m35, vI sfa, vI swr], zI m10 (cy 0) 68 f10, zI m12 (cy 0) 389 (u11.2.2 0), zI m19 (cy 0) 4 f19, zI m20 (cy 0) 32 f20, zI m21 (cy 0) 32 f21] H := hP
                              have hD : va_D A [zI m1 (cy 0) 4 (u8.2.2 0), zI m14 (cy 0) 389 (u9.2.2 0), zO mm 12 [vI (u8.2.1 1), vR m1, vI tp, vI sz_, vI ap, vI bad, vI bk, vI opn, vI fp, vR m9, vR m10, vR m11, vR m12, vR m13, vR m14, vR m15, vI im, vI nr, vI nl, vR m19, vR m20, vR m21, vI sp_, vR m23, vR m24, vR m25, vR m26, vR m27, vR m28, vI wtc, vI wcl, vI ir, vI ip, vR m33, vI shu, vR m35, vI sfa, vI swr], zI m10 (cy 0) 68 f10, zI m12 (cy 0) 389 (u11.2.2 0), zI m19 (cy 0) 4 f19, zI m20 (cy 0) 32 f20, zI m21 (cy 0) 32 f21] := hD
                              refine lv_istore (lv' := [(11, vI (u11.2.1 0)), (10, vI q10), (9, vI q9_), (8, vI q8), (7, vI q7), (6, vI q6), (0, vR mm), (1, vI n), (2, vI x), (3, vI y), (4, vI k), (5, vI w)]) hx hb dX12_mend_248 hlv (by decide) rfl (fun ls hlv => ?_)
                              refine lv_aload_n hx hb dX12_mend_250 rfl (lv_at hlv 6 rfl) ?_
                              refine cj_v (wr := [zI m1 (cy 0) 4 (u8.2.2 0), zI m10 (cy 0) 68 f10, zI m19 (cy 0) 4 f19, zI m20 (cy 0) 32 f20, zI m21 (cy 0) 32 f21]) (va_runV (As := []) (rest := []) ⟨hx, hb, hml, hown, hts⟩ (m_back l hl D cy sa mm m1 m9 m10 m11 m12 m13 m14 m15 m19 m20 m21 m23 m24 m25 m26 m27 m28 m33 m35 (u8.2.1 1) tp sz_ ap bad bk opn fp im nr nl sp_ wtc wcl ir ip shu sfa swr (u11.2.2 0) (u9.2.2 0) 8 qs H.size (by first | exact hq8_1 | omega) (by first | exact hr_tp | omega) (by first | exact hr_sz_ | omega) (by first | exact hr_ap | omega) (by first | exact hr_bad | omega) (by first | exact hr_bk | omega) (by first | exact hr_opn | omega) (by first | exact hr_fp | omega) (by first | exact hr_im | omega) (by first | exact hr_nr | omega) (by first | exact hr_nl | omega) (by first | exact hr_sp_ | omega) (by first | exact hr_wtc | omega) (by first | exact hr_wcl | omega) (by first | exact hr_ir | omega) (by first | exact hr_ip | omega) (by first | exact hr_shu | omega) (by first | exact hr_sfa | omega) (by first | exact hr_swr | omega) (by show (8 : Int) ≤ 8 ∧ (8 : Int) ≤ 9; decide) (hq11_3.1) hq9_1) (cwV 0 hts gg_9 rfl rfl rfl (by decide +kernel) ⟨Nat.le_of_ble_eq_true rfl, Nat.le_of_ble_eq_true rfl⟩) ⟨pcW.blind, (va_recv hG.1 hP (ci := 12) (q0 := 2) rfl rfl), (pcW.mk hP hD hS hA hG hT [2, 4, 1] rfl (by decide))⟩ rfl rfl hlv.1 rfl (lv_room (Nat.le_of_ble_eq_true rfl)) dX12_mend_251 ⟨Nat.le_of_ble_eq_true rfl, Nat.le_of_ble_eq_true rfl⟩) hP hD hS hA [2, 4, 1] [0, 3, 5, 6, 7] rfl rfl (by decide) (by decide) (fun u12 H locs hw12 hP hD hS => ?_)
                              obtain ⟨hq12_0, hq12_1⟩ := hw12
                              have hP : va_P D vwCl [zI m1 (cy 0) 4 (u8.2.2 0), zI m10 (cy 0) 68 f10, zI m19 (cy 0) 4 f19, zI m20 (cy 0) 32 f20, zI m21 (cy 0) 32 f21, zO mm 12 [vI (u8.2.1 1), vR m1, vI tp, vI sz_, vI ap, vI bad, vI bk, vI opn, vI fp, vR m9, vR m10, vR m11, vR m12, vR m13, vR m14, vR m15, vI im, vI nr, vI nl, vR m19, vR m20, vR m21, vI sp_, vR m23, vR m24, vR m25, vR m26, vR m27, vR m28, vI wtc, vI wcl, vI ir, vI ip, vR m33, vI shu, vR m35, vI sfa, vI swr], zI m12 (cy 0) 389 (u12.2.2 0), zI m14 (cy 0) 389 (u9.2.2 0)] H := hP
                              have hD : va_D A [zI m1 (cy 0) 4 (u8.2.2 0), zI m10 (cy 0) 68 f10, zI m19 (cy 0) 4 f19, zI m20 (cy 0) 32 f20, zI m21 (cy 0) 32 f21, zO mm 12 [vI (u8.2.1 1), vR m1, vI tp, vI sz_, vI ap, vI bad, vI bk, vI opn, vI fp, vR m9, vR m10, vR m11, vR m12, vR m13, vR m14, vR m15, vI im, vI nr, vI nl, vR m19, vR m20, vR m21, vI sp_, vR m23, vR m24, vR m25, vR m26, vR m27, vR m28, vI wtc, vI wcl, vI ir, vI ip, vR m33, vI shu, vR m35, vI sfa, vI swr], zI m12 (cy 0) 389 (u12.2.2 0), zI m14 (cy 0) 389 (u9.2.2 0)] := hD
                              refine lv_iload hx hb dX12_mend_254 (lv_at hlv 0 rfl) ?_
                              refine lv_iload hx hb dX12_mend_256 (lv_at hlv 10 rfl) ?_
                              refine ir_le (tgt := 264) hx hb dX12_mend_258 (by decide) (by first | exact hq11_1 | omega) (by first | exact hr_k | omega) (fun c_21 => ?_) (fun c_21 => ?_)
                              · refine lv_iload hx hb dX12_mend_264 (lv_at hlv 3 rfl) ?_
                                refine lv_istore (lv' := [(6, vI q8), (11, vI (u11.2.1 0)), (10, vI q10), (9, vI q9_), (8, vI q8), (7, vI q7), (0, vR mm), (1, vI n), (2, vI x), (3, vI y), (4, vI k), (5, vI w)]) hx hb dX12_mend_266 hlv (by decide) rfl (fun ls hlv => ?_)
                                refine lv_iload hx hb dX12_mend_268 (lv_at hlv 3 rfl) ?_
                                refine lv_istore (lv' := [(7, vI q9_), (6, vI q8), (11, vI (u11.2.1 0)), (10, vI q10), (9, vI q9_), (8, vI q8), (0, vR mm), (1, vI n), (2, vI x), (3, vI y), (4, vI k), (5, vI w)]) hx hb dX12_mend_270 hlv (by decide) rfl (fun ls hlv => ?_)
                                obtain ⟨z_22, hz_22⟩ : ∃ z : Int, z = q8 + 1 := ⟨_, rfl⟩
                                refine lv_iinc (v := iI z_22) (lv' := [(8, vI z_22), (7, vI q9_), (6, vI q8), (11, vI (u11.2.1 0)), (10, vI q10), (9, vI q9_), (0, vR mm), (1, vI n), (2, vI x), (3, vI y), (4, vI k), (5, vI w)]) hx hb dX12_mend_272 hlv (k := 5) rfl (by rw [hz_22]; exact (Int32.ofInt_add _ _).symm) (by decide) rfl (fun ls hlv => ?_)
                                refine lv_goto (tgt := 83) hx hb dX12_mend_275 (by decide) ?_
                                exact ih83 q8 q9_ z_22 (u12.2.2 0) H locs ls (by omega) (by first | exact rgw hl83_2 (by decide) (by decide) | omega) (by first | exact hl105_0 | omega) (by omega) hq12_0 (hP.sub [2, 3, 4, 0, 1, 5, 6, 7] rfl) (hD.sub [2, 3, 4, 0, 1, 5, 6, 7] (by decide) rfl) hS (lv_sub hlv [0, 1, 2, 6, 7, 8, 9, 10, 11] rfl)
                              · refine lv_goto (tgt := 272) hx hb dX12_mend_261 (by decide) ?_
                                obtain ⟨z_23, hz_23⟩ : ∃ z : Int, z = q8 + 1 := ⟨_, rfl⟩
                                refine lv_iinc (v := iI z_23) (lv' := [(8, vI z_23), (11, vI (u11.2.1 0)), (10, vI q10), (9, vI q9_), (7, vI q7), (6, vI q6), (0, vR mm), (1, vI n), (2, vI x), (3, vI y), (4, vI k), (5, vI w)]) hx hb dX12_mend_272 hlv (k := 3) rfl (by rw [hz_23]; exact (Int32.ofInt_add _ _).symm) (by decide) rfl (fun ls hlv => ?_)
                                refine lv_goto (tgt := 83) hx hb dX12_mend_275 (by decide) ?_
                                exact ih83 q6 q7 z_23 (u12.2.2 0) H locs ls (by omega) (by first | exact hl83_0 | omega) (by first | exact hl83_1 | omega) (by omega) hq12_0 (hP.sub [2, 3, 4, 0, 1, 5, 6, 7] rfl) (hD.sub [2, 3, 4, 0, 1, 5, 6, 7] (by decide) rfl) hS (lv_sub hlv [0, 4, 5, 6, 7, 8, 9, 10, 11] rfl)
                            · refine lv_iload hx hb dX12_mend_215 (lv_at hlv 3 rfl) ?_
                              refine lv_iload hx hb dX12_mend_217 (lv_at hlv 0 rfl) ?_
                              refine lv_ishr hx hb dX12_mend_219 ?_
                              refine lt_z (fun z_24 ez_24 lz_24 hz_24 => ?_)
                              refine lv_iconst (v := iI 1) hx hb dX12_mend_220 (by decide) ?_
                              refine lv_iand hx hb dX12_mend_221 ?_
                              refine lt_aE 1 (by decide) (by decide) (hi := 1) (by decide) (fun z_25 ez_25 lz_25 hz_25 => ?_)
                              refine lv_iconst (v := iI 1) hx hb dX12_mend_222 (by decide) ?_
                              refine ir_ne (tgt := 232) hx hb dX12_mend_223 (by decide) (by omega) (by show ((-2147483648) : Int) ≤ 1 ∧ (1 : Int) ≤ 2147483647; decide) (fun c_26 => ?_) (fun c_26 => ?_)
                              · obtain ⟨z_27, hz_27⟩ : ∃ z : Int, z = r11 + 1 := ⟨_, rfl⟩
                                refine lv_iinc (v := iI z_27) (lv' := [(11, vI z_27), (10, vI q10), (9, vI q9_), (8, vI q8), (7, vI q7), (6, vI q6), (0, vR mm), (1, vI n), (2, vI x), (3, vI y), (4, vI k), (5, vI w)]) hx hb dX12_mend_232 hlv (k := 0) rfl (by rw [hz_27]; exact (Int32.ofInt_add _ _).symm) (by decide) rfl (fun ls hlv => ?_)
                                refine lv_goto (tgt := 204) hx hb dX12_mend_235 (by decide) ?_
                                exact ih204 z_27 wj H locs ls (by omega) (by omega) (MF.next hl204_1 (fun _ _ _ => rfl) (by omega) (by omega)) hiwj (hP.sub [0, 1, 2, 3, 4, 5, 6, 7] rfl) (hD.sub [0, 1, 2, 3, 4, 5, 6, 7] (by decide) rfl) hS (lv_sub hlv [0, 1, 2, 3, 4, 5, 6, 7, 8, 9, 10, 11] rfl)
                              · refine lv_aload_n hx hb dX12_mend_226 rfl (lv_at hlv 6 rfl) ?_
                                refine lv_iload hx hb dX12_mend_227 (lv_at hlv 0 rfl) ?_
                                refine cj_v (wr := [zI m19 (cy 0) 4 f19, zI m20 (cy 0) 32 f20, zI m21 (cy 0) 32 f21, zI m1 (cy 0) 4 (u8.2.2 0), zI m14 (cy 0) 389 (u9.2.2 0)]) (va_runV (As := [vI r11]) (rest := []) ⟨hx, hb, hml, hown, hts⟩ (m_works l hl D cy sa mm m1 m9 m10 m11 m12 m13 m14 m15 m19 m20 m21 m23 m24 m25 m26 m27 m28 m33 m35 (u8.2.1 1) tp sz_ ap bad bk opn fp im nr nl sp_ wtc wcl ir ip shu sfa swr f10 wj r11 qs H.size (by first | exact hq8_1 | omega) (by first | exact hr_tp | omega) (by first | exact hr_sz_ | omega) (by first | exact hr_ap | omega) (by first | exact hr_bad | omega) (by first | exact hr_bk | omega) (by first | exact hr_opn | omega) (by first | exact hr_fp | omega) (by first | exact hr_im | omega) (by first | exact hr_nr | omega) (by first | exact hr_nl | omega) (by first | exact hr_sp_ | omega) (by first | exact hr_wtc | omega) (by first | exact hr_wcl | omega) (by first | exact hr_ir | omega) (by first | exact hr_ip | omega) (by first | exact hr_shu | omega) (by first | exact hr_sfa | omega) (by first | exact hr_swr | omega) (by omega) (MF.use hl204_1 (by omega) ez_24 ez_25 (by omega)) hq8_4 hiwj) (cwV 1 hts gg_10 rfl rfl rfl (by decide +kernel) ⟨Nat.le_of_ble_eq_true rfl, Nat.le_of_ble_eq_true rfl⟩) ⟨pcW.blind, (va_recv hG.1 hP (ci := 12) (q0 := 5) rfl rfl), (pcW.mk hP hD hS hA hG hT [5, 4, 6] rfl (by decide))⟩ rfl rfl hlv.1 rfl (lv_room (Nat.le_of_ble_eq_true rfl)) dX12_mend_229 ⟨Nat.le_of_ble_eq_true rfl, Nat.le_of_ble_eq_true rfl⟩) hP hD hS hA [5, 4, 6] [0, 1, 2, 3, 7] rfl rfl (by decide) (by decide) (fun u13 H locs hw13 hP hD hS => ?_)
                                obtain ⟨hq13_0, hq13_1, hq13_2, hq13_3⟩ := hw13
                                have hP : va_P D vwCl [zI m19 (cy 0) 4 f19, zI m20 (cy 0) 32 f20, zI m21 (cy 0) 32 f21, zI m1 (cy 0) 4 (u8.2.2 0), zI m14 (cy 0) 389 (u9.2.2 0), zO mm 12 [vI (u8.2.1 1), vR m1, vI tp, vI sz_, vI ap, vI bad, vI bk, vI opn, vI fp, vR m9, vR m10, vR m11, vR m12, vR m13, vR m14, vR m15, vI im, vI nr, vI nl, vR m19, vR m20, vR m21, vI sp_, vR m23, vR m24, vR m25, vR m26, vR m27, vR m28, vI wtc, vI wcl, vI ir, vI ip, vR m33, vI shu, vR m35, vI sfa, vI swr], zI m10 (cy 0) 68 f10, zI m12 (cy 0) 389 (u13.2.2 0)] H := hP
                                have hD : va_D A [zI m19 (cy 0) 4 f19, zI m20 (cy 0) 32 f20, zI m21 (cy 0) 32 f21, zI m1 (cy 0) 4 (u8.2.2 0), zI m14 (cy 0) 389 (u9.2.2 0), zO mm 12 [vI (u8.2.1 1), vR m1, vI tp, vI sz_, vI ap, vI bad, vI bk, vI opn, vI fp, vR m9, vR m10, vR m11, vR m12, vR m13, vR m14, vR m15, vI im, vI nr, vI nl, vR m19, vR m20, vR m21, vI sp_, vR m23, vR m24, vR m25, vR m26, vR m27, vR m28, vI wtc, vI wcl, vI ir, vI ip, vR m33, vI shu, vR m35, vI sfa, vI swr], zI m10 (cy 0) 68 f10, zI m12 (cy 0) 389 (u13.2.2 0)] := hD
                                obtain ⟨z_28, hz_28⟩ : ∃ z : Int, z = r11 + 1 := ⟨_, rfl⟩
                                refine lv_iinc (v := iI z_28) (lv' := [(11, vI z_28), (10, vI q10), (9, vI q9_), (8, vI q8), (7, vI q7), (6, vI q6), (0, vR mm), (1, vI n), (2, vI x), (3, vI y), (4, vI k), (5, vI w)]) hx hb dX12_mend_232 hlv (k := 0) rfl (by rw [hz_28]; exact (Int32.ofInt_add _ _).symm) (by decide) rfl (fun ls hlv => ?_)
                                refine lv_goto (tgt := 204) hx hb dX12_mend_235 (by decide) ?_
                                exact ih204 z_28 (u13.2.2 0) H locs ls (by omega) (by omega) (MF.next hl204_1 (fun j a b => hq13_1 j (by omega) (by omega)) (by omega) (by omega)) hq13_3 (hP.sub [0, 1, 2, 3, 6, 5, 7, 4] rfl) (hD.sub [0, 1, 2, 3, 6, 5, 7, 4] (by decide) rfl) hS (lv_sub hlv [0, 1, 2, 3, 4, 5, 6, 7, 8, 9, 10, 11] rfl)
                        · refine lv_iload hx hb dX12_mend_191 (lv_at hlv 2 rfl) ?_
                          refine lv_iload hx hb dX12_mend_193 (lv_at hlv 4 rfl) ?_
                          refine ir_lt (tgt := 201) hx hb dX12_mend_195 (by decide) (by first | exact hl105_0 | omega) (by first | exact hl83_1 | omega) (fun c_29 => ?_) (fun c_29 => ?_)
                          · refine lv_iconst (v := iI 0) hx hb dX12_mend_201 (by decide) ?_
                            refine lv_istore (lv' := [(11, vI 0), (10, vI q10), (9, vI q9_), (8, vI q8), (7, vI q7), (6, vI q6), (0, vR mm), (1, vI n), (2, vI x), (3, vI y), (4, vI k), (5, vI w)]) hx hb dX12_mend_202 hlv (by decide) rfl (fun ls hlv => ?_)
                            refine (?_ : ∀ (fu : Nat) (r11 : Int) (wj : Nat → Int32) (H : Heap) (locs : List Loc) (ls : Array Slot), 8 - r11 < (fu : Int) → (0 ≤ r11 ∧ r11 ≤ 8) → (MF q8 r11 (nz f10 5) wj) → SQ qs 8 wj → va_P D vwCl [zI m19 (cy 0) 4 f19, zI m20 (cy 0) 32 f20, zI m21 (cy 0) 32 f21, zI m1 (cy 0) 4 (u8.2.2 0), zI m10 (cy 0) 68 f10, zO mm 12 [vI (u8.2.1 1), vR m1, vI tp, vI sz_, vI ap, vI bad, vI bk, vI opn, vI fp, vR m9, vR m10, vR m11, vR m12, vR m13, vR m14, vR m15, vI im, vI nr, vI nl, vR m19, vR m20, vR m21, vI sp_, vR m23, vR m24, vR m25, vR m26, vR m27, vR m28, vI wtc, vI wcl, vI ir, vI ip, vR m33, vI shu, vR m35, vI sfa, vI swr], zI m12 (cy 0) 389 wj, zI m14 (cy 0) 389 (u9.2.2 0)] H → va_D A [zI m19 (cy 0) 4 f19, zI m20 (cy 0) 32 f20, zI m21 (cy 0) 32 f21, zI m1 (cy 0) 4 (u8.2.2 0), zI m10 (cy 0) 68 f10, zO mm 12 [vI (u8.2.1 1), vR m1, vI tp, vI sz_, vI ap, vI bad, vI bk, vI opn, vI fp, vR m9, vR m10, vR m11, vR m12, vR m13, vR m14, vR m15, vI im, vI nr, vI nl, vR m19, vR m20, vR m21, vI sp_, vR m23, vR m24, vR m25, vR m26, vR m27, vR m28, vI wtc, vI wcl, vI ir, vI ip, vR m33, vI shu, vR m35, vI sfa, vI swr], zI m12 (cy 0) 389 wj, zI m14 (cy 0) 389 (u9.2.2 0)] → va_S A s.heap H locs → lv_has ls 12 [(11, vI r11), (10, vI q10), (9, vI q9_), (8, vI q8), (7, vI q7), (6, vI q6), (0, vR mm), (1, vI n), (2, vI x), (3, vI y), (4, vI k), (5, vI w)] → W p l e _ s m _ below meth c H locs _ _ _ (F0 m 204 ls [])) (((8 - 0) + 1 : Int)).toNat 0 wg _ _ _ (by omega) (by show (0 : Int) ≤ 0 ∧ (0 : Int) ≤ 8; decide) (fun j _ hj hb => hl105_4 (by omega) j (by omega) hb) hiwg hP hD hS hlv
                            clear hP hD hS hlv
                            intro fu
                            induction fu with
                            | zero => intro r11 wj H locs ls hm204 hl204_0 hl204_1 hiwj hP hD hS hlv; omega
                            | succ fu ih204 =>
                              intro r11 wj H locs ls hm204 hl204_0 hl204_1 hiwj hP hD hS hlv
                              refine lv_iload hx hb dX12_mend_204 (lv_at hlv 0 rfl) ?_
                              refine lv_aload_n hx hb dX12_mend_206 rfl (lv_at hlv 6 rfl) ?_
                              refine va_get (D := D) (ci := 12) (v := vR m10) (C := RX12) (T := TX12) (N := 38) hx hb hts hi12 hown hG.1 hP 5 rfl rfl 10 (by decide) lf23 (fun _ h9 => h9) rfl dX12_mend_207 ?_
                              refine lv_iconst (v := iI 5) hx hb dX12_mend_210 (by decide) ?_
                              refine va_iald hx hb hG.1 hP 4 0 rfl rfl (iI_in (by omega) (by decide)) dX12_mend_211 ?_
                              refine lt_nz (i := 5) (by omega) (fun z_30 hz_30 lz_30 uz_30 => ?_)
                              have hz_30 : z_30 = nz f10 5 := hz_30
                              have hbz_30_7 := hq8_4.1.2.2.2.2.2.1
                              refine ir_ge (tgt := 238) hx hb dX12_mend_212 (by decide) (by first | exact rgw hl204_0 (by decide) (by decide) | omega) (by omega) (fun c_31 => ?_) (fun c_31 => ?_)
                              · refine lv_aload_n hx hb dX12_mend_238 rfl (lv_at hlv 6 rfl) ?_
                                refine lv_iload_n hx hb dX12_mend_239 rfl (lv_at hlv 7 rfl) ?_
                                refine lv_iload_n hx hb dX12_mend_240 rfl (lv_at hlv 8 rfl) ?_
                                refine lv_iload_n hx hb dX12_mend_241 rfl (lv_at hlv 9 rfl) ?_
                                refine cj_i (wr := [zI m19 (cy 0) 4 f19, zI m20 (cy 0) 32 f20, zI m21 (cy 0) 32 f21, zI m1 (cy 0) 4 (u8.2.2 0), zI m10 (cy 0) 68 f10, zO mm 12 [vI (u8.2.1 1), vR m1, vI tp, vI sz_, vI ap, vI bad, vI bk, vI opn, vI fp, vR m9, vR m10, vR m11, vR m12, vR m13, vR m14, vR m15, vI im, vI nr, vI nl, vR m19, vR m20, vR m21, vI sp_, vR m23, vR m24, vR m25, vR m26, vR m27, vR m28, vI wtc, vI wcl, vI ir, vI ip, vR m33, vI shu, vR m35, vI sfa, vI swr], zI m12 (cy 0) 389 wj, zI m14 (cy 0) 389 (u9.2.2 0)]) (va_runS (As := [vI x, vI y]) (rest := [vI n, vR mm]) ⟨hx, hb, hml, hown, hts⟩ (m_at l hl D cy sa x y H.size (by omega) (by omega)) (va_cwS 2 hts gg_7 rfl rfl rfl (by decide +kernel) ⟨Nat.le_of_ble_eq_true rfl, Nat.le_of_ble_eq_true rfl⟩) ⟨pcW.blind, (pcW.mk hP hD hS hA hG hT [] rfl (by decide))⟩ rfl rfl hlv.1 rfl (lv_room (Nat.le_of_ble_eq_true rfl)) dX12_mend_242 ⟨Nat.le_of_ble_eq_true rfl, Nat.le_of_ble_eq_true rfl⟩) hP hD hS hA [] [0, 1, 2, 3, 4, 5, 6, 7] rfl rfl (by decide) (by decide) (fun r14 u14 H locs hw14 hP hD hS => ?_)
                                obtain ⟨rfl, hq14_1, hq14_2⟩ := hw14
                                have hP : va_P D vwCl [zI m19 (cy 0) 4 f19, zI m20 (cy 0) 32 f20, zI m21 (cy 0) 32 f21, zI m1 (cy 0) 4 (u8.2.2 0), zI m10 (cy 0) 68 f10, zO mm 12 [vI (u8.2.1 1), vR m1, vI tp, vI sz_, vI ap, vI bad, vI bk, vI opn, vI fp, vR m9, vR m10, vR m11, vR m12, vR m13, vR m14, vR m15, vI im, vI nr, vI nl, vR m19, vR m20, vR m21, vI sp_, vR m23, vR m24, vR m25, vR m26, vR m27, vR m28, vI wtc, vI wcl, vI ir, vI ip, vR m33, vI shu, vR m35, vI sfa, vI swr], zI m12 (cy 0) 389 wj, zI m14 (cy 0) 389 (u9.2.2 0)] H := hP
                                have hD : va_D A [zI m19 (cy 0) 4 f19, zI m20 (cy 0) 32 f20, zI m21 (cy 0) 32 f21, zI m1 (cy 0) 4 (u8.2.2 0), zI m10 (cy 0) 68 f10, zO mm 12 [vI (u8.2.1 1), vR m1, vI tp, vI sz_, vI ap, vI bad, vI bk, vI opn, vI fp, vR m9, vR m10, vR m11, vR m12, vR m13, vR m14, vR m15, vI im, vI nr, vI nl, vR m19, vR m20, vR m21, vI sp_, vR m23, vR m24, vR m25, vR m26, vR m27, vR m28, vI wtc, vI wcl, vI ir, vI ip, vR m33, vI shu, vR m35, vI sfa, vI swr], zI m12 (cy 0) 389 wj, zI m14 (cy 0) 389 (u9.2.2 0)] := hD
                                refine cj_i (wr := [zI m1 (cy 0) 4 (u8.2.2 0), zI m14 (cy 0) 389 (u9.2.2 0)]) (va_runV (As := [vI n, vI (u14.2.1 0)]) (rest := []) ⟨hx, hb, hml, hown, hts⟩ (m_deepBehind l hl D cy sa mm m1 m9 m10 m11 m12 m13 m14 m15 m19 m20 m21 m23 m24 m25 m26 m27 m28 m33 m35 (u8.2.1 1) tp sz_ ap bad bk opn fp im nr nl sp_ wtc wcl ir ip shu sfa swr f10 wj f19 f20 f21 n (u14.2.1 0) qs H.size (by first | exact hq8_1 | omega) (by first | exact hr_tp | omega) (by first | exact hr_sz_ | omega) (by first | exact hr_ap | omega) (by first | exact hr_bad | omega) (by first | exact hr_bk | omega) (by first | exact hr_opn | omega) (by first | exact hr_fp | omega) (by first | exact hr_im | omega) (by first | exact hr_nr | omega) (by first | exact hr_nl | omega) (by first | exact hr_sp_ | omega) (by first | exact hr_wtc | omega) (by first | exact hr_wcl | omega) (by first | exact hr_ir | omega) (by first | exact hr_ip | omega) (by first | exact hr_shu | omega) (by first | exact hr_sfa | omega) (by first | exact hr_swr | omega) (by omega) (by first | exact hq14_1 | omega) hq8_4 hiwj hf19) (cwV 2 hts gg_8 rfl rfl rfl (by decide +kernel) ⟨Nat.le_of_ble_eq_true rfl, Nat.le_of_ble_eq_true rfl⟩) ⟨pcW.blind, (va_recv hG.1 hP (ci := 12) (q0 := 5) rfl rfl), (pcW.mk hP hD hS hA hG hT [5, 4, 6, 0, 1, 2] rfl (by decide))⟩ rfl rfl hlv.1 rfl (lv_room (Nat.le_of_ble_eq_true rfl)) dX12_mend_245 ⟨Nat.le_of_ble_eq_true rfl, Nat.le_of_ble_eq_true rfl⟩) hP hD hS hA [5, 4, 6, 0, 1, 2] [3, 7] rfl rfl (by decide) (by decide) (fun r15 u15 H locs hw15 hP hD hS => ?_)
                                obtain ⟨rfl, hq15_1, hq15_2, hq15_3, hq15_4⟩ := hw15
                                have hP : va_P D vwCl [zI m1 (cy 0) 4 (u8.2.2 0), zI m14 (cy 0) 389 (u9.2.2 0), zO mm 12 [vI (u8.2.1 1), vR m1, vI tp, vI sz_, vI ap, vI bad, vI bk, vI opn, vI fp, vR m9, vR m10, vR m11, vR m12, vR m13, vR m14, vR m15, vI im, vI nr, vI nl, vR m19, vR m20, vR m21, vI sp_, vR m23, vR m24, vR m25, vR m26, vR m27, vR m28, vI wtc, vI wcl, vI ir, vI ip, vR m33, vI shu, vR m35, vI sfa, vI swr], zI m10 (cy 0) 68 f10, zI m12 (cy 0) 389 (u15.2.2 0), zI m19 (cy 0) 4 f19, zI m20 (cy 0) 32 f20, zI m21 (cy 0) 32 f21] H := hP
                                have hD : va_D A [zI m1 (cy 0) 4 (u8.2.2 0), zI m14 (cy 0) 389 (u9.2.2 0), zO mm 12 [vI (u8.2.1 1), vR m1, vI tp, vI sz_, vI ap, vI bad, vI bk, vI opn, vI fp, vR m9, vR m10, vR m11, vR m12, vR m13, vR m14, vR m15, vI im, vI nr, vI nl, vR m19, vR m20, vR m21, vI sp_, vR m23, vR m24, vR m25, vR m26, vR m27, vR m28, vI wtc, vI wcl, vI ir, vI ip, vR m33, vI shu, vR m35, vI sfa, vI swr], zI m10 (cy 0) 68 f10, zI m12 (cy 0) 389 (u15.2.2 0), zI m19 (cy 0) 4 f19, zI m20 (cy 0) 32 f20, zI m21 (cy 0) 32 f21] := hD
                                refine lv_istore (lv' := [(11, vI (u15.2.1 0)), (10, vI q10), (9, vI q9_), (8, vI q8), (7, vI q7), (6, vI q6), (0, vR mm), (1, vI n), (2, vI x), (3, vI y), (4, vI k), (5, vI w)]) hx hb dX12_mend_248 hlv (by decide) rfl (fun ls hlv => ?_)
                                refine lv_aload_n hx hb dX12_mend_250 rfl (lv_at hlv 6 rfl) ?_
                                refine cj_v (wr := [zI m1 (cy 0) 4 (u8.2.2 0), zI m10 (cy 0) 68 f10, zI m19 (cy 0) 4 f19, zI m20 (cy 0) 32 f20, zI m21 (cy 0) 32 f21]) (va_runV (As := []) (rest := []) ⟨hx, hb, hml, hown, hts⟩ (m_back l hl D cy sa mm m1 m9 m10 m11 m12 m13 m14 m15 m19 m20 m21 m23 m24 m25 m26 m27 m28 m33 m35 (u8.2.1 1) tp sz_ ap bad bk opn fp im nr nl sp_ wtc wcl ir ip shu sfa swr (u15.2.2 0) (u9.2.2 0) 8 qs H.size (by first | exact hq8_1 | omega) (by first | exact hr_tp | omega) (by first | exact hr_sz_ | omega) (by first | exact hr_ap | omega) (by first | exact hr_bad | omega) (by first | exact hr_bk | omega) (by first | exact hr_opn | omega) (by first | exact hr_fp | omega) (by first | exact hr_im | omega) (by first | exact hr_nr | omega) (by first | exact hr_nl | omega) (by first | exact hr_sp_ | omega) (by first | exact hr_wtc | omega) (by first | exact hr_wcl | omega) (by first | exact hr_ir | omega) (by first | exact hr_ip | omega) (by first | exact hr_shu | omega) (by first | exact hr_sfa | omega) (by first | exact hr_swr | omega) (by show (8 : Int) ≤ 8 ∧ (8 : Int) ≤ 9; decide) (hq15_3.1) hq9_1) (cwV 0 hts gg_9 rfl rfl rfl (by decide +kernel) ⟨Nat.le_of_ble_eq_true rfl, Nat.le_of_ble_eq_true rfl⟩) ⟨pcW.blind, (va_recv hG.1 hP (ci := 12) (q0 := 2) rfl rfl), (pcW.mk hP hD hS hA hG hT [2, 4, 1] rfl (by decide))⟩ rfl rfl hlv.1 rfl (lv_room (Nat.le_of_ble_eq_true rfl)) dX12_mend_251 ⟨Nat.le_of_ble_eq_true rfl, Nat.le_of_ble_eq_true rfl⟩) hP hD hS hA [2, 4, 1] [0, 3, 5, 6, 7] rfl rfl (by decide) (by decide) (fun u16 H locs hw16 hP hD hS => ?_)
                                obtain ⟨hq16_0, hq16_1⟩ := hw16
                                have hP : va_P D vwCl [zI m1 (cy 0) 4 (u8.2.2 0), zI m10 (cy 0) 68 f10, zI m19 (cy 0) 4 f19, zI m20 (cy 0) 32 f20, zI m21 (cy 0) 32 f21, zO mm 12 [vI (u8.2.1 1), vR m1, vI tp, vI sz_, vI ap, vI bad, vI bk, vI opn, vI fp, vR m9, vR m10, vR m11, vR m12, vR m13, vR m14, vR m15, vI im, vI nr, vI nl, vR m19, vR m20, vR m21, vI sp_, vR m23, vR m24, vR m25, vR m26, vR m27, vR m28, vI wtc, vI wcl, vI ir, vI ip, vR m33, vI shu, vR m35, vI sfa, vI swr], zI m12 (cy 0) 389 (u16.2.2 0), zI m14 (cy 0) 389 (u9.2.2 0)] H := hP
                                have hD : va_D A [zI m1 (cy 0) 4 (u8.2.2 0), zI m10 (cy 0) 68 f10, zI m19 (cy 0) 4 f19, zI m20 (cy 0) 32 f20, zI m21 (cy 0) 32 f21, zO mm 12 [vI (u8.2.1 1), vR m1, vI tp, vI sz_, vI ap, vI bad, vI bk, vI opn, vI fp, vR m9, vR m10, vR m11, vR m12, vR m13, vR m14, vR m15, vI im, vI nr, vI nl, vR m19, vR m20, vR m21, vI sp_, vR m23, vR m24, vR m25, vR m26, vR m27, vR m28, vI wtc, vI wcl, vI ir, vI ip, vR m33, vI shu, vR m35, vI sfa, vI swr], zI m12 (cy 0) 389 (u16.2.2 0), zI m14 (cy 0) 389 (u9.2.2 0)] := hD
                                refine lv_iload hx hb dX12_mend_254 (lv_at hlv 0 rfl) ?_
                                refine lv_iload hx hb dX12_mend_256 (lv_at hlv 10 rfl) ?_
                                refine ir_le (tgt := 264) hx hb dX12_mend_258 (by decide) (by first | exact hq15_1 | omega) (by first | exact hr_k | omega) (fun c_32 => ?_) (fun c_32 => ?_)
                                · refine lv_iload hx hb dX12_mend_264 (lv_at hlv 3 rfl) ?_
                                  refine lv_istore (lv' := [(6, vI q8), (11, vI (u15.2.1 0)), (10, vI q10), (9, vI q9_), (8, vI q8), (7, vI q7), (0, vR mm), (1, vI n), (2, vI x), (3, vI y), (4, vI k), (5, vI w)]) hx hb dX12_mend_266 hlv (by decide) rfl (fun ls hlv => ?_)
                                  refine lv_iload hx hb dX12_mend_268 (lv_at hlv 3 rfl) ?_
                                  refine lv_istore (lv' := [(7, vI q9_), (6, vI q8), (11, vI (u15.2.1 0)), (10, vI q10), (9, vI q9_), (8, vI q8), (0, vR mm), (1, vI n), (2, vI x), (3, vI y), (4, vI k), (5, vI w)]) hx hb dX12_mend_270 hlv (by decide) rfl (fun ls hlv => ?_)
                                  obtain ⟨z_33, hz_33⟩ : ∃ z : Int, z = q8 + 1 := ⟨_, rfl⟩
                                  refine lv_iinc (v := iI z_33) (lv' := [(8, vI z_33), (7, vI q9_), (6, vI q8), (11, vI (u15.2.1 0)), (10, vI q10), (9, vI q9_), (0, vR mm), (1, vI n), (2, vI x), (3, vI y), (4, vI k), (5, vI w)]) hx hb dX12_mend_272 hlv (k := 5) rfl (by rw [hz_33]; exact (Int32.ofInt_add _ _).symm) (by decide) rfl (fun ls hlv => ?_)
                                  refine lv_goto (tgt := 83) hx hb dX12_mend_275 (by decide) ?_
                                  exact ih83 q8 q9_ z_33 (u16.2.2 0) H locs ls (by omega) (by first | exact rgw hl83_2 (by decide) (by decide) | omega) (by first | exact hl105_0 | omega) (by omega) hq16_0 (hP.sub [2, 3, 4, 0, 1, 5, 6, 7] rfl) (hD.sub [2, 3, 4, 0, 1, 5, 6, 7] (by decide) rfl) hS (lv_sub hlv [0, 1, 2, 6, 7, 8, 9, 10, 11] rfl)
                                · refine lv_goto (tgt := 272) hx hb dX12_mend_261 (by decide) ?_
                                  obtain ⟨z_34, hz_34⟩ : ∃ z : Int, z = q8 + 1 := ⟨_, rfl⟩
                                  refine lv_iinc (v := iI z_34) (lv' := [(8, vI z_34), (11, vI (u15.2.1 0)), (10, vI q10), (9, vI q9_), (7, vI q7), (6, vI q6), (0, vR mm), (1, vI n), (2, vI x), (3, vI y), (4, vI k), (5, vI w)]) hx hb dX12_mend_272 hlv (k := 3) rfl (by rw [hz_34]; exact (Int32.ofInt_add _ _).symm) (by decide) rfl (fun ls hlv => ?_)
                                  refine lv_goto (tgt := 83) hx hb dX12_mend_275 (by decide) ?_
                                  exact ih83 q6 q7 z_34 (u16.2.2 0) H locs ls (by omega) (by first | exact hl83_0 | omega) (by first | exact hl83_1 | omega) (by omega) hq16_0 (hP.sub [2, 3, 4, 0, 1, 5, 6, 7] rfl) (hD.sub [2, 3, 4, 0, 1, 5, 6, 7] (by decide) rfl) hS (lv_sub hlv [0, 4, 5, 6, 7, 8, 9, 10, 11] rfl)
                              · refine lv_iload hx hb dX12_mend_215 (lv_at hlv 3 rfl) ?_
                                refine lv_iload hx hb dX12_mend_217 (lv_at hlv 0 rfl) ?_
                                refine lv_ishr hx hb dX12_mend_219 ?_
                                refine lt_z (fun z_35 ez_35 lz_35 hz_35 => ?_)
                                refine lv_iconst (v := iI 1) hx hb dX12_mend_220 (by decide) ?_
                                refine lv_iand hx hb dX12_mend_221 ?_
                                refine lt_aE 1 (by decide) (by decide) (hi := 1) (by decide) (fun z_36 ez_36 lz_36 hz_36 => ?_)
                                refine lv_iconst (v := iI 1) hx hb dX12_mend_222 (by decide) ?_
                                refine ir_ne (tgt := 232) hx hb dX12_mend_223 (by decide) (by omega) (by show ((-2147483648) : Int) ≤ 1 ∧ (1 : Int) ≤ 2147483647; decide) (fun c_37 => ?_) (fun c_37 => ?_)
                                · obtain ⟨z_38, hz_38⟩ : ∃ z : Int, z = r11 + 1 := ⟨_, rfl⟩
                                  refine lv_iinc (v := iI z_38) (lv' := [(11, vI z_38), (10, vI q10), (9, vI q9_), (8, vI q8), (7, vI q7), (6, vI q6), (0, vR mm), (1, vI n), (2, vI x), (3, vI y), (4, vI k), (5, vI w)]) hx hb dX12_mend_232 hlv (k := 0) rfl (by rw [hz_38]; exact (Int32.ofInt_add _ _).symm) (by decide) rfl (fun ls hlv => ?_)
                                  refine lv_goto (tgt := 204) hx hb dX12_mend_235 (by decide) ?_
                                  exact ih204 z_38 wj H locs ls (by omega) (by omega) (MF.next hl204_1 (fun _ _ _ => rfl) (by omega) (by omega)) hiwj (hP.sub [0, 1, 2, 3, 4, 5, 6, 7] rfl) (hD.sub [0, 1, 2, 3, 4, 5, 6, 7] (by decide) rfl) hS (lv_sub hlv [0, 1, 2, 3, 4, 5, 6, 7, 8, 9, 10, 11] rfl)
                                · refine lv_aload_n hx hb dX12_mend_226 rfl (lv_at hlv 6 rfl) ?_
                                  refine lv_iload hx hb dX12_mend_227 (lv_at hlv 0 rfl) ?_
                                  refine cj_v (wr := [zI m19 (cy 0) 4 f19, zI m20 (cy 0) 32 f20, zI m21 (cy 0) 32 f21, zI m1 (cy 0) 4 (u8.2.2 0), zI m14 (cy 0) 389 (u9.2.2 0)]) (va_runV (As := [vI r11]) (rest := []) ⟨hx, hb, hml, hown, hts⟩ (m_works l hl D cy sa mm m1 m9 m10 m11 m12 m13 m14 m15 m19 m20 m21 m23 m24 m25 m26 m27 m28 m33 m35 (u8.2.1 1) tp sz_ ap bad bk opn fp im nr nl sp_ wtc wcl ir ip shu sfa swr f10 wj r11 qs H.size (by first | exact hq8_1 | omega) (by first | exact hr_tp | omega) (by first | exact hr_sz_ | omega) (by first | exact hr_ap | omega) (by first | exact hr_bad | omega) (by first | exact hr_bk | omega) (by first | exact hr_opn | omega) (by first | exact hr_fp | omega) (by first | exact hr_im | omega) (by first | exact hr_nr | omega) (by first | exact hr_nl | omega) (by first | exact hr_sp_ | omega) (by first | exact hr_wtc | omega) (by first | exact hr_wcl | omega) (by first | exact hr_ir | omega) (by first | exact hr_ip | omega) (by first | exact hr_shu | omega) (by first | exact hr_sfa | omega) (by first | exact hr_swr | omega) (by omega) (MF.use hl204_1 (by omega) ez_35 ez_36 (by omega)) hq8_4 hiwj) (cwV 1 hts gg_10 rfl rfl rfl (by decide +kernel) ⟨Nat.le_of_ble_eq_true rfl, Nat.le_of_ble_eq_true rfl⟩) ⟨pcW.blind, (va_recv hG.1 hP (ci := 12) (q0 := 5) rfl rfl), (pcW.mk hP hD hS hA hG hT [5, 4, 6] rfl (by decide))⟩ rfl rfl hlv.1 rfl (lv_room (Nat.le_of_ble_eq_true rfl)) dX12_mend_229 ⟨Nat.le_of_ble_eq_true rfl, Nat.le_of_ble_eq_true rfl⟩) hP hD hS hA [5, 4, 6] [0, 1, 2, 3, 7] rfl rfl (by decide) (by decide) (fun u17 H locs hw17 hP hD hS => ?_)
                                  obtain ⟨hq17_0, hq17_1, hq17_2, hq17_3⟩ := hw17
                                  have hP : va_P D vwCl [zI m19 (cy 0) 4 f19, zI m20 (cy 0) 32 f20, zI m21 (cy 0) 32 f21, zI m1 (cy 0) 4 (u8.2.2 0), zI m14 (cy 0) 389 (u9.2.2 0), zO mm 12 [vI (u8.2.1 1), vR m1, vI tp, vI sz_, vI ap, vI bad, vI bk, vI opn, vI fp, vR m9, vR m10, vR m11, vR m12, vR m13, vR m14, vR m15, vI im, vI nr, vI nl, vR m19, vR m20, vR m21, vI sp_, vR m23, vR m24, vR m25, vR m26, vR m27, vR m28, vI wtc, vI wcl, vI ir, vI ip, vR m33, vI shu, vR m35, vI sfa, vI swr], zI m10 (cy 0) 68 f10, zI m12 (cy 0) 389 (u17.2.2 0)] H := hP
                                  have hD : va_D A [zI m19 (cy 0) 4 f19, zI m20 (cy 0) 32 f20, zI m21 (cy 0) 32 f21, zI m1 (cy 0) 4 (u8.2.2 0), zI m14 (cy 0) 389 (u9.2.2 0), zO mm 12 [vI (u8.2.1 1), vR m1, vI tp, vI sz_, vI ap, vI bad, vI bk, vI opn, vI fp, vR m9, vR m10, vR m11, vR m12, vR m13, vR m14, vR m15, vI im, vI nr, vI nl, vR m19, vR m20, vR m21, vI sp_, vR m23, vR m24, vR m25, vR m26, vR m27, vR m28, vI wtc, vI wcl, vI ir, vI ip, vR m33, vI shu, vR m35, vI sfa, vI swr], zI m10 (cy 0) 68 f10, zI m12 (cy 0) 389 (u17.2.2 0)] := hD
                                  obtain ⟨z_39, hz_39⟩ : ∃ z : Int, z = r11 + 1 := ⟨_, rfl⟩
                                  refine lv_iinc (v := iI z_39) (lv' := [(11, vI z_39), (10, vI q10), (9, vI q9_), (8, vI q8), (7, vI q7), (6, vI q6), (0, vR mm), (1, vI n), (2, vI x), (3, vI y), (4, vI k), (5, vI w)]) hx hb dX12_mend_232 hlv (k := 0) rfl (by rw [hz_39]; exact (Int32.ofInt_add _ _).symm) (by decide) rfl (fun ls hlv => ?_)
                                  refine lv_goto (tgt := 204) hx hb dX12_mend_235 (by decide) ?_
                                  exact ih204 z_39 (u17.2.2 0) H locs ls (by omega) (by omega) (MF.next hl204_1 (fun j a b => hq17_1 j (by omega) (by omega)) (by omega) (by omega)) hq17_3 (hP.sub [0, 1, 2, 3, 6, 5, 7, 4] rfl) (hD.sub [0, 1, 2, 3, 6, 5, 7, 4] (by decide) rfl) hS (lv_sub hlv [0, 1, 2, 3, 4, 5, 6, 7, 8, 9, 10, 11] rfl)
                          · refine lv_goto (tgt := 272) hx hb dX12_mend_198 (by decide) ?_
                            obtain ⟨z_40, hz_40⟩ : ∃ z : Int, z = q8 + 1 := ⟨_, rfl⟩
                            refine lv_iinc (v := iI z_40) (lv' := [(8, vI z_40), (11, vI q11), (10, vI q10), (9, vI q9_), (7, vI q7), (6, vI q6), (0, vR mm), (1, vI n), (2, vI x), (3, vI y), (4, vI k), (5, vI w)]) hx hb dX12_mend_272 hlv (k := 3) rfl (by rw [hz_40]; exact (Int32.ofInt_add _ _).symm) (by decide) rfl (fun ls hlv => ?_)
                            refine lv_goto (tgt := 83) hx hb dX12_mend_275 (by decide) ?_
                            exact ih83 q6 q7 z_40 wg H locs ls (by omega) (by first | exact hl83_0 | omega) (by first | exact hl83_1 | omega) (by omega) hiwg (hP.sub [0, 1, 2, 3, 4, 5, 6, 7] rfl) (hD.sub [0, 1, 2, 3, 4, 5, 6, 7] (by decide) rfl) hS (lv_sub hlv [0, 4, 5, 6, 7, 8, 9, 10, 11] rfl)
                    · refine lv_iload hx hb dX12_mend_116 (lv_at hlv 3 rfl) ?_
                      refine lv_iload hx hb dX12_mend_118 (lv_at hlv 0 rfl) ?_
                      refine lv_ishr hx hb dX12_mend_120 ?_
                      refine lt_z (fun z_41 ez_41 lz_41 hz_41 => ?_)
                      refine lv_iconst (v := iI 1) hx hb dX12_mend_121 (by decide) ?_
                      refine lv_iand hx hb dX12_mend_122 ?_
                      refine lt_aE 1 (by decide) (by decide) (hi := 1) (by decide) (fun z_42 ez_42 lz_42 hz_42 => ?_)
                      refine iz_ne (tgt := 129) hx hb dX12_mend_123 (by decide) (by omega) (fun c_43 => ?_) (fun c_43 => ?_)
                      · refine lv_iload hx hb dX12_mend_129 (lv_at hlv 1 rfl) ?_
                        refine iz_eq (tgt := 152) hx hb dX12_mend_131 (by decide) (by first | exact rgw hl105_1 (by decide) (by decide) | omega) (fun c_44 => ?_) (fun c_44 => ?_)
                        · refine lv_iconst (v := iI 0) hx hb dX12_mend_152 (by decide) ?_
                          refine lv_istore (lv' := [(10, vI 0), (11, vI q11), (9, vI q9_), (8, vI q8), (7, vI q7), (6, vI q6), (0, vR mm), (1, vI n), (2, vI x), (3, vI y), (4, vI k), (5, vI w)]) hx hb dX12_mend_153 hlv (by decide) rfl (fun ls hlv => ?_)
                          refine lv_iload hx hb dX12_mend_155 (lv_at hlv 2 rfl) ?_
                          refine lv_aload_n hx hb dX12_mend_157 rfl (lv_at hlv 6 rfl) ?_
                          refine va_get (D := D) (ci := 12) (v := vR m10) (C := RX12) (T := TX12) (N := 38) hx hb hts hi12 hown hG.1 hP 5 rfl rfl 10 (by decide) lf23 (fun _ h9 => h9) rfl dX12_mend_158 ?_
                          refine lv_bipush (v := iI 28) hx hb dX12_mend_161 (by decide) ?_
                          refine lv_iconst (v := iI 5) hx hb dX12_mend_163 (by decide) ?_
                          refine lv_iload hx hb dX12_mend_164 (lv_at hlv 1 rfl) ?_
                          refine lv_imul hx hb dX12_mend_166 ?_
                          refine lt_e (e0 := 5 * q11) (Int32.ofInt_mul _ _).symm (fun z_45 hz_45 => ?_)
                          refine lv_iadd hx hb dX12_mend_167 ?_
                          refine lt_e (e0 := 28 + z_45) (Int32.ofInt_add _ _).symm (fun z_46 hz_46 => ?_)
                          refine lv_iconst (v := iI 4) hx hb dX12_mend_168 (by decide) ?_
                          refine lv_iadd hx hb dX12_mend_169 ?_
                          refine lt_e (e0 := z_46 + 4) (Int32.ofInt_add _ _).symm (fun z_47 hz_47 => ?_)
                          refine va_iald hx hb hG.1 hP 4 0 rfl rfl (iI_in (by omega) (by decide)) dX12_mend_170 ?_
                          refine lt_nz (i := z_47) (by omega) (fun z_48 hz_48 lz_48 uz_48 => ?_)
                          refine lv_iadd hx hb dX12_mend_171 ?_
                          refine lt_z (fun z_49 ez_49 lz_49 hz_49 => ?_)
                          refine lv_istore (lv' := [(9, vI z_49), (10, vI 0), (11, vI q11), (8, vI q8), (7, vI q7), (6, vI q6), (0, vR mm), (1, vI n), (2, vI x), (3, vI y), (4, vI k), (5, vI w)]) hx hb dX12_mend_172 hlv (by decide) rfl (fun ls hlv => ?_)
                          obtain ⟨z_50, hz_50⟩ : ∃ z : Int, z = q11 + 1 := ⟨_, rfl⟩
                          refine lv_iinc (v := iI z_50) (lv' := [(11, vI z_50), (9, vI z_49), (10, vI 0), (8, vI q8), (7, vI q7), (6, vI q6), (0, vR mm), (1, vI n), (2, vI x), (3, vI y), (4, vI k), (5, vI w)]) hx hb dX12_mend_174 hlv (k := 2) rfl (by rw [hz_50]; exact (Int32.ofInt_add _ _).symm) (by decide) rfl (fun ls hlv => ?_)
                          refine lv_goto (tgt := 105) hx hb dX12_mend_177 (by decide) ?_
                          exact ih105 z_49 0 z_50 H locs ls (by omega) (by omega) (by show (0 : Int) ≤ 0 ∧ (0 : Int) ≤ 1; decide) (by omega) (by omega) (fun h => absurd h (by decide))  (hP.sub [0, 1, 2, 3, 4, 5, 6, 7] rfl) (hD.sub [0, 1, 2, 3, 4, 5, 6, 7] (by decide) rfl) hS (lv_sub hlv [0, 2, 1, 3, 4, 5, 6, 7, 8, 9, 10, 11] rfl)
                        · refine lv_aload_n hx hb dX12_mend_134 rfl (lv_at hlv 6 rfl) ?_
                          refine va_get (D := D) (ci := 12) (v := vR m12) (C := RX12) (T := TX12) (N := 38) hx hb hts hi12 hown hG.1 hP 5 rfl rfl 12 (by decide) lf29 (fun _ h9 => h9) rfl dX12_mend_135 ?_
                          refine lv_sipush (v := iI 198) hx hb dX12_mend_138 (by decide) ?_
                          refine lv_iload hx hb dX12_mend_141 (lv_at hlv 0 rfl) ?_
                          refine lv_iadd hx hb dX12_mend_143 ?_
                          refine lt_e (e0 := 198 + q11) (Int32.ofInt_add _ _).symm (fun z_51 hz_51 => ?_)
                          refine va_iald hx hb hG.1 hP 6 0 rfl rfl (iI_in (by omega) (by decide)) dX12_mend_144 ?_
                          refine lt_nz (i := z_51) (by omega) (fun z_52 hz_52 lz_52 uz_52 => ?_)
                          refine iz_ne (tgt := 152) hx hb dX12_mend_145 (by decide) (by omega) (fun c_53 => ?_) (fun c_53 => ?_)
                          · refine lv_iconst (v := iI 0) hx hb dX12_mend_152 (by decide) ?_
                            refine lv_istore (lv' := [(10, vI 0), (11, vI q11), (9, vI q9_), (8, vI q8), (7, vI q7), (6, vI q6), (0, vR mm), (1, vI n), (2, vI x), (3, vI y), (4, vI k), (5, vI w)]) hx hb dX12_mend_153 hlv (by decide) rfl (fun ls hlv => ?_)
                            refine lv_iload hx hb dX12_mend_155 (lv_at hlv 2 rfl) ?_
                            refine lv_aload_n hx hb dX12_mend_157 rfl (lv_at hlv 6 rfl) ?_
                            refine va_get (D := D) (ci := 12) (v := vR m10) (C := RX12) (T := TX12) (N := 38) hx hb hts hi12 hown hG.1 hP 5 rfl rfl 10 (by decide) lf23 (fun _ h9 => h9) rfl dX12_mend_158 ?_
                            refine lv_bipush (v := iI 28) hx hb dX12_mend_161 (by decide) ?_
                            refine lv_iconst (v := iI 5) hx hb dX12_mend_163 (by decide) ?_
                            refine lv_iload hx hb dX12_mend_164 (lv_at hlv 1 rfl) ?_
                            refine lv_imul hx hb dX12_mend_166 ?_
                            refine lt_e (e0 := 5 * q11) (Int32.ofInt_mul _ _).symm (fun z_54 hz_54 => ?_)
                            refine lv_iadd hx hb dX12_mend_167 ?_
                            refine lt_e (e0 := 28 + z_54) (Int32.ofInt_add _ _).symm (fun z_55 hz_55 => ?_)
                            refine lv_iconst (v := iI 4) hx hb dX12_mend_168 (by decide) ?_
                            refine lv_iadd hx hb dX12_mend_169 ?_
                            refine lt_e (e0 := z_55 + 4) (Int32.ofInt_add _ _).symm (fun z_56 hz_56 => ?_)
                            refine va_iald hx hb hG.1 hP 4 0 rfl rfl (iI_in (by omega) (by decide)) dX12_mend_170 ?_
                            refine lt_nz (i := z_56) (by omega) (fun z_57 hz_57 lz_57 uz_57 => ?_)
                            refine lv_iadd hx hb dX12_mend_171 ?_
                            refine lt_z (fun z_58 ez_58 lz_58 hz_58 => ?_)
                            refine lv_istore (lv' := [(9, vI z_58), (10, vI 0), (11, vI q11), (8, vI q8), (7, vI q7), (6, vI q6), (0, vR mm), (1, vI n), (2, vI x), (3, vI y), (4, vI k), (5, vI w)]) hx hb dX12_mend_172 hlv (by decide) rfl (fun ls hlv => ?_)
                            obtain ⟨z_59, hz_59⟩ : ∃ z : Int, z = q11 + 1 := ⟨_, rfl⟩
                            refine lv_iinc (v := iI z_59) (lv' := [(11, vI z_59), (9, vI z_58), (10, vI 0), (8, vI q8), (7, vI q7), (6, vI q6), (0, vR mm), (1, vI n), (2, vI x), (3, vI y), (4, vI k), (5, vI w)]) hx hb dX12_mend_174 hlv (k := 2) rfl (by rw [hz_59]; exact (Int32.ofInt_add _ _).symm) (by decide) rfl (fun ls hlv => ?_)
                            refine lv_goto (tgt := 105) hx hb dX12_mend_177 (by decide) ?_
                            exact ih105 z_58 0 z_59 H locs ls (by omega) (by omega) (by show (0 : Int) ≤ 0 ∧ (0 : Int) ≤ 1; decide) (by omega) (by omega) (fun h => absurd h (by decide))  (hP.sub [0, 1, 2, 3, 4, 5, 6, 7] rfl) (hD.sub [0, 1, 2, 3, 4, 5, 6, 7] (by decide) rfl) hS (lv_sub hlv [0, 2, 1, 3, 4, 5, 6, 7, 8, 9, 10, 11] rfl)
                          · refine lv_iconst (v := iI 1) hx hb dX12_mend_148 (by decide) ?_
                            refine lv_goto (tgt := 153) hx hb dX12_mend_149 (by decide) ?_
                            refine lv_istore (lv' := [(10, vI 1), (11, vI q11), (9, vI q9_), (8, vI q8), (7, vI q7), (6, vI q6), (0, vR mm), (1, vI n), (2, vI x), (3, vI y), (4, vI k), (5, vI w)]) hx hb dX12_mend_153 hlv (by decide) rfl (fun ls hlv => ?_)
                            refine lv_iload hx hb dX12_mend_155 (lv_at hlv 2 rfl) ?_
                            refine lv_aload_n hx hb dX12_mend_157 rfl (lv_at hlv 6 rfl) ?_
                            refine va_get (D := D) (ci := 12) (v := vR m10) (C := RX12) (T := TX12) (N := 38) hx hb hts hi12 hown hG.1 hP 5 rfl rfl 10 (by decide) lf23 (fun _ h9 => h9) rfl dX12_mend_158 ?_
                            refine lv_bipush (v := iI 28) hx hb dX12_mend_161 (by decide) ?_
                            refine lv_iconst (v := iI 5) hx hb dX12_mend_163 (by decide) ?_
                            refine lv_iload hx hb dX12_mend_164 (lv_at hlv 1 rfl) ?_
                            refine lv_imul hx hb dX12_mend_166 ?_
                            refine lt_e (e0 := 5 * q11) (Int32.ofInt_mul _ _).symm (fun z_60 hz_60 => ?_)
                            refine lv_iadd hx hb dX12_mend_167 ?_
                            refine lt_e (e0 := 28 + z_60) (Int32.ofInt_add _ _).symm (fun z_61 hz_61 => ?_)
                            refine lv_iconst (v := iI 4) hx hb dX12_mend_168 (by decide) ?_
                            refine lv_iadd hx hb dX12_mend_169 ?_
                            refine lt_e (e0 := z_61 + 4) (Int32.ofInt_add _ _).symm (fun z_62 hz_62 => ?_)
                            refine va_iald hx hb hG.1 hP 4 0 rfl rfl (iI_in (by omega) (by decide)) dX12_mend_170 ?_
                            refine lt_nz (i := z_62) (by omega) (fun z_63 hz_63 lz_63 uz_63 => ?_)
                            refine lv_iadd hx hb dX12_mend_171 ?_
                            refine lt_z (fun z_64 ez_64 lz_64 hz_64 => ?_)
                            refine lv_istore (lv' := [(9, vI z_64), (10, vI 1), (11, vI q11), (8, vI q8), (7, vI q7), (6, vI q6), (0, vR mm), (1, vI n), (2, vI x), (3, vI y), (4, vI k), (5, vI w)]) hx hb dX12_mend_172 hlv (by decide) rfl (fun ls hlv => ?_)
                            obtain ⟨z_65, hz_65⟩ : ∃ z : Int, z = q11 + 1 := ⟨_, rfl⟩
                            refine lv_iinc (v := iI z_65) (lv' := [(11, vI z_65), (9, vI z_64), (10, vI 1), (8, vI q8), (7, vI q7), (6, vI q6), (0, vR mm), (1, vI n), (2, vI x), (3, vI y), (4, vI k), (5, vI w)]) hx hb dX12_mend_174 hlv (k := 2) rfl (by rw [hz_65]; exact (Int32.ofInt_add _ _).symm) (by decide) rfl (fun ls hlv => ?_)
                            refine lv_goto (tgt := 105) hx hb dX12_mend_177 (by decide) ?_
                            exact ih105 z_64 1 z_65 H locs ls (by omega) (by omega) (by show (0 : Int) ≤ 1 ∧ (1 : Int) ≤ 1; decide) (by omega) (by omega) (fun h => MD.next (hl105_4 (by omega)) (by omega) (by rw [show 198 + q11.toNat = z_51.toNat by omega]; omega) (by omega))  (hP.sub [0, 1, 2, 3, 4, 5, 6, 7] rfl) (hD.sub [0, 1, 2, 3, 4, 5, 6, 7] (by decide) rfl) hS (lv_sub hlv [0, 2, 1, 3, 4, 5, 6, 7, 8, 9, 10, 11] rfl)
                      · refine lv_goto (tgt := 174) hx hb dX12_mend_126 (by decide) ?_
                        obtain ⟨z_66, hz_66⟩ : ∃ z : Int, z = q11 + 1 := ⟨_, rfl⟩
                        refine lv_iinc (v := iI z_66) (lv' := [(11, vI z_66), (10, vI q10), (9, vI q9_), (8, vI q8), (7, vI q7), (6, vI q6), (0, vR mm), (1, vI n), (2, vI x), (3, vI y), (4, vI k), (5, vI w)]) hx hb dX12_mend_174 hlv (k := 0) rfl (by rw [hz_66]; exact (Int32.ofInt_add _ _).symm) (by decide) rfl (fun ls hlv => ?_)
                        refine lv_goto (tgt := 105) hx hb dX12_mend_177 (by decide) ?_
                        exact ih105 q9_ q10 z_66 H locs ls (by omega) (by first | exact hl105_0 | omega) (by first | exact hl105_1 | omega) (by omega) (by omega) (fun h => MD.skip (hl105_4 h) (by omega) ez_41 ez_42 (by omega) (by omega))  (hP.sub [0, 1, 2, 3, 4, 5, 6, 7] rfl) (hD.sub [0, 1, 2, 3, 4, 5, 6, 7] (by decide) rfl) hS (lv_sub hlv [0, 1, 2, 3, 4, 5, 6, 7, 8, 9, 10, 11] rfl)
            · refine lv_iconst (v := iI 0) hx hb dX12_mend_68 (by decide) ?_
              refine W.widen (k := 0) (n := 0) (Nat.le_of_ble_eq_true rfl) (Nat.le_of_ble_eq_true rfl) ?_
              exact W.iret (v := iI 0) hx hb hr (fun t ht hW => ⟨⟨iI 0, ((fun k => ([] : List Nat).getD k 0), (fun k => ([0, (u8.2.1 1)] : List Int).getD k 0), (fun k => ([(u8.2.2 0), f12, f14] : List (Nat → Int32)).getD k (fun _ => 0))), rfl, ⟨rfl, (by show ((-2147483648) ≤ (u8.2.1 1) ∧ (u8.2.1 1) ≤ 2147483647); first | exact hq8_1 | omega), (by show ((-2147483648) ≤ 0 ∧ 0 ≤ 2147483647); show ((-2147483648) : Int) ≤ 0 ∧ (0 : Int) ≤ 2147483647; decide), hq8_4, hf12, hf14, hf19⟩, by rw [ht]; exact hP.sub [4, 5, 6, 7, 0, 1, 2, 3] rfl, hD.sub [4, 5, 6, 7, 0, 1, 2, 3] (by decide) rfl⟩, hS.F ht⟩) hS.2.2 dX12_mend_69
