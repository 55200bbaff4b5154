theorem dX12_daysOf_0 : decode cX12_daysOf 0 = .ok (.iconst 0, 1) := by decide +kernel
theorem dX12_daysOf_1 : decode cX12_daysOf 1 = .ok (.istore_n 2, 1) := by decide +kernel
theorem dX12_daysOf_12 : decode cX12_daysOf 12 = .ok (.iaload, 1) := by decide +kernel
theorem dX12_daysOf_13 : decode cX12_daysOf 13 = .ok (.if_icmp .ge 39, 3) := by decide +kernel
theorem dX12_daysOf_16 : decode cX12_daysOf 16 = .ok (.iload_n 2, 1) := by decide +kernel
theorem dX12_daysOf_17 : decode cX12_daysOf 17 = .ok (.iload_n 1, 1) := by decide +kernel
theorem dX12_daysOf_18 : decode cX12_daysOf 18 = .ok (.iload_n 3, 1) := by decide +kernel
theorem dX12_daysOf_19 : decode cX12_daysOf 19 = .ok (.ishr, 1) := by decide +kernel
theorem dX12_daysOf_2 : decode cX12_daysOf 2 = .ok (.iconst 0, 1) := by decide +kernel
theorem dX12_daysOf_20 : decode cX12_daysOf 20 = .ok (.iconst 1, 1) := by decide +kernel
theorem dX12_daysOf_21 : decode cX12_daysOf 21 = .ok (.iand, 1) := by decide +kernel
theorem dX12_daysOf_22 : decode cX12_daysOf 22 = .ok (.iconst 1, 1) := by decide +kernel
theorem dX12_daysOf_23 : decode cX12_daysOf 23 = .ok (.if_icmp .ne 20, 3) := by decide +kernel
theorem dX12_daysOf_26 : decode cX12_daysOf 26 = .ok (.aload_n 0, 1) := by decide +kernel
theorem dX12_daysOf_27 : decode cX12_daysOf 27 = .ok (.getfield 29, 3) := by decide +kernel
theorem dX12_daysOf_3 : decode cX12_daysOf 3 = .ok (.istore_n 3, 1) := by decide +kernel
theorem dX12_daysOf_30 : decode cX12_daysOf 30 = .ok (.sipush 358, 3) := by decide +kernel
theorem dX12_daysOf_33 : decode cX12_daysOf 33 = .ok (.iconst 3, 1) := by decide +kernel
theorem dX12_daysOf_34 : decode cX12_daysOf 34 = .ok (.iload_n 3, 1) := by decide +kernel
theorem dX12_daysOf_35 : decode cX12_daysOf 35 = .ok (.imul, 1) := by decide +kernel
theorem dX12_daysOf_36 : decode cX12_daysOf 36 = .ok (.iadd, 1) := by decide +kernel
theorem dX12_daysOf_37 : decode cX12_daysOf 37 = .ok (.iconst 1, 1) := by decide +kernel
theorem dX12_daysOf_38 : decode cX12_daysOf 38 = .ok (.iadd, 1) := by decide +kernel
theorem dX12_daysOf_39 : decode cX12_daysOf 39 = .ok (.iaload, 1) := by decide +kernel
theorem dX12_daysOf_4 : decode cX12_daysOf 4 = .ok (.iload_n 3, 1) := by decide +kernel
theorem dX12_daysOf_40 : decode cX12_daysOf 40 = .ok (.goto 4, 3) := by decide +kernel
theorem dX12_daysOf_43 : decode cX12_daysOf 43 = .ok (.iconst 0, 1) := by decide +kernel
theorem dX12_daysOf_44 : decode cX12_daysOf 44 = .ok (.iadd, 1) := by decide +kernel
theorem dX12_daysOf_45 : decode cX12_daysOf 45 = .ok (.istore_n 2, 1) := by decide +kernel
theorem dX12_daysOf_46 : decode cX12_daysOf 46 = .ok (.iinc 3 1, 3) := by decide +kernel
theorem dX12_daysOf_49 : decode cX12_daysOf 49 = .ok (.goto (-45), 3) := by decide +kernel
theorem dX12_daysOf_5 : decode cX12_daysOf 5 = .ok (.aload_n 0, 1) := by decide +kernel
theorem dX12_daysOf_52 : decode cX12_daysOf 52 = .ok (.iload_n 2, 1) := by decide +kernel
theorem dX12_daysOf_53 : decode cX12_daysOf 53 = .ok (.ireturn, 1) := by decide +kernel
theorem dX12_daysOf_6 : decode cX12_daysOf 6 = .ok (.getfield 29, 3) := by decide +kernel
theorem dX12_daysOf_9 : decode cX12_daysOf 9 = .ok (.sipush 357, 3) := by decide +kernel
theorem dX12_doing_0 : decode cX12_doing 0 = .ok (.aload_n 0, 1) := by decide +kernel
theorem dX12_doing_1 : decode cX12_doing 1 = .ok (.iload_n 1, 1) := by decide +kernel
theorem dX12_doing_10 : decode cX12_doing 10 = .ok (.iload_n 3, 1) := by decide +kernel
theorem dX12_doing_11 : decode cX12_doing 11 = .ok (.aload_n 0, 1) := by decide +kernel
theorem dX12_doing_12 : decode cX12_doing 12 = .ok (.getfield 29, 3) := by decide +kernel
theorem dX12_doing_15 : decode cX12_doing 15 = .ok (.sipush 358, 3) := by decide +kernel
theorem dX12_doing_18 : decode cX12_doing 18 = .ok (.iconst 3, 1) := by decide +kernel
theorem dX12_doing_19 : decode cX12_doing 19 = .ok (.iload_n 2, 1) := by decide +kernel
theorem dX12_doing_2 : decode cX12_doing 2 = .ok (.iconst 1, 1) := by decide +kernel
theorem dX12_doing_20 : decode cX12_doing 20 = .ok (.imul, 1) := by decide +kernel
theorem dX12_doing_21 : decode cX12_doing 21 = .ok (.iadd, 1) := by decide +kernel
theorem dX12_doing_22 : decode cX12_doing 22 = .ok (.iconst 2, 1) := by decide +kernel
theorem dX12_doing_23 : decode cX12_doing 23 = .ok (.iadd, 1) := by decide +kernel
theorem dX12_doing_24 : decode cX12_doing 24 = .ok (.iaload, 1) := by decide +kernel
theorem dX12_doing_25 : decode cX12_doing 25 = .ok (.if_icmp .le 9, 3) := by decide +kernel
theorem dX12_doing_28 : decode cX12_doing 28 = .ok (.ldc_w 399, 3) := by decide +kernel
theorem dX12_doing_3 : decode cX12_doing 3 = .ok (.iload_n 2, 1) := by decide +kernel
theorem dX12_doing_31 : decode cX12_doing 31 = .ok (.goto 4, 3) := by decide +kernel
theorem dX12_doing_34 : decode cX12_doing 34 = .ok (.iconst 0, 1) := by decide +kernel
theorem dX12_doing_35 : decode cX12_doing 35 = .ok (.aload_n 0, 1) := by decide +kernel
theorem dX12_doing_36 : decode cX12_doing 36 = .ok (.getfield 29, 3) := by decide +kernel
theorem dX12_doing_39 : decode cX12_doing 39 = .ok (.sipush 358, 3) := by decide +kernel
theorem dX12_doing_4 : decode cX12_doing 4 = .ok (.ishl, 1) := by decide +kernel
theorem dX12_doing_42 : decode cX12_doing 42 = .ok (.iconst 3, 1) := by decide +kernel
theorem dX12_doing_43 : decode cX12_doing 43 = .ok (.iload_n 2, 1) := by decide +kernel
theorem dX12_doing_44 : decode cX12_doing 44 = .ok (.imul, 1) := by decide +kernel
theorem dX12_doing_45 : decode cX12_doing 45 = .ok (.iadd, 1) := by decide +kernel
theorem dX12_doing_46 : decode cX12_doing 46 = .ok (.iaload, 1) := by decide +kernel
theorem dX12_doing_47 : decode cX12_doing 47 = .ok (.iload_n 3, 1) := by decide +kernel
theorem dX12_doing_48 : decode cX12_doing 48 = .ok (.imul, 1) := by decide +kernel
theorem dX12_doing_49 : decode cX12_doing 49 = .ok (.iadd, 1) := by decide +kernel
theorem dX12_doing_5 : decode cX12_doing 5 = .ok (.ior, 1) := by decide +kernel
theorem dX12_doing_50 : decode cX12_doing 50 = .ok (.aload_n 0, 1) := by decide +kernel
theorem dX12_doing_51 : decode cX12_doing 51 = .ok (.getfield 74, 3) := by decide +kernel
theorem dX12_doing_54 : decode cX12_doing 54 = .ok (.iload_n 1, 1) := by decide +kernel
theorem dX12_doing_55 : decode cX12_doing 55 = .ok (.iconst 1, 1) := by decide +kernel
theorem dX12_doing_56 : decode cX12_doing 56 = .ok (.iload_n 2, 1) := by decide +kernel
theorem dX12_doing_57 : decode cX12_doing 57 = .ok (.ishl, 1) := by decide +kernel
theorem dX12_doing_58 : decode cX12_doing 58 = .ok (.ior, 1) := by decide +kernel
theorem dX12_doing_59 : decode cX12_doing 59 = .ok (.iaload, 1) := by decide +kernel
theorem dX12_doing_6 : decode cX12_doing 6 = .ok (.invokevirtual 396, 3) := by decide +kernel
theorem dX12_doing_60 : decode cX12_doing 60 = .ok (.iadd, 1) := by decide +kernel
theorem dX12_doing_61 : decode cX12_doing 61 = .ok (.ireturn, 1) := by decide +kernel
theorem dX12_doing_9 : decode cX12_doing 9 = .ok (.istore_n 3, 1) := by decide +kernel
theorem dX12_town_0 : decode cX12_town 0 = .ok (.aload_n 0, 1) := by decide +kernel
theorem dX12_town_1 : decode cX12_town 1 = .ok (.iconst 0, 1) := by decide +kernel
theorem dX12_town_100 : decode cX12_town 100 = .ok (.iload_n 3, 1) := by decide +kernel
theorem dX12_town_101 : decode cX12_town 101 = .ok (.iload 4, 2) := by decide +kernel
theorem dX12_town_103 : decode cX12_town 103 = .ok (.invokevirtual 400, 3) := by decide +kernel
theorem dX12_town_106 : decode cX12_town 106 = .ok (.istore 5, 2) := by decide +kernel
theorem dX12_town_108 : decode cX12_town 108 = .ok (.aload_n 0, 1) := by decide +kernel
theorem dX12_town_109 : decode cX12_town 109 = .ok (.getfield 74, 3) := by decide +kernel
theorem dX12_town_112 : decode cX12_town 112 = .ok (.iload_n 3, 1) := by decide +kernel
theorem dX12_town_113 : decode cX12_town 113 = .ok (.iaload, 1) := by decide +kernel
theorem dX12_town_114 : decode cX12_town 114 = .ok (.iconst (-1), 1) := by decide +kernel
theorem dX12_town_115 : decode cX12_town 115 = .ok (.if_icmp .eq 14, 3) := by decide +kernel
theorem dX12_town_118 : decode cX12_town 118 = .ok (.iload 5, 2) := by decide +kernel
theorem dX12_town_12 : decode cX12_town 12 = .ok (.iconst 1, 1) := by decide +kernel
theorem dX12_town_120 : decode cX12_town 120 = .ok (.aload_n 0, 1) := by decide +kernel
theorem dX12_town_121 : decode cX12_town 121 = .ok (.getfield 74, 3) := by decide +kernel
theorem dX12_town_124 : decode cX12_town 124 = .ok (.iload_n 3, 1) := by decide +kernel
theorem dX12_town_125 : decode cX12_town 125 = .ok (.iaload, 1) := by decide +kernel
theorem dX12_town_126 : decode cX12_town 126 = .ok (.if_icmp .ge 11, 3) := by decide +kernel
theorem dX12_town_129 : decode cX12_town 129 = .ok (.aload_n 0, 1) := by decide +kernel
theorem dX12_town_13 : decode cX12_town 13 = .ok (.iconst 2, 1) := by decide +kernel
theorem dX12_town_130 : decode cX12_town 130 = .ok (.getfield 74, 3) := by decide +kernel
theorem dX12_town_133 : decode cX12_town 133 = .ok (.iload_n 3, 1) := by decide +kernel
theorem dX12_town_134 : decode cX12_town 134 = .ok (.iload 5, 2) := by decide +kernel
theorem dX12_town_136 : decode cX12_town 136 = .ok (.iastore, 1) := by decide +kernel
theorem dX12_town_137 : decode cX12_town 137 = .ok (.iinc 4 1, 3) := by decide +kernel
theorem dX12_town_14 : decode cX12_town 14 = .ok (.invokevirtual 175, 3) := by decide +kernel
theorem dX12_town_140 : decode cX12_town 140 = .ok (.goto (-67), 3) := by decide +kernel
theorem dX12_town_143 : decode cX12_town 143 = .ok (.iinc 3 (-1), 3) := by decide +kernel
theorem dX12_town_146 : decode cX12_town 146 = .ok (.goto (-87), 3) := by decide +kernel
theorem dX12_town_149 : decode cX12_town 149 = .ok (.iload_n 1, 1) := by decide +kernel
theorem dX12_town_150 : decode cX12_town 150 = .ok (.iconst 2, 1) := by decide +kernel
theorem dX12_town_151 : decode cX12_town 151 = .ok (.if_icmp .ge 31, 3) := by decide +kernel
theorem dX12_town_154 : decode cX12_town 154 = .ok (.iload_n 1, 1) := by decide +kernel
theorem dX12_town_155 : decode cX12_town 155 = .ok (.ifCond .ne 16, 3) := by decide +kernel
theorem dX12_town_158 : decode cX12_town 158 = .ok (.aload_n 0, 1) := by decide +kernel
theorem dX12_town_159 : decode cX12_town 159 = .ok (.getfield 74, 3) := by decide +kernel
theorem dX12_town_162 : decode cX12_town 162 = .ok (.iconst 0, 1) := by decide +kernel
theorem dX12_town_163 : decode cX12_town 163 = .ok (.iaload, 1) := by decide +kernel
theorem dX12_town_164 : decode cX12_town 164 = .ok (.ldc_w 399, 3) := by decide +kernel
theorem dX12_town_167 : decode cX12_town 167 = .ok (.idiv, 1) := by decide +kernel
theorem dX12_town_168 : decode cX12_town 168 = .ok (.goto 13, 3) := by decide +kernel
theorem dX12_town_17 : decode cX12_town 17 = .ok (.ifCond .ne 5, 3) := by decide +kernel
theorem dX12_town_171 : decode cX12_town 171 = .ok (.aload_n 0, 1) := by decide +kernel
theorem dX12_town_172 : decode cX12_town 172 = .ok (.getfield 74, 3) := by decide +kernel
theorem dX12_town_175 : decode cX12_town 175 = .ok (.iconst 0, 1) := by decide +kernel
theorem dX12_town_176 : decode cX12_town 176 = .ok (.iaload, 1) := by decide +kernel
theorem dX12_town_177 : decode cX12_town 177 = .ok (.ldc_w 399, 3) := by decide +kernel
theorem dX12_town_180 : decode cX12_town 180 = .ok (.irem, 1) := by decide +kernel
theorem dX12_town_181 : decode cX12_town 181 = .ok (.ireturn, 1) := by decide +kernel
theorem dX12_town_182 : decode cX12_town 182 = .ok (.iconst 0, 1) := by decide +kernel
theorem dX12_town_183 : decode cX12_town 183 = .ok (.istore_n 3, 1) := by decide +kernel
theorem dX12_town_184 : decode cX12_town 184 = .ok (.iconst 0, 1) := by decide +kernel
theorem dX12_town_185 : decode cX12_town 185 = .ok (.istore 4, 2) := by decide +kernel
theorem dX12_town_187 : decode cX12_town 187 = .ok (.iload 4, 2) := by decide +kernel
theorem dX12_town_189 : decode cX12_town 189 = .ok (.iload_n 2, 1) := by decide +kernel
theorem dX12_town_190 : decode cX12_town 190 = .ok (.if_icmp .eq 61, 3) := by decide +kernel
theorem dX12_town_193 : decode cX12_town 193 = .ok (.iconst 0, 1) := by decide +kernel
theorem dX12_town_194 : decode cX12_town 194 = .ok (.istore 5, 2) := by decide +kernel
theorem dX12_town_196 : decode cX12_town 196 = .ok (.iload 4, 2) := by decide +kernel
theorem dX12_town_198 : decode cX12_town 198 = .ok (.iload 5, 2) := by decide +kernel
theorem dX12_town_2 : decode cX12_town 2 = .ok (.putfield 1, 3) := by decide +kernel
theorem dX12_town_20 : decode cX12_town 20 = .ok (.iconst 0, 1) := by decide +kernel
theorem dX12_town_200 : decode cX12_town 200 = .ok (.ishr, 1) := by decide +kernel
theorem dX12_town_201 : decode cX12_town 201 = .ok (.iconst 1, 1) := by decide +kernel
theorem dX12_town_202 : decode cX12_town 202 = .ok (.iand, 1) := by decide +kernel
theorem dX12_town_203 : decode cX12_town 203 = .ok (.iconst 1, 1) := by decide +kernel
theorem dX12_town_204 : decode cX12_town 204 = .ok (.if_icmp .eq 21, 3) := by decide +kernel
theorem dX12_town_207 : decode cX12_town 207 = .ok (.aload_n 0, 1) := by decide +kernel
theorem dX12_town_208 : decode cX12_town 208 = .ok (.iload 4, 2) := by decide +kernel
theorem dX12_town_21 : decode cX12_town 21 = .ok (.ireturn, 1) := by decide +kernel
theorem dX12_town_210 : decode cX12_town 210 = .ok (.iload 5, 2) := by decide +kernel
theorem dX12_town_212 : decode cX12_town 212 = .ok (.invokevirtual 400, 3) := by decide +kernel
theorem dX12_town_215 : decode cX12_town 215 = .ok (.aload_n 0, 1) := by decide +kernel
theorem dX12_town_216 : decode cX12_town 216 = .ok (.getfield 74, 3) := by decide +kernel
theorem dX12_town_219 : decode cX12_town 219 = .ok (.iload 4, 2) := by decide +kernel
theorem dX12_town_22 : decode cX12_town 22 = .ok (.aload_n 0, 1) := by decide +kernel
theorem dX12_town_221 : decode cX12_town 221 = .ok (.iaload, 1) := by decide +kernel
theorem dX12_town_222 : decode cX12_town 222 = .ok (.if_icmp .eq 9, 3) := by decide +kernel
theorem dX12_town_225 : decode cX12_town 225 = .ok (.iinc 5 1, 3) := by decide +kernel
theorem dX12_town_228 : decode cX12_town 228 = .ok (.goto (-32), 3) := by decide +kernel
theorem dX12_town_23 : decode cX12_town 23 = .ok (.getfield 29, 3) := by decide +kernel
theorem dX12_town_231 : decode cX12_town 231 = .ok (.bipush 10, 2) := by decide +kernel
theorem dX12_town_233 : decode cX12_town 233 = .ok (.iload_n 3, 1) := by decide +kernel
theorem dX12_town_234 : decode cX12_town 234 = .ok (.imul, 1) := by decide +kernel
theorem dX12_town_235 : decode cX12_town 235 = .ok (.iload 5, 2) := by decide +kernel
theorem dX12_town_237 : decode cX12_town 237 = .ok (.iadd, 1) := by decide +kernel
theorem dX12_town_238 : decode cX12_town 238 = .ok (.istore_n 3, 1) := by decide +kernel
theorem dX12_town_239 : decode cX12_town 239 = .ok (.iload 4, 2) := by decide +kernel
theorem dX12_town_241 : decode cX12_town 241 = .ok (.iconst 1, 1) := by decide +kernel
theorem dX12_town_242 : decode cX12_town 242 = .ok (.iload 5, 2) := by decide +kernel
theorem dX12_town_244 : decode cX12_town 244 = .ok (.ishl, 1) := by decide +kernel
theorem dX12_town_245 : decode cX12_town 245 = .ok (.ior, 1) := by decide +kernel
theorem dX12_town_246 : decode cX12_town 246 = .ok (.istore 4, 2) := by decide +kernel
theorem dX12_town_248 : decode cX12_town 248 = .ok (.goto (-61), 3) := by decide +kernel
theorem dX12_town_251 : decode cX12_town 251 = .ok (.iload_n 3, 1) := by decide +kernel
theorem dX12_town_252 : decode cX12_town 252 = .ok (.ireturn, 1) := by decide +kernel
theorem dX12_town_26 : decode cX12_town 26 = .ok (.sipush 357, 3) := by decide +kernel
theorem dX12_town_29 : decode cX12_town 29 = .ok (.iaload, 1) := by decide +kernel
theorem dX12_town_30 : decode cX12_town 30 = .ok (.ifCond .ne 5, 3) := by decide +kernel
theorem dX12_town_33 : decode cX12_town 33 = .ok (.iconst (-1), 1) := by decide +kernel
theorem dX12_town_34 : decode cX12_town 34 = .ok (.ireturn, 1) := by decide +kernel
theorem dX12_town_35 : decode cX12_town 35 = .ok (.iconst 1, 1) := by decide +kernel
theorem dX12_town_36 : decode cX12_town 36 = .ok (.aload_n 0, 1) := by decide +kernel
theorem dX12_town_37 : decode cX12_town 37 = .ok (.getfield 29, 3) := by decide +kernel
theorem dX12_town_40 : decode cX12_town 40 = .ok (.sipush 357, 3) := by decide +kernel
theorem dX12_town_43 : decode cX12_town 43 = .ok (.iaload, 1) := by decide +kernel
theorem dX12_town_44 : decode cX12_town 44 = .ok (.ishl, 1) := by decide +kernel
theorem dX12_town_45 : decode cX12_town 45 = .ok (.iconst 1, 1) := by decide +kernel
theorem dX12_town_46 : decode cX12_town 46 = .ok (.isub, 1) := by decide +kernel
theorem dX12_town_47 : decode cX12_town 47 = .ok (.istore_n 2, 1) := by decide +kernel
theorem dX12_town_48 : decode cX12_town 48 = .ok (.aload_n 0, 1) := by decide +kernel
theorem dX12_town_49 : decode cX12_town 49 = .ok (.getfield 74, 3) := by decide +kernel
theorem dX12_town_5 : decode cX12_town 5 = .ok (.aload_n 0, 1) := by decide +kernel
theorem dX12_town_52 : decode cX12_town 52 = .ok (.iload_n 2, 1) := by decide +kernel
theorem dX12_town_53 : decode cX12_town 53 = .ok (.iconst 0, 1) := by decide +kernel
theorem dX12_town_54 : decode cX12_town 54 = .ok (.iastore, 1) := by decide +kernel
theorem dX12_town_55 : decode cX12_town 55 = .ok (.iload_n 2, 1) := by decide +kernel
theorem dX12_town_56 : decode cX12_town 56 = .ok (.iconst 1, 1) := by decide +kernel
theorem dX12_town_57 : decode cX12_town 57 = .ok (.isub, 1) := by decide +kernel
theorem dX12_town_58 : decode cX12_town 58 = .ok (.istore_n 3, 1) := by decide +kernel
theorem dX12_town_59 : decode cX12_town 59 = .ok (.iload_n 3, 1) := by decide +kernel
theorem dX12_town_6 : decode cX12_town 6 = .ok (.iload_n 1, 1) := by decide +kernel
theorem dX12_town_60 : decode cX12_town 60 = .ok (.ifCond .lt 89, 3) := by decide +kernel
theorem dX12_town_63 : decode cX12_town 63 = .ok (.aload_n 0, 1) := by decide +kernel
theorem dX12_town_64 : decode cX12_town 64 = .ok (.getfield 74, 3) := by decide +kernel
theorem dX12_town_67 : decode cX12_town 67 = .ok (.iload_n 3, 1) := by decide +kernel
theorem dX12_town_68 : decode cX12_town 68 = .ok (.iconst (-1), 1) := by decide +kernel
theorem dX12_town_69 : decode cX12_town 69 = .ok (.iastore, 1) := by decide +kernel
theorem dX12_town_7 : decode cX12_town 7 = .ok (.iconst 0, 1) := by decide +kernel
theorem dX12_town_70 : decode cX12_town 70 = .ok (.iconst 0, 1) := by decide +kernel
theorem dX12_town_71 : decode cX12_town 71 = .ok (.istore 4, 2) := by decide +kernel
theorem dX12_town_73 : decode cX12_town 73 = .ok (.iload 4, 2) := by decide +kernel
theorem dX12_town_75 : decode cX12_town 75 = .ok (.aload_n 0, 1) := by decide +kernel
theorem dX12_town_76 : decode cX12_town 76 = .ok (.getfield 29, 3) := by decide +kernel
theorem dX12_town_79 : decode cX12_town 79 = .ok (.sipush 357, 3) := by decide +kernel
theorem dX12_town_8 : decode cX12_town 8 = .ok (.iconst 2, 1) := by decide +kernel
theorem dX12_town_82 : decode cX12_town 82 = .ok (.iaload, 1) := by decide +kernel
theorem dX12_town_83 : decode cX12_town 83 = .ok (.if_icmp .ge 60, 3) := by decide +kernel
theorem dX12_town_86 : decode cX12_town 86 = .ok (.iload_n 3, 1) := by decide +kernel
theorem dX12_town_87 : decode cX12_town 87 = .ok (.iload 4, 2) := by decide +kernel
theorem dX12_town_89 : decode cX12_town 89 = .ok (.ishr, 1) := by decide +kernel
theorem dX12_town_9 : decode cX12_town 9 = .ok (.invokestatic 279, 3) := by decide +kernel
theorem dX12_town_90 : decode cX12_town 90 = .ok (.iconst 1, 1) := by decide +kernel
theorem dX12_town_91 : decode cX12_town 91 = .ok (.iand, 1) := by decide +kernel
theorem dX12_town_92 : decode cX12_town 92 = .ok (.iconst 1, 1) := by decide +kernel
theorem dX12_town_93 : decode cX12_town 93 = .ok (.if_icmp .ne 6, 3) := by decide +kernel
theorem dX12_town_96 : decode cX12_town 96 = .ok (.goto 41, 3) := by decide +kernel
theorem dX12_town_99 : decode cX12_town 99 = .ok (.aload_n 0, 1) := by decide +kernel