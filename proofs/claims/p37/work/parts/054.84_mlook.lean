theorem dX12_kindsOf_0 : decode cX12_kindsOf 0 = .ok (.iconst 0, 1) := by decide +kernel
theorem dX12_kindsOf_1 : decode cX12_kindsOf 1 = .ok (.istore_n 2, 1) := by decide +kernel
theorem dX12_kindsOf_12 : decode cX12_kindsOf 12 = .ok (.iconst 1, 1) := by decide +kernel
theorem dX12_kindsOf_13 : decode cX12_kindsOf 13 = .ok (.istore 4, 2) := by decide +kernel
theorem dX12_kindsOf_15 : decode cX12_kindsOf 15 = .ok (.iconst 0, 1) := by decide +kernel
theorem dX12_kindsOf_16 : decode cX12_kindsOf 16 = .ok (.istore 5, 2) := by decide +kernel
theorem dX12_kindsOf_18 : decode cX12_kindsOf 18 = .ok (.iload 5, 2) := by decide +kernel
theorem dX12_kindsOf_2 : decode cX12_kindsOf 2 = .ok (.iconst 0, 1) := by decide +kernel
theorem dX12_kindsOf_20 : decode cX12_kindsOf 20 = .ok (.iload_n 3, 1) := by decide +kernel
theorem dX12_kindsOf_21 : decode cX12_kindsOf 21 = .ok (.if_icmp .ge 47, 3) := by decide +kernel
theorem dX12_kindsOf_24 : decode cX12_kindsOf 24 = .ok (.iload 4, 2) := by decide +kernel
theorem dX12_kindsOf_26 : decode cX12_kindsOf 26 = .ok (.ifCond .eq 33, 3) := by decide +kernel
theorem dX12_kindsOf_29 : decode cX12_kindsOf 29 = .ok (.aload_n 0, 1) := by decide +kernel
theorem dX12_kindsOf_3 : decode cX12_kindsOf 3 = .ok (.istore_n 3, 1) := by decide +kernel
theorem dX12_kindsOf_30 : decode cX12_kindsOf 30 = .ok (.getfield 68, 3) := by decide +kernel
theorem dX12_kindsOf_33 : decode cX12_kindsOf 33 = .ok (.bipush 96, 2) := by decide +kernel
theorem dX12_kindsOf_35 : decode cX12_kindsOf 35 = .ok (.iload 5, 2) := by decide +kernel
theorem dX12_kindsOf_37 : decode cX12_kindsOf 37 = .ok (.imul, 1) := by decide +kernel
theorem dX12_kindsOf_38 : decode cX12_kindsOf 38 = .ok (.iload_n 1, 1) := by decide +kernel
theorem dX12_kindsOf_39 : decode cX12_kindsOf 39 = .ok (.iadd, 1) := by decide +kernel
theorem dX12_kindsOf_4 : decode cX12_kindsOf 4 = .ok (.iload_n 3, 1) := by decide +kernel
theorem dX12_kindsOf_40 : decode cX12_kindsOf 40 = .ok (.iaload, 1) := by decide +kernel
theorem dX12_kindsOf_41 : decode cX12_kindsOf 41 = .ok (.aload_n 0, 1) := by decide +kernel
theorem dX12_kindsOf_42 : decode cX12_kindsOf 42 = .ok (.getfield 68, 3) := by decide +kernel
theorem dX12_kindsOf_45 : decode cX12_kindsOf 45 = .ok (.bipush 96, 2) := by decide +kernel
theorem dX12_kindsOf_47 : decode cX12_kindsOf 47 = .ok (.iload_n 3, 1) := by decide +kernel
theorem dX12_kindsOf_48 : decode cX12_kindsOf 48 = .ok (.imul, 1) := by decide +kernel
theorem dX12_kindsOf_49 : decode cX12_kindsOf 49 = .ok (.iload_n 1, 1) := by decide +kernel
theorem dX12_kindsOf_5 : decode cX12_kindsOf 5 = .ok (.aload_n 0, 1) := by decide +kernel
theorem dX12_kindsOf_50 : decode cX12_kindsOf 50 = .ok (.iadd, 1) := by decide +kernel
theorem dX12_kindsOf_51 : decode cX12_kindsOf 51 = .ok (.iaload, 1) := by decide +kernel
theorem dX12_kindsOf_52 : decode cX12_kindsOf 52 = .ok (.if_icmp .eq 7, 3) := by decide +kernel
theorem dX12_kindsOf_55 : decode cX12_kindsOf 55 = .ok (.iconst 1, 1) := by decide +kernel
theorem dX12_kindsOf_56 : decode cX12_kindsOf 56 = .ok (.goto 4, 3) := by decide +kernel
theorem dX12_kindsOf_59 : decode cX12_kindsOf 59 = .ok (.iconst 0, 1) := by decide +kernel
theorem dX12_kindsOf_6 : decode cX12_kindsOf 6 = .ok (.invokevirtual 283, 3) := by decide +kernel
theorem dX12_kindsOf_60 : decode cX12_kindsOf 60 = .ok (.istore 4, 2) := by decide +kernel
theorem dX12_kindsOf_62 : decode cX12_kindsOf 62 = .ok (.iinc 5 1, 3) := by decide +kernel
theorem dX12_kindsOf_65 : decode cX12_kindsOf 65 = .ok (.goto (-47), 3) := by decide +kernel
theorem dX12_kindsOf_68 : decode cX12_kindsOf 68 = .ok (.iload_n 2, 1) := by decide +kernel
theorem dX12_kindsOf_69 : decode cX12_kindsOf 69 = .ok (.iload 4, 2) := by decide +kernel
theorem dX12_kindsOf_71 : decode cX12_kindsOf 71 = .ok (.ifCond .eq 7, 3) := by decide +kernel
theorem dX12_kindsOf_74 : decode cX12_kindsOf 74 = .ok (.iconst 1, 1) := by decide +kernel
theorem dX12_kindsOf_75 : decode cX12_kindsOf 75 = .ok (.goto 4, 3) := by decide +kernel
theorem dX12_kindsOf_78 : decode cX12_kindsOf 78 = .ok (.iconst 0, 1) := by decide +kernel
theorem dX12_kindsOf_79 : decode cX12_kindsOf 79 = .ok (.iadd, 1) := by decide +kernel
theorem dX12_kindsOf_80 : decode cX12_kindsOf 80 = .ok (.istore_n 2, 1) := by decide +kernel
theorem dX12_kindsOf_81 : decode cX12_kindsOf 81 = .ok (.iinc 3 1, 3) := by decide +kernel
theorem dX12_kindsOf_84 : decode cX12_kindsOf 84 = .ok (.goto (-80), 3) := by decide +kernel
theorem dX12_kindsOf_87 : decode cX12_kindsOf 87 = .ok (.iload_n 2, 1) := by decide +kernel
theorem dX12_kindsOf_88 : decode cX12_kindsOf 88 = .ok (.ireturn, 1) := by decide +kernel
theorem dX12_kindsOf_9 : decode cX12_kindsOf 9 = .ok (.if_icmp .ge 78, 3) := by decide +kernel
theorem dX12_look_0 : decode cX12_look 0 = .ok (.aload_n 0, 1) := by decide +kernel
theorem dX12_look_1 : decode cX12_look 1 = .ok (.iconst 0, 1) := by decide +kernel
theorem dX12_look_102 : decode cX12_look 102 = .ok (.aload_n 0, 1) := by decide +kernel
theorem dX12_look_103 : decode cX12_look 103 = .ok (.invokevirtual 387, 3) := by decide +kernel
theorem dX12_look_106 : decode cX12_look 106 = .ok (.iinc 3 1, 3) := by decide +kernel
theorem dX12_look_109 : decode cX12_look 109 = .ok (.goto (-64), 3) := by decide +kernel
theorem dX12_look_11 : decode cX12_look 11 = .ok (.ifCond .eq 26, 3) := by decide +kernel
theorem dX12_look_112 : decode cX12_look 112 = .ok (.aload_n 0, 1) := by decide +kernel
theorem dX12_look_113 : decode cX12_look 113 = .ok (.iconst (-1), 1) := by decide +kernel
theorem dX12_look_114 : decode cX12_look 114 = .ok (.putfield 71, 3) := by decide +kernel
theorem dX12_look_117 : decode cX12_look 117 = .ok (.iconst (-1), 1) := by decide +kernel
theorem dX12_look_118 : decode cX12_look 118 = .ok (.istore_n 3, 1) := by decide +kernel
theorem dX12_look_119 : decode cX12_look 119 = .ok (.iconst 0, 1) := by decide +kernel
theorem dX12_look_120 : decode cX12_look 120 = .ok (.istore 4, 2) := by decide +kernel
theorem dX12_look_122 : decode cX12_look 122 = .ok (.iconst 0, 1) := by decide +kernel
theorem dX12_look_123 : decode cX12_look 123 = .ok (.istore 5, 2) := by decide +kernel
theorem dX12_look_125 : decode cX12_look 125 = .ok (.iload 5, 2) := by decide +kernel
theorem dX12_look_127 : decode cX12_look 127 = .ok (.aload_n 0, 1) := by decide +kernel
theorem dX12_look_128 : decode cX12_look 128 = .ok (.getfield 23, 3) := by decide +kernel
theorem dX12_look_131 : decode cX12_look 131 = .ok (.iconst 0, 1) := by decide +kernel
theorem dX12_look_132 : decode cX12_look 132 = .ok (.iaload, 1) := by decide +kernel
theorem dX12_look_133 : decode cX12_look 133 = .ok (.if_icmp .ge 77, 3) := by decide +kernel
theorem dX12_look_136 : decode cX12_look 136 = .ok (.aload_n 0, 1) := by decide +kernel
theorem dX12_look_137 : decode cX12_look 137 = .ok (.invokevirtual 283, 3) := by decide +kernel
theorem dX12_look_14 : decode cX12_look 14 = .ok (.aload_n 0, 1) := by decide +kernel
theorem dX12_look_140 : decode cX12_look 140 = .ok (.ifCond .le 70, 3) := by decide +kernel
theorem dX12_look_143 : decode cX12_look 143 = .ok (.iconst 0, 1) := by decide +kernel
theorem dX12_look_144 : decode cX12_look 144 = .ok (.istore 6, 2) := by decide +kernel
theorem dX12_look_146 : decode cX12_look 146 = .ok (.iload 6, 2) := by decide +kernel
theorem dX12_look_148 : decode cX12_look 148 = .ok (.aload_n 0, 1) := by decide +kernel
theorem dX12_look_149 : decode cX12_look 149 = .ok (.getfield 23, 3) := by decide +kernel
theorem dX12_look_15 : decode cX12_look 15 = .ok (.iload_n 2, 1) := by decide +kernel
theorem dX12_look_152 : decode cX12_look 152 = .ok (.iconst 1, 1) := by decide +kernel
theorem dX12_look_153 : decode cX12_look 153 = .ok (.iaload, 1) := by decide +kernel
theorem dX12_look_154 : decode cX12_look 154 = .ok (.if_icmp .ge 50, 3) := by decide +kernel
theorem dX12_look_157 : decode cX12_look 157 = .ok (.aload_n 0, 1) := by decide +kernel
theorem dX12_look_158 : decode cX12_look 158 = .ok (.iload 5, 2) := by decide +kernel
theorem dX12_look_16 : decode cX12_look 16 = .ok (.iconst 0, 1) := by decide +kernel
theorem dX12_look_160 : decode cX12_look 160 = .ok (.iload 6, 2) := by decide +kernel
theorem dX12_look_162 : decode cX12_look 162 = .ok (.invokestatic 289, 3) := by decide +kernel
theorem dX12_look_165 : decode cX12_look 165 = .ok (.invokevirtual 390, 3) := by decide +kernel
theorem dX12_look_168 : decode cX12_look 168 = .ok (.istore 7, 2) := by decide +kernel
theorem dX12_look_17 : decode cX12_look 17 = .ok (.iconst 1, 1) := by decide +kernel
theorem dX12_look_170 : decode cX12_look 170 = .ok (.iload_n 3, 1) := by decide +kernel
theorem dX12_look_171 : decode cX12_look 171 = .ok (.iconst (-1), 1) := by decide +kernel
theorem dX12_look_172 : decode cX12_look 172 = .ok (.if_icmp .eq 13, 3) := by decide +kernel
theorem dX12_look_175 : decode cX12_look 175 = .ok (.iload 7, 2) := by decide +kernel
theorem dX12_look_177 : decode cX12_look 177 = .ok (.iload 4, 2) := by decide +kernel
theorem dX12_look_179 : decode cX12_look 179 = .ok (.if_icmp .gt 6, 3) := by decide +kernel
theorem dX12_look_18 : decode cX12_look 18 = .ok (.invokestatic 279, 3) := by decide +kernel
theorem dX12_look_182 : decode cX12_look 182 = .ok (.goto 16, 3) := by decide +kernel
theorem dX12_look_185 : decode cX12_look 185 = .ok (.bipush 100, 2) := by decide +kernel
theorem dX12_look_187 : decode cX12_look 187 = .ok (.iload 5, 2) := by decide +kernel
theorem dX12_look_189 : decode cX12_look 189 = .ok (.imul, 1) := by decide +kernel
theorem dX12_look_190 : decode cX12_look 190 = .ok (.iload 6, 2) := by decide +kernel
theorem dX12_look_192 : decode cX12_look 192 = .ok (.iadd, 1) := by decide +kernel
theorem dX12_look_193 : decode cX12_look 193 = .ok (.istore_n 3, 1) := by decide +kernel
theorem dX12_look_194 : decode cX12_look 194 = .ok (.iload 7, 2) := by decide +kernel
theorem dX12_look_196 : decode cX12_look 196 = .ok (.istore 4, 2) := by decide +kernel
theorem dX12_look_198 : decode cX12_look 198 = .ok (.iinc 6 1, 3) := by decide +kernel
theorem dX12_look_2 : decode cX12_look 2 = .ok (.putfield 1, 3) := by decide +kernel
theorem dX12_look_201 : decode cX12_look 201 = .ok (.goto (-55), 3) := by decide +kernel
theorem dX12_look_204 : decode cX12_look 204 = .ok (.iinc 5 1, 3) := by decide +kernel
theorem dX12_look_207 : decode cX12_look 207 = .ok (.goto (-82), 3) := by decide +kernel
theorem dX12_look_21 : decode cX12_look 21 = .ok (.iconst 2, 1) := by decide +kernel
theorem dX12_look_210 : decode cX12_look 210 = .ok (.iload_n 3, 1) := by decide +kernel
theorem dX12_look_211 : decode cX12_look 211 = .ok (.iconst (-1), 1) := by decide +kernel
theorem dX12_look_212 : decode cX12_look 212 = .ok (.if_icmp .ne 7, 3) := by decide +kernel
theorem dX12_look_215 : decode cX12_look 215 = .ok (.iconst (-1), 1) := by decide +kernel
theorem dX12_look_216 : decode cX12_look 216 = .ok (.goto 13, 3) := by decide +kernel
theorem dX12_look_219 : decode cX12_look 219 = .ok (.iload_n 2, 1) := by decide +kernel
theorem dX12_look_22 : decode cX12_look 22 = .ok (.iconst 2, 1) := by decide +kernel
theorem dX12_look_220 : decode cX12_look 220 = .ok (.ifCond .ne 7, 3) := by decide +kernel
theorem dX12_look_223 : decode cX12_look 223 = .ok (.iload_n 3, 1) := by decide +kernel
theorem dX12_look_224 : decode cX12_look 224 = .ok (.goto 5, 3) := by decide +kernel
theorem dX12_look_227 : decode cX12_look 227 = .ok (.iload 4, 2) := by decide +kernel
theorem dX12_look_229 : decode cX12_look 229 = .ok (.ireturn, 1) := by decide +kernel
theorem dX12_look_23 : decode cX12_look 23 = .ok (.invokevirtual 175, 3) := by decide +kernel
theorem dX12_look_26 : decode cX12_look 26 = .ok (.ifCond .eq 11, 3) := by decide +kernel
theorem dX12_look_29 : decode cX12_look 29 = .ok (.aload_n 0, 1) := by decide +kernel
theorem dX12_look_30 : decode cX12_look 30 = .ok (.iconst 3, 1) := by decide +kernel
theorem dX12_look_31 : decode cX12_look 31 = .ok (.invokevirtual 312, 3) := by decide +kernel
theorem dX12_look_34 : decode cX12_look 34 = .ok (.ifCond .ne 5, 3) := by decide +kernel
theorem dX12_look_37 : decode cX12_look 37 = .ok (.iconst 0, 1) := by decide +kernel
theorem dX12_look_38 : decode cX12_look 38 = .ok (.ireturn, 1) := by decide +kernel
theorem dX12_look_39 : decode cX12_look 39 = .ok (.aload_n 0, 1) := by decide +kernel
theorem dX12_look_40 : decode cX12_look 40 = .ok (.invokevirtual 381, 3) := by decide +kernel
theorem dX12_look_43 : decode cX12_look 43 = .ok (.iconst 0, 1) := by decide +kernel
theorem dX12_look_44 : decode cX12_look 44 = .ok (.istore_n 3, 1) := by decide +kernel
theorem dX12_look_45 : decode cX12_look 45 = .ok (.iload_n 3, 1) := by decide +kernel
theorem dX12_look_46 : decode cX12_look 46 = .ok (.aload_n 0, 1) := by decide +kernel
theorem dX12_look_47 : decode cX12_look 47 = .ok (.invokevirtual 283, 3) := by decide +kernel
theorem dX12_look_5 : decode cX12_look 5 = .ok (.aload_n 0, 1) := by decide +kernel
theorem dX12_look_50 : decode cX12_look 50 = .ok (.if_icmp .ge 62, 3) := by decide +kernel
theorem dX12_look_53 : decode cX12_look 53 = .ok (.aload_n 0, 1) := by decide +kernel
theorem dX12_look_54 : decode cX12_look 54 = .ok (.iload_n 3, 1) := by decide +kernel
theorem dX12_look_55 : decode cX12_look 55 = .ok (.putfield 71, 3) := by decide +kernel
theorem dX12_look_58 : decode cX12_look 58 = .ok (.aload_n 0, 1) := by decide +kernel
theorem dX12_look_59 : decode cX12_look 59 = .ok (.iload_n 1, 1) := by decide +kernel
theorem dX12_look_6 : decode cX12_look 6 = .ok (.iload_n 1, 1) := by decide +kernel
theorem dX12_look_60 : decode cX12_look 60 = .ok (.invokevirtual 328, 3) := by decide +kernel
theorem dX12_look_63 : decode cX12_look 63 = .ok (.pop, 1) := by decide +kernel
theorem dX12_look_64 : decode cX12_look 64 = .ok (.iconst 0, 1) := by decide +kernel
theorem dX12_look_65 : decode cX12_look 65 = .ok (.istore 4, 2) := by decide +kernel
theorem dX12_look_67 : decode cX12_look 67 = .ok (.iload 4, 2) := by decide +kernel
theorem dX12_look_69 : decode cX12_look 69 = .ok (.bipush 96, 2) := by decide +kernel
theorem dX12_look_7 : decode cX12_look 7 = .ok (.iconst 1, 1) := by decide +kernel
theorem dX12_look_71 : decode cX12_look 71 = .ok (.if_icmp .ge 31, 3) := by decide +kernel
theorem dX12_look_74 : decode cX12_look 74 = .ok (.aload_n 0, 1) := by decide +kernel
theorem dX12_look_75 : decode cX12_look 75 = .ok (.getfield 68, 3) := by decide +kernel
theorem dX12_look_78 : decode cX12_look 78 = .ok (.bipush 96, 2) := by decide +kernel
theorem dX12_look_8 : decode cX12_look 8 = .ok (.invokevirtual 324, 3) := by decide +kernel
theorem dX12_look_80 : decode cX12_look 80 = .ok (.iload_n 3, 1) := by decide +kernel
theorem dX12_look_81 : decode cX12_look 81 = .ok (.imul, 1) := by decide +kernel
theorem dX12_look_82 : decode cX12_look 82 = .ok (.iload 4, 2) := by decide +kernel
theorem dX12_look_84 : decode cX12_look 84 = .ok (.iadd, 1) := by decide +kernel
theorem dX12_look_85 : decode cX12_look 85 = .ok (.aload_n 0, 1) := by decide +kernel
theorem dX12_look_86 : decode cX12_look 86 = .ok (.getfield 29, 3) := by decide +kernel
theorem dX12_look_89 : decode cX12_look 89 = .ok (.bipush 96, 2) := by decide +kernel
theorem dX12_look_91 : decode cX12_look 91 = .ok (.iload 4, 2) := by decide +kernel
theorem dX12_look_93 : decode cX12_look 93 = .ok (.iadd, 1) := by decide +kernel
theorem dX12_look_94 : decode cX12_look 94 = .ok (.iaload, 1) := by decide +kernel
theorem dX12_look_95 : decode cX12_look 95 = .ok (.iastore, 1) := by decide +kernel
theorem dX12_look_96 : decode cX12_look 96 = .ok (.iinc 4 1, 3) := by decide +kernel
theorem dX12_look_99 : decode cX12_look 99 = .ok (.goto (-32), 3) := by decide +kernel
theorem dX12_pace_0 : decode cX12_pace 0 = .ok (.aload_n 0, 1) := by decide +kernel
theorem dX12_pace_1 : decode cX12_pace 1 = .ok (.iconst 0, 1) := by decide +kernel
theorem dX12_pace_100 : decode cX12_pace 100 = .ok (.iinc 5 (-1), 3) := by decide +kernel
theorem dX12_pace_103 : decode cX12_pace 103 = .ok (.goto (-34), 3) := by decide +kernel
theorem dX12_pace_106 : decode cX12_pace 106 = .ok (.iconst (-1), 1) := by decide +kernel
theorem dX12_pace_107 : decode cX12_pace 107 = .ok (.ireturn, 1) := by decide +kernel
theorem dX12_pace_11 : decode cX12_pace 11 = .ok (.ifCond .eq 48, 3) := by decide +kernel
theorem dX12_pace_14 : decode cX12_pace 14 = .ok (.aload_n 0, 1) := by decide +kernel
theorem dX12_pace_15 : decode cX12_pace 15 = .ok (.aload_n 0, 1) := by decide +kernel
theorem dX12_pace_16 : decode cX12_pace 16 = .ok (.iload_n 2, 1) := by decide +kernel
theorem dX12_pace_17 : decode cX12_pace 17 = .ok (.iconst 1, 1) := by decide +kernel
theorem dX12_pace_18 : decode cX12_pace 18 = .ok (.iload_n 3, 1) := by decide +kernel
theorem dX12_pace_19 : decode cX12_pace 19 = .ok (.iconst 0, 1) := by decide +kernel
theorem dX12_pace_2 : decode cX12_pace 2 = .ok (.putfield 1, 3) := by decide +kernel
theorem dX12_pace_20 : decode cX12_pace 20 = .ok (.invokevirtual 367, 3) := by decide +kernel
theorem dX12_pace_23 : decode cX12_pace 23 = .ok (.ifCond .eq 19, 3) := by decide +kernel
theorem dX12_pace_26 : decode cX12_pace 26 = .ok (.iload 4, 2) := by decide +kernel
theorem dX12_pace_28 : decode cX12_pace 28 = .ok (.iconst 0, 1) := by decide +kernel
theorem dX12_pace_29 : decode cX12_pace 29 = .ok (.sipush 9999, 3) := by decide +kernel
theorem dX12_pace_32 : decode cX12_pace 32 = .ok (.invokestatic 279, 3) := by decide +kernel
theorem dX12_pace_35 : decode cX12_pace 35 = .ok (.ifCond .eq 7, 3) := by decide +kernel
theorem dX12_pace_38 : decode cX12_pace 38 = .ok (.iconst 1, 1) := by decide +kernel
theorem dX12_pace_39 : decode cX12_pace 39 = .ok (.goto 4, 3) := by decide +kernel
theorem dX12_pace_42 : decode cX12_pace 42 = .ok (.iconst 0, 1) := by decide +kernel
theorem dX12_pace_43 : decode cX12_pace 43 = .ok (.iconst 2, 1) := by decide +kernel
theorem dX12_pace_44 : decode cX12_pace 44 = .ok (.iconst 2, 1) := by decide +kernel
theorem dX12_pace_45 : decode cX12_pace 45 = .ok (.invokevirtual 175, 3) := by decide +kernel
theorem dX12_pace_48 : decode cX12_pace 48 = .ok (.ifCond .eq 11, 3) := by decide +kernel
theorem dX12_pace_5 : decode cX12_pace 5 = .ok (.aload_n 0, 1) := by decide +kernel
theorem dX12_pace_51 : decode cX12_pace 51 = .ok (.aload_n 0, 1) := by decide +kernel
theorem dX12_pace_52 : decode cX12_pace 52 = .ok (.iconst 3, 1) := by decide +kernel
theorem dX12_pace_53 : decode cX12_pace 53 = .ok (.invokevirtual 371, 3) := by decide +kernel
theorem dX12_pace_56 : decode cX12_pace 56 = .ok (.ifCond .ne 5, 3) := by decide +kernel
theorem dX12_pace_59 : decode cX12_pace 59 = .ok (.iconst 0, 1) := by decide +kernel
theorem dX12_pace_6 : decode cX12_pace 6 = .ok (.iload_n 1, 1) := by decide +kernel
theorem dX12_pace_60 : decode cX12_pace 60 = .ok (.ireturn, 1) := by decide +kernel
theorem dX12_pace_61 : decode cX12_pace 61 = .ok (.aload_n 0, 1) := by decide +kernel
theorem dX12_pace_62 : decode cX12_pace 62 = .ok (.invokevirtual 381, 3) := by decide +kernel
theorem dX12_pace_65 : decode cX12_pace 65 = .ok (.bipush 60, 2) := by decide +kernel
theorem dX12_pace_67 : decode cX12_pace 67 = .ok (.istore 5, 2) := by decide +kernel
theorem dX12_pace_69 : decode cX12_pace 69 = .ok (.iload 5, 2) := by decide +kernel
theorem dX12_pace_7 : decode cX12_pace 7 = .ok (.iconst 1, 1) := by decide +kernel
theorem dX12_pace_71 : decode cX12_pace 71 = .ok (.ifCond .le 35, 3) := by decide +kernel
theorem dX12_pace_74 : decode cX12_pace 74 = .ok (.aload_n 0, 1) := by decide +kernel
theorem dX12_pace_75 : decode cX12_pace 75 = .ok (.iload_n 1, 1) := by decide +kernel
theorem dX12_pace_76 : decode cX12_pace 76 = .ok (.iload_n 2, 1) := by decide +kernel
theorem dX12_pace_77 : decode cX12_pace 77 = .ok (.iload 5, 2) := by decide +kernel
theorem dX12_pace_79 : decode cX12_pace 79 = .ok (.iload_n 3, 1) := by decide +kernel
theorem dX12_pace_8 : decode cX12_pace 8 = .ok (.invokevirtual 334, 3) := by decide +kernel
theorem dX12_pace_80 : decode cX12_pace 80 = .ok (.iconst 0, 1) := by decide +kernel
theorem dX12_pace_81 : decode cX12_pace 81 = .ok (.invokevirtual 374, 3) := by decide +kernel
theorem dX12_pace_84 : decode cX12_pace 84 = .ok (.istore 6, 2) := by decide +kernel
theorem dX12_pace_86 : decode cX12_pace 86 = .ok (.aload_n 0, 1) := by decide +kernel
theorem dX12_pace_87 : decode cX12_pace 87 = .ok (.invokevirtual 387, 3) := by decide +kernel
theorem dX12_pace_90 : decode cX12_pace 90 = .ok (.iload 6, 2) := by decide +kernel
theorem dX12_pace_92 : decode cX12_pace 92 = .ok (.iload 4, 2) := by decide +kernel
theorem dX12_pace_94 : decode cX12_pace 94 = .ok (.if_icmp .gt 6, 3) := by decide +kernel
theorem dX12_pace_97 : decode cX12_pace 97 = .ok (.iload 5, 2) := by decide +kernel
theorem dX12_pace_99 : decode cX12_pace 99 = .ok (.ireturn, 1) := by decide +kernel
def vs_m_kindsOf : List Cond := .code yX12_kindsOf cX12_kindsOf 6 (some .int) :: (([.fieldLink RX12 68 "KerbSplashModel" "cases" "[I"] : List Cond) ++ ((wsV RX12 283 RX12 yX12_drains vs_m_drains) ++ ((wsX120) ++ ([]))))
theorem gd_m_kindsOf : vs_m_kindsOf.all goodWord = true := gd_C (by decide +kernel) (gd_A (by decide +kernel) (gd_A (gd_V gd_m_drains (by decide +kernel)) (gd_A (by decide +kernel) rfl)))
set_option maxHeartbeats 4000000 in
set_option maxRecDepth 100000 in
theorem m_kindsOf (l : Launch) (hl : l.stackTraces = false) (D : va_G) (cy : Nat → ClassId) (sa : Nat → Nat) (mm m1 m9 m10 m11 m12 m13 m14 m15 m19 m20 m21 m23 m24 m25 m26 m27 m28 m33 m35 : Nat) (th tp sz_ ap bad bk opn fp im nr nl sp_ wtc wcl ir ip shu sfa swr : Int) (f10 f12 f33 : Nat → Int32) (n : Int) (sz : Nat) (hr_th : (-2147483648) ≤ th ∧ th ≤ 2147483647) (hr_tp : 0 ≤ tp ∧ tp ≤ 600) (hr_sz_ : 0 ≤ sz_ ∧ sz_ ≤ 600) (hr_ap : 0 ≤ ap ∧ ap ≤ 602) (hr_bad : (-1) ≤ bad ∧ bad ≤ 602) (hr_bk : 0 ≤ bk ∧ bk ≤ 4) (hr_opn : 0 ≤ opn ∧ opn ≤ 7) (hr_fp : (-2147483648) ≤ fp ∧ fp ≤ 2147483647) (hr_im : 0 ≤ im ∧ im ≤ 3) (hr_nr : 0 ≤ nr ∧ nr ≤ 4) (hr_nl : 0 ≤ nl ∧ nl ≤ 4) (hr_sp_ : 0 ≤ sp_ ∧ sp_ ≤ 602) (hr_wtc : (-2147483648) ≤ wtc ∧ wtc ≤ 2147483647) (hr_wcl : 0 ≤ wcl ∧ wcl ≤ 95) (hr_ir : 0 ≤ ir ∧ ir ≤ 5) (hr_ip : (-2147483648) ≤ ip ∧ ip ≤ 2147483647) (hr_shu : (-2147483648) ≤ shu ∧ shu ≤ 2147483647) (hr_sfa : (-2147483648) ≤ sfa ∧ sfa ≤ 2147483647) (hr_swr : (-2147483648) ≤ swr ∧ swr ≤ 2147483647) (hr_n : 0 ≤ n ∧ n ≤ 95) (hf10 : BI f10) (hf12 : SI 8 f12) : mI9 l yX12_kindsOf vs_m_kindsOf ({ frames := 1, cells := 0, slots := 0, locals := 20 }) D cy sa sz [vR mm, vI n] [zO mm 12 [vI th, vR m1, vI tp, vI sz_, vI ap, vI bad, vI bk, vI opn, vI fp, vR m9, vR m10, vR m11, vR m12, vR m13, vR m14, vR m15, vI im, vI nr, vI nl, vR m19, vR m20, vR m21, vI sp_, vR m23, vR m24, vR m25, vR m26, vR m27, vR m28, vI wtc, vI wcl, vI ir, vI ip, vR m33, vI shu, vR m35, vI sfa, vI swr], zI m10 (cy 0) 68 f10, zI m12 (cy 0) 389 f12, zI m33 (cy 0) 1344 f33] (fun (r : Int32) (u : SV) => r = iI (u.2.1 0) ∧ (0 ≤ u.2.1 0 ∧ u.2.1 0 ≤ 14) ∧ BI f10 ∧ SI 8 f12) (fun u : SV => [zO mm 12 [vI th, vR m1, vI tp, vI sz_, vI ap, vI bad, vI bk, vI opn, vI fp, vR m9, vR m10, vR m11, vR m12, vR m13, vR m14, vR m15, vI im, vI nr, vI nl, vR m19, vR m20, vR m21, vI sp_, vR m23, vR m24, vR m25, vR m26, vR m27, vR m28, vI wtc, vI wcl, vI ir, vI ip, vR m33, vI shu, vR m35, vI sfa, vI swr], zI m10 (cy 0) 68 f10, zI m12 (cy 0) 389 f12, zI m33 (cy 0) 1344 f33]) 0 0 := by
  refine Met.ofW (cc := cX12_kindsOf) (maxL := 6) (ret := (some .int)) (by decide) rfl ?_
  intro p e s m args below meth c s₁ B hml hv
  obtain ⟨rfl, hsz, hP, hG, hD0, hT⟩ := hv
  have hx := B.exec
  have hb := B.bytes
  have hr := B.returns
  have hts := atoms_spec (ws := vs_m_kindsOf) B.pre
  have hown : s.vm.findClass RX12 = some m.cls := findClass_of_methodNamed B.named
  have hlocks := B.notSynchronized
  subst hsz
  have hD := hD0.self (sz := s.heap.size)
  generalize hAe : va_A [zO mm 12 [vI th, vR m1, vI tp, vI sz_, vI ap, vI bad, vI bk, vI opn, vI fp, vR m9, vR m10, vR m11, vR m12, vR m13, vR m14, vR m15, vI im, vI nr, vI nl, vR m19, vR m20, vR m21, vI sp_, vR m23, vR m24, vR m25, vR m26, vR m27, vR m28, vI wtc, vI wcl, vI ir, vI ip, vR m33, vI shu, vR m35, vI sfa, vI swr], zI m10 (cy 0) 68 f10, zI m12 (cy 0) 389 f12, zI m33 (cy 0) 1344 f33] s.heap.size = A at hD hT ⊢
  have hA : ∀ q : Nat, s.heap.size ≤ q → A q := fun q h => by rw [← hAe]; exact Or.inr h
  have hS : va_S A s.heap s.heap [] := va_S.rf
  have hl0 := lv_entry ([vR mm, vI n]) (n := 6) (Nat.le_of_ble_eq_true rfl)
  rw [lg_entry_eq]
  generalize (lg_sl ([vR mm, vI n]) ++ List.replicate (6 - (lg_sl ([vR mm, vI n])).length) Slot.unset).toArray = ls at hl0 ⊢
  have hlv : lv_has ls 6 [(0, vR mm), (1, vI n)] := hl0
  have gg_0 : GoodIn vs_m_kindsOf (wsV RX12 283 RX12 yX12_drains vs_m_drains) := goodIn_sub (fun w h => List.mem_cons_of_mem _ (List.mem_append_right _ (List.mem_append_left _ h))) (gd_V gd_m_drains (by decide +kernel))
  have lf68 := hts (.fieldLink RX12 68 "KerbSplashModel" "cases" "[I") (List.mem_of_getElem? (i := 1) rfl)
  have hi12 : ∀ w ∈ wsX120, w ∈ vs_m_kindsOf := fun w h => List.mem_cons_of_mem _ (List.mem_append_right _ (List.mem_append_right _ (List.mem_append_left _ h)))
  refine lv_iconst (v := iI 0) hx hb dX12_kindsOf_0 (by decide) ?_
  refine lv_istore_n (lv' := [(2, vI 0), (0, vR mm), (1, vI n)]) hx hb dX12_kindsOf_1 rfl hlv (by decide) rfl (fun ls hlv => ?_)
  refine lv_iconst (v := iI 0) hx hb dX12_kindsOf_2 (by decide) ?_
  refine lv_istore_n (lv' := [(3, vI 0), (2, vI 0), (0, vR mm), (1, vI n)]) hx hb dX12_kindsOf_3 rfl hlv (by decide) rfl (fun ls hlv => ?_)
  refine (?_ : ∀ (fu : Nat) (q2 : Int) (q3 : Int) (H : Heap) (locs : List Loc) (ls : Array Slot), 14 - q3 < (fu : Int) → (0 ≤ q2 ∧ q2 ≤ 14) → (0 ≤ q3 ∧ q3 ≤ 14) → (q2 ≤ q3) → va_P D vwCl [zO mm 12 [vI th, vR m1, vI tp, vI sz_, vI ap, vI bad, vI bk, vI opn, vI fp, vR m9, vR m10, vR m11, vR m12, vR m13, vR m14, vR m15, vI im, vI nr, vI nl, vR m19, vR m20, vR m21, vI sp_, vR m23, vR m24, vR m25, vR m26, vR m27, vR m28, vI wtc, vI wcl, vI ir, vI ip, vR m33, vI shu, vR m35, vI sfa, vI swr], zI m10 (cy 0) 68 f10, zI m12 (cy 0) 389 f12, zI m33 (cy 0) 1344 f33] H → va_D A [zO mm 12 [vI th, vR m1, vI tp, vI sz_, vI ap, vI bad, vI bk, vI opn, vI fp, vR m9, vR m10, vR m11, vR m12, vR m13, vR m14, vR m15, vI im, vI nr, vI nl, vR m19, vR m20, vR m21, vI sp_, vR m23, vR m24, vR m25, vR m26, vR m27, vR m28, vI wtc, vI wcl, vI ir, vI ip, vR m33, vI shu, vR m35, vI sfa, vI swr], zI m10 (cy 0) 68 f10, zI m12 (cy 0) 389 f12, zI m33 (cy 0) 1344 f33] → va_S A s.heap H locs → lv_has ls 6 [(3, vI q3), (2, vI q2), (0, vR mm), (1, vI n)] → W p l e _ s m _ below meth c H locs _ _ _ (F0 m 4 ls [])) (((14 - 0) + 1 : Int)).toNat 0 0 _ _ _ (by omega) (by show (0 : Int) ≤ 0 ∧ (0 : Int) ≤ 14; decide) (by show (0 : Int) ≤ 0 ∧ (0 : Int) ≤ 14; decide) (by omega)  hP hD hS hlv
  clear hP hD hS hlv
  intro fu
  induction fu with
  | zero => intro q2 q3 H locs ls hm4 hl4_0 hl4_1 hl4_2  hP hD hS hlv; omega
  | succ fu ih4 =>
    intro q2 q3 H locs ls hm4 hl4_0 hl4_1 hl4_2  hP hD hS hlv
    refine lv_iload_n hx hb dX12_kindsOf_4 rfl (lv_at hlv 0 rfl) ?_
    refine lv_aload_n hx hb dX12_kindsOf_5 rfl (lv_at hlv 2 rfl) ?_
    refine cjr_i [false, false, false, true] (fun pre9 => (va_runV (As := []) (rest := [vI q3]) ⟨hx, hb, hml, hown, hts⟩ (m_drains l hl D cy sa mm m1 m9 m10 m11 m12 m13 m14 m15 m19 m20 m21 m23 m24 m25 m26 m27 m28 m33 m35 th tp sz_ ap bad bk opn fp im nr nl sp_ wtc wcl ir ip shu sfa swr f10 f12 8 H.size (by first | exact hr_th | omega) (by first | exact hr_tp | omega) (by first | exact hr_sz_ | omega) (by first | exact hr_ap | omega) (by first | exact hr_bad | omega) (by first | exact hr_bk | omega) (by first | exact hr_opn | omega) (by first | exact hr_fp | omega) (by first | exact hr_im | omega) (by first | exact hr_nr | omega) (by first | exact hr_nl | omega) (by first | exact hr_sp_ | omega) (by first | exact hr_wtc | omega) (by first | exact hr_wcl | omega) (by first | exact hr_ir | omega) (by first | exact hr_ip | omega) (by first | exact hr_shu | omega) (by first | exact hr_sfa | omega) (by first | exact hr_swr | omega) (by show (8 : Int) ≤ 8 ∧ (8 : Int) ≤ 9; decide) hf10 hf12) (cwV 0 hts gg_0 rfl rfl rfl (by decide +kernel) ⟨Nat.le_of_ble_eq_true rfl, Nat.le_of_ble_eq_true rfl⟩) ⟨pcW.blind, (va_recv hG.1 hP (ci := 12) (q0 := 0) rfl rfl), pre9⟩ rfl rfl hlv.1 rfl (lv_room (Nat.le_of_ble_eq_true rfl)) dX12_kindsOf_6 ⟨Nat.le_of_ble_eq_true rfl, Nat.le_of_ble_eq_true rfl⟩)) hP hD hS hA hG hT [0, 1, 2] rfl (by decide +kernel) (fun r1 u1 H locs hw1 hq9 hS => ?_)
    obtain ⟨rfl, hq1_1, hq1_2, hq1_3, hq1_4⟩ := hw1
    obtain ⟨hP, hD⟩ := pd9 [zI m33 (cy 0) 1344 f33, zO mm 12 [vI th, vR m1, vI tp, vI sz_, vI ap, vI bad, vI bk, vI opn, vI fp, vR m9, vR m10, vR m11, vR m12, vR m13, vR m14, vR m15, vI im, vI nr, vI nl, vR m19, vR m20, vR m21, vI sp_, vR m23, vR m24, vR m25, vR m26, vR m27, vR m28, vI wtc, vI wcl, vI ir, vI ip, vR m33, vI shu, vR m35, vI sfa, vI swr], zI m10 (cy 0) 68 f10, zI m12 (cy 0) 389 f12] hq9
    refine ir_ge (tgt := 87) hx hb dX12_kindsOf_9 (by decide) (by first | exact rgw hl4_1 (by decide) (by decide) | omega) (by first | exact rgw hq1_1 (by decide) (by decide) | omega) (fun c_1 => ?_) (fun c_1 => ?_)
    · refine lv_iload_n hx hb dX12_kindsOf_87 rfl (lv_at hlv 1 rfl) ?_
      refine W.widen (k := 0) (n := 0) (Nat.le_of_ble_eq_true rfl) (Nat.le_of_ble_eq_true rfl) ?_
      exact W.iret (v := iI q2) hx hb hr (fun t ht hW => ⟨⟨iI q2, ((fun k => ([] : List Nat).getD k 0), (fun k => ([q2] : List Int).getD k 0), (fun k => ([] : List (Nat → Int32)).getD k (fun _ => 0))), rfl, ⟨rfl, (by show (0 ≤ q2 ∧ q2 ≤ 14); first | exact hl4_0 | omega), hq1_3, hq1_4⟩, at9 ht hP hD [1, 2, 3, 0] (by decide +kernel) rfl⟩, hS.F ht⟩) hS.2.2 dX12_kindsOf_88
    · refine lv_iconst (v := iI 1) hx hb dX12_kindsOf_12 (by decide) ?_
      refine lv_istore (lv' := [(4, vI 1), (3, vI q3), (2, vI q2), (0, vR mm), (1, vI n)]) hx hb dX12_kindsOf_13 hlv (by decide) rfl (fun ls hlv => ?_)
      refine lv_iconst (v := iI 0) hx hb dX12_kindsOf_15 (by decide) ?_
      refine lv_istore (lv' := [(5, vI 0), (4, vI 1), (3, vI q3), (2, vI q2), (0, vR mm), (1, vI n)]) hx hb dX12_kindsOf_16 hlv (by decide) rfl (fun ls hlv => ?_)
      refine (?_ : ∀ (fu : Nat) (q4 : Int) (q5 : Int) (H : Heap) (locs : List Loc) (ls : Array Slot), 14 - q5 < (fu : Int) → (0 ≤ q4 ∧ q4 ≤ 1) → (0 ≤ q5 ∧ q5 ≤ 14) → va_P D vwCl [zI m33 (cy 0) 1344 f33, zO mm 12 [vI th, vR m1, vI tp, vI sz_, vI ap, vI bad, vI bk, vI opn, vI fp, vR m9, vR m10, vR m11, vR m12, vR m13, vR m14, vR m15, vI im, vI nr, vI nl, vR m19, vR m20, vR m21, vI sp_, vR m23, vR m24, vR m25, vR m26, vR m27, vR m28, vI wtc, vI wcl, vI ir, vI ip, vR m33, vI shu, vR m35, vI sfa, vI swr], zI m10 (cy 0) 68 f10, zI m12 (cy 0) 389 f12] H → va_D A [zI m33 (cy 0) 1344 f33, zO mm 12 [vI th, vR m1, vI tp, vI sz_, vI ap, vI bad, vI bk, vI opn, vI fp, vR m9, vR m10, vR m11, vR m12, vR m13, vR m14, vR m15, vI im, vI nr, vI nl, vR m19, vR m20, vR m21, vI sp_, vR m23, vR m24, vR m25, vR m26, vR m27, vR m28, vI wtc, vI wcl, vI ir, vI ip, vR m33, vI shu, vR m35, vI sfa, vI swr], zI m10 (cy 0) 68 f10, zI m12 (cy 0) 389 f12] → va_S A s.heap H locs → lv_has ls 6 [(5, vI q5), (4, vI q4), (3, vI q3), (2, vI q2), (0, vR mm), (1, vI n)] → W p l e _ s m _ below meth c H locs _ _ _ (F0 m 18 ls [])) (((14 - 0) + 1 : Int)).toNat 1 0 _ _ _ (by omega) (by show (0 : Int) ≤ 1 ∧ (1 : Int) ≤ 1; decide) (by show (0 : Int) ≤ 0 ∧ (0 : Int) ≤ 14; decide)  hP hD hS hlv
      clear hP hD hS hlv
      intro fu
      induction fu with
      | zero => intro q4 q5 H locs ls hm18 hl18_0 hl18_1  hP hD hS hlv; omega
      | succ fu ih18 =>
        intro q4 q5 H locs ls hm18 hl18_0 hl18_1  hP hD hS hlv
        refine lv_iload hx hb dX12_kindsOf_18 (lv_at hlv 0 rfl) ?_
        refine lv_iload_n hx hb dX12_kindsOf_20 rfl (lv_at hlv 2 rfl) ?_
        refine ir_ge (tgt := 68) hx hb dX12_kindsOf_21 (by decide) (by first | exact rgw hl18_1 (by decide) (by decide) | omega) (by first | exact rgw hl4_1 (by decide) (by decide) | omega) (fun c_2 => ?_) (fun c_2 => ?_)
        · refine lv_iload_n hx hb dX12_kindsOf_68 rfl (lv_at hlv 3 rfl) ?_
          refine lv_iload hx hb dX12_kindsOf_69 (lv_at hlv 1 rfl) ?_
          refine iz_eq (tgt := 78) hx hb dX12_kindsOf_71 (by decide) (by first | exact rgw hl18_0 (by decide) (by decide) | omega) (fun c_3 => ?_) (fun c_3 => ?_)
          · refine lv_iconst (v := iI 0) hx hb dX12_kindsOf_78 (by decide) ?_
            refine lv_iadd hx hb dX12_kindsOf_79 ?_
            refine lt_i (y := iI q2) (by rw [show iI q2 + iI 0 = iI (q2 + 0) from (Int32.ofInt_add _ _).symm, Int.add_zero]) ?_
            refine lv_istore_n (lv' := [(2, vI q2), (5, vI q5), (4, vI q4), (3, vI q3), (0, vR mm), (1, vI n)]) hx hb dX12_kindsOf_80 rfl hlv (by decide) rfl (fun ls hlv => ?_)
            obtain ⟨z_4, hz_4⟩ : ∃ z : Int, z = q3 + 1 := ⟨_, rfl⟩
            refine lv_iinc (v := iI z_4) (lv' := [(3, vI z_4), (2, vI q2), (5, vI q5), (4, vI q4), (0, vR mm), (1, vI n)]) hx hb dX12_kindsOf_81 hlv (k := 3) rfl (by rw [hz_4]; exact (Int32.ofInt_add _ _).symm) (by decide) rfl (fun ls hlv => ?_)
            refine lv_goto (tgt := 4) hx hb dX12_kindsOf_84 (by decide) ?_
            exact ih4 q2 z_4 H locs ls (by omega) (by first | exact hl4_0 | omega) (by omega) (by omega)  (hP.sub [1, 2, 3, 0] rfl) (hD.sub [1, 2, 3, 0] (by decide) rfl) hS (lv_sub hlv [0, 1, 4, 5] rfl)
          · refine lv_iconst (v := iI 1) hx hb dX12_kindsOf_74 (by decide) ?_
            refine lv_goto (tgt := 79) hx hb dX12_kindsOf_75 (by decide) ?_
            refine lv_iadd hx hb dX12_kindsOf_79 ?_
            refine lt_e (e0 := q2 + 1) (Int32.ofInt_add _ _).symm (fun z_5 hz_5 => ?_)
            refine lv_istore_n (lv' := [(2, vI z_5), (5, vI q5), (4, vI q4), (3, vI q3), (0, vR mm), (1, vI n)]) hx hb dX12_kindsOf_80 rfl hlv (by decide) rfl (fun ls hlv => ?_)
            obtain ⟨z_6, hz_6⟩ : ∃ z : Int, z = q3 + 1 := ⟨_, rfl⟩
            refine lv_iinc (v := iI z_6) (lv' := [(3, vI z_6), (2, vI z_5), (5, vI q5), (4, vI q4), (0, vR mm), (1, vI n)]) hx hb dX12_kindsOf_81 hlv (k := 3) rfl (by rw [hz_6]; exact (Int32.ofInt_add _ _).symm) (by decide) rfl (fun ls hlv => ?_)
            refine lv_goto (tgt := 4) hx hb dX12_kindsOf_84 (by decide) ?_
            exact ih4 z_5 z_6 H locs ls (by omega) (by omega) (by omega) (by omega)  (hP.sub [1, 2, 3, 0] rfl) (hD.sub [1, 2, 3, 0] (by decide) rfl) hS (lv_sub hlv [0, 1, 4, 5] rfl)
        · refine lv_iload hx hb dX12_kindsOf_24 (lv_at hlv 1 rfl) ?_
          refine iz_eq (tgt := 59) hx hb dX12_kindsOf_26 (by decide) (by first | exact rgw hl18_0 (by decide) (by decide) | omega) (fun c_7 => ?_) (fun c_7 => ?_)
          · refine lv_iconst (v := iI 0) hx hb dX12_kindsOf_59 (by decide) ?_
            refine lv_istore (lv' := [(4, vI 0), (5, vI q5), (3, vI q3), (2, vI q2), (0, vR mm), (1, vI n)]) hx hb dX12_kindsOf_60 hlv (by decide) rfl (fun ls hlv => ?_)
            obtain ⟨z_8, hz_8⟩ : ∃ z : Int, z = q5 + 1 := ⟨_, rfl⟩
            refine lv_iinc (v := iI z_8) (lv' := [(5, vI z_8), (4, vI 0), (3, vI q3), (2, vI q2), (0, vR mm), (1, vI n)]) hx hb dX12_kindsOf_62 hlv (k := 1) rfl (by rw [hz_8]; exact (Int32.ofInt_add _ _).symm) (by decide) rfl (fun ls hlv => ?_)
            refine lv_goto (tgt := 18) hx hb dX12_kindsOf_65 (by decide) ?_
            exact ih18 0 z_8 H locs ls (by omega) (by show (0 : Int) ≤ 0 ∧ (0 : Int) ≤ 1; decide) (by omega)  (hP.sub [0, 1, 2, 3] rfl) (hD.sub [0, 1, 2, 3] (by decide) rfl) hS (lv_sub hlv [0, 1, 2, 3, 4, 5] rfl)
          · refine lv_aload_n hx hb dX12_kindsOf_29 rfl (lv_at hlv 4 rfl) ?_
            refine va_get (D := D) (ci := 12) (v := vR m33) (C := RX12) (T := TX12) (N := 38) hx hb hts hi12 hown hG.1 hP 1 rfl rfl 33 (by decide) lf68 (fun _ h9 => h9) rfl dX12_kindsOf_30 ?_
            refine lv_bipush (v := iI 96) hx hb dX12_kindsOf_33 (by decide) ?_
            refine lv_iload hx hb dX12_kindsOf_35 (lv_at hlv 0 rfl) ?_
            refine lv_imul hx hb dX12_kindsOf_37 ?_
            refine lt_e (e0 := 96 * q5) (Int32.ofInt_mul _ _).symm (fun z_9 hz_9 => ?_)
            refine lv_iload_n hx hb dX12_kindsOf_38 rfl (lv_at hlv 5 rfl) ?_
            refine lv_iadd hx hb dX12_kindsOf_39 ?_
            refine lt_e (e0 := z_9 + n) (Int32.ofInt_add _ _).symm (fun z_10 hz_10 => ?_)
            refine va_iald hx hb hG.1 hP 0 0 rfl rfl (iI_in (by omega) (by decide)) dX12_kindsOf_40 ?_
            refine lt_z (fun z_11 ez_11 lz_11 hz_11 => ?_)
            refine lv_aload_n hx hb dX12_kindsOf_41 rfl (lv_at hlv 4 rfl) ?_
            refine va_get (D := D) (ci := 12) (v := vR m33) (C := RX12) (T := TX12) (N := 38) hx hb hts hi12 hown hG.1 hP 1 rfl rfl 33 (by decide) lf68 (fun _ h9 => h9) rfl dX12_kindsOf_42 ?_
            refine lv_bipush (v := iI 96) hx hb dX12_kindsOf_45 (by decide) ?_
            refine lv_iload_n hx hb dX12_kindsOf_47 rfl (lv_at hlv 2 rfl) ?_
            refine lv_imul hx hb dX12_kindsOf_48 ?_
            refine lt_e (e0 := 96 * q3) (Int32.ofInt_mul _ _).symm (fun z_12 hz_12 => ?_)
            refine lv_iload_n hx hb dX12_kindsOf_49 rfl (lv_at hlv 5 rfl) ?_
            refine lv_iadd hx hb dX12_kindsOf_50 ?_
            refine lt_e (e0 := z_12 + n) (Int32.ofInt_add _ _).symm (fun z_13 hz_13 => ?_)
            refine va_iald hx hb hG.1 hP 0 0 rfl rfl (iI_in (by omega) (by decide)) dX12_kindsOf_51 ?_
            refine lt_z (fun z_14 ez_14 lz_14 hz_14 => ?_)
            refine ir_eq (tgt := 59) hx hb dX12_kindsOf_52 (by decide) (by omega) (by omega) (fun c_15 => ?_) (fun c_15 => ?_)
            · refine lv_iconst (v := iI 0) hx hb dX12_kindsOf_59 (by decide) ?_
              refine lv_istore (lv' := [(4, vI 0), (5, vI q5), (3, vI q3), (2, vI q2), (0, vR mm), (1, vI n)]) hx hb dX12_kindsOf_60 hlv (by decide) rfl (fun ls hlv => ?_)
              obtain ⟨z_16, hz_16⟩ : ∃ z : Int, z = q5 + 1 := ⟨_, rfl⟩
              refine lv_iinc (v := iI z_16) (lv' := [(5, vI z_16), (4, vI 0), (3, vI q3), (2, vI q2), (0, vR mm), (1, vI n)]) hx hb dX12_kindsOf_62 hlv (k := 1) rfl (by rw [hz_16]; exact (Int32.ofInt_add _ _).symm) (by decide) rfl (fun ls hlv => ?_)
              refine lv_goto (tgt := 18) hx hb dX12_kindsOf_65 (by decide) ?_
              exact ih18 0 z_16 H locs ls (by omega) (by show (0 : Int) ≤ 0 ∧ (0 : Int) ≤ 1; decide) (by omega)  (hP.sub [0, 1, 2, 3] rfl) (hD.sub [0, 1, 2, 3] (by decide) rfl) hS (lv_sub hlv [0, 1, 2, 3, 4, 5] rfl)
            · refine lv_iconst (v := iI 1) hx hb dX12_kindsOf_55 (by decide) ?_
              refine lv_goto (tgt := 60) hx hb dX12_kindsOf_56 (by decide) ?_
              refine lv_istore (lv' := [(4, vI 1), (5, vI q5), (3, vI q3), (2, vI q2), (0, vR mm), (1, vI n)]) hx hb dX12_kindsOf_60 hlv (by decide) rfl (fun ls hlv => ?_)
              obtain ⟨z_17, hz_17⟩ : ∃ z : Int, z = q5 + 1 := ⟨_, rfl⟩
              refine lv_iinc (v := iI z_17) (lv' := [(5, vI z_17), (4, vI 1), (3, vI q3), (2, vI q2), (0, vR mm), (1, vI n)]) hx hb dX12_kindsOf_62 hlv (k := 1) rfl (by rw [hz_17]; exact (Int32.ofInt_add _ _).symm) (by decide) rfl (fun ls hlv => ?_)
              refine lv_goto (tgt := 18) hx hb dX12_kindsOf_65 (by decide) ?_
              exact ih18 1 z_17 H locs ls (by omega) (by show (0 : Int) ≤ 1 ∧ (1 : Int) ≤ 1; decide) (by omega)  (hP.sub [0, 1, 2, 3] rfl) (hD.sub [0, 1, 2, 3] (by decide) rfl) hS (lv_sub hlv [0, 1, 2, 3, 4, 5] rfl)
def vs_m_look : List Cond := .code yX12_look cX12_look 8 (some .int) :: (([.fieldLink RX12 1 "KerbSplashModel" "thrown" "I", .fieldLink RX12 71 "KerbSplashModel" "shut" "I", .fieldLink RX12 23 "KerbSplashModel" "b" "[I", .fieldLink RX12 68 "KerbSplashModel" "cases" "[I", .fieldLink RX12 29 "KerbSplashModel" "s" "[I"] : List Cond) ++ ((wsX120) ++ ((wsV RX12 324 RX12 yX12_isRain vs_m_isRain) ++ ((va_wsS RX12 279 yX12_within vs_m_within) ++ ((wsV RX12 175 RX12 yX12_may vs_m_may) ++ ((wsV RX12 312 RX12 yX12_isNow vs_m_isNow) ++ ((wsV RX12 381 RX12 yX12_keeps vs_m_keeps) ++ ((wsV RX12 283 RX12 yX12_drains vs_m_drains) ++ ((va_wsS RX12 289 yX12_at vs_m_at) ++ ((wsV RX12 390 RX12 yX12_kindsOf vs_m_kindsOf) ++ ((wsV RX12 328 RX12 yX12_showers vs_m_showers) ++ ((wsV RX12 387 RX12 yX12_comesBack vs_m_back) ++ ([])))))))))))))
set_option maxHeartbeats 4000000 in
set_option maxRecDepth 100000 in
theorem m_look (l : Launch) (hl : l.stackTraces = false) (D : va_G) (cy : Nat → ClassId) (sa : Nat → Nat) (mm m1 m9 m10 m11 m12 m13 m14 m15 m19 m20 m21 m23 m24 m25 m26 m27 m28 m33 m35 : Nat) (th tp sz_ ap bad bk opn fp im nr nl sp_ wtc wcl ir ip shu sfa swr : Int) (f1 f10 f12 f14 f19 f20 f21 f33 : Nat → Int32) (n k : Int) (qs : Nat → Int) (sz : Nat) (hr_th : (-2147483648) ≤ th ∧ th ≤ 2147483647) (hr_tp : 0 ≤ tp ∧ tp ≤ 600) (hr_sz_ : 0 ≤ sz_ ∧ sz_ ≤ 600) (hr_ap : 0 ≤ ap ∧ ap ≤ 602) (hr_bad : (-1) ≤ bad ∧ bad ≤ 602) (hr_bk : 0 ≤ bk ∧ bk ≤ 4) (hr_opn : 0 ≤ opn ∧ opn ≤ 7) (hr_fp : (-2147483648) ≤ fp ∧ fp ≤ 2147483647) (hr_im : 0 ≤ im ∧ im ≤ 3) (hr_nr : 0 ≤ nr ∧ nr ≤ 4) (hr_nl : 0 ≤ nl ∧ nl ≤ 4) (hr_sp_ : 0 ≤ sp_ ∧ sp_ ≤ 602) (hr_wtc : (-2147483648) ≤ wtc ∧ wtc ≤ 2147483647) (hr_wcl : 0 ≤ wcl ∧ wcl ≤ 95) (hr_ir : 0 ≤ ir ∧ ir ≤ 5) (hr_ip : (-2147483648) ≤ ip ∧ ip ≤ 2147483647) (hr_shu : (-2147483648) ≤ shu ∧ shu ≤ 2147483647) (hr_sfa : (-2147483648) ≤ sfa ∧ sfa ≤ 2147483647) (hr_swr : (-2147483648) ≤ swr ∧ swr ≤ 2147483647) (hr_n : (-2147483648) ≤ n ∧ n ≤ 2147483647) (hr_k : (-2147483648) ≤ k ∧ k ≤ 2147483647) (hf10 : BI f10) (hf12 : SQ qs 8 f12) (hf14 : SI 8 f14) (hf19 : inv_ 4 0 8 f19) : mI9 l yX12_look vs_m_look ({ frames := 5, cells := 0, slots := 0, locals := 119 }) D cy sa sz [vR mm, vI n, vI k] [zO mm 12 [vI th, vR m1, vI tp, vI sz_, vI ap, vI bad, vI bk, vI opn, vI fp, vR m9, vR m10, vR m11, vR m12, vR m13, vR m14, vR m15, vI im, vI nr, vI nl, vR m19, vR m20, vR m21, vI sp_, vR m23, vR m24, vR m25, vR m26, vR m27, vR m28, vI wtc, vI wcl, vI ir, vI ip, vR m33, vI shu, vR m35, vI sfa, vI swr], zI m1 (cy 0) 4 f1, zI m10 (cy 0) 68 f10, zI m12 (cy 0) 389 f12, zI m14 (cy 0) 389 f14, zI m19 (cy 0) 4 f19, zI m20 (cy 0) 32 f20, zI m21 (cy 0) 32 f21, zI m33 (cy 0) 1344 f33] (fun (r : Int32) (u : SV) => r = iI (u.2.1 0) ∧ ((-2147483648) ≤ u.2.1 1 ∧ u.2.1 1 ≤ 2147483647) ∧ ((-2147483648) ≤ u.2.1 2 ∧ u.2.1 2 ≤ 2147483647) ∧ ((-2147483648) ≤ u.2.1 0 ∧ u.2.1 0 ≤ 2147483647) ∧ BI f10 ∧ SQ qs 8 (u.2.2 1) ∧ SI 8 (u.2.2 2) ∧ inv_ 4 0 8 f19) (fun u : SV => [zO mm 12 [vI (u.2.1 1), vR m1, vI tp, vI sz_, vI ap, vI bad, vI bk, vI opn, vI fp, vR m9, vR m10, vR m11, vR m12, vR m13, vR m14, vR m15, vI im, vI nr, vI nl, vR m19, vR m20, vR m21, vI sp_, vR m23, vR m24, vR m25, vR m26, vR m27, vR m28, vI wtc, vI wcl, vI ir, vI ip, vR m33, vI (u.2.1 2), vR m35, vI sfa, vI swr], zI m1 (cy 0) 4 (u.2.2 0), zI m10 (cy 0) 68 f10, zI m12 (cy 0) 389 (u.2.2 1), zI m14 (cy 0) 389 (u.2.2 2), zI m19 (cy 0) 4 f19, zI m20 (cy 0) 32 f20, zI m21 (cy 0) 32 f21, zI m33 (cy 0) 1344 (u.2.2 3)]) 0 0 := by
  refine Met.ofW (cc := cX12_look) (maxL := 8) (ret := (some .int)) (by decide) rfl ?_
  intro p e s m args below meth c s₁ B hml hv
  obtain ⟨rfl, hsz, hP, hG, hD0, hT⟩ := hv
  have hx := B.exec
  have hb := B.bytes
  have hr := B.returns
  have hts := atoms_spec (ws := vs_m_look) B.pre
  have hown : s.vm.findClass RX12 = some m.cls := findClass_of_methodNamed B.named
  have hlocks := B.notSynchronized
  subst hsz
  have hD := hD0.self (sz := s.heap.size)
  generalize hAe : va_A [zO mm 12 [vI th, vR m1, vI tp, vI sz_, vI ap, vI bad, vI bk, vI opn, vI fp, vR m9, vR m10, vR m11, vR m12, vR m13, vR m14, vR m15, vI im, vI nr, vI nl, vR m19, vR m20, vR m21, vI sp_, vR m23, vR m24, vR m25, vR m26, vR m27, vR m28, vI wtc, vI wcl, vI ir, vI ip, vR m33, vI shu, vR m35, vI sfa, vI swr], zI m1 (cy 0) 4 f1, zI m10 (cy 0) 68 f10, zI m12 (cy 0) 389 f12, zI m14 (cy 0) 389 f14, zI m19 (cy 0) 4 f19, zI m20 (cy 0) 32 f20, zI m21 (cy 0) 32 f21, zI m33 (cy 0) 1344 f33] s.heap.size = A at hD hT ⊢
  have hA : ∀ q : Nat, s.heap.size ≤ q → A q := fun q h => by rw [← hAe]; exact Or.inr h
  have hS : va_S A s.heap s.heap [] := va_S.rf
  have hl0 := lv_entry ([vR mm, vI n, vI k]) (n := 8) (Nat.le_of_ble_eq_true rfl)
  rw [lg_entry_eq]
  generalize (lg_sl ([vR mm, vI n, vI k]) ++ List.replicate (8 - (lg_sl ([vR mm, vI n, vI k])).length) Slot.unset).toArray = ls at hl0 ⊢
  have hlv : lv_has ls 8 [(0, vR mm), (1, vI n), (2, vI k)] := hl0
  have lf1 := hts (.fieldLink RX12 1 "KerbSplashModel" "thrown" "I") (List.mem_of_getElem? (i := 1) rfl)
  have hi12 : ∀ w ∈ wsX120, w ∈ vs_m_look := fun w h => List.mem_cons_of_mem _ (List.mem_append_right _ (List.mem_append_left _ h))
  have gg_1 : GoodIn vs_m_look (wsV RX12 324 RX12 yX12_isRain vs_m_isRain) := goodIn_sub (fun w h => List.mem_cons_of_mem _ (List.mem_append_right _ (List.mem_append_right _ (List.mem_append_left _ h)))) (gd_V gd_m_isRain (by decide +kernel))
  have gg_2 : GoodIn vs_m_look (va_wsS RX12 279 yX12_within vs_m_within) := goodIn_sub (fun w h => List.mem_cons_of_mem _ (List.mem_append_right _ (List.mem_append_right _ (List.mem_append_right _ (List.mem_append_left _ h))))) (gd_S gd_m_within (by decide +kernel))
  have gg_3 : GoodIn vs_m_look (wsV RX12 175 RX12 yX12_may vs_m_may) := goodIn_sub (fun w h => List.mem_cons_of_mem _ (List.mem_append_right _ (List.mem_append_right _ (List.mem_append_right _ (List.mem_append_right _ (List.mem_append_left _ h)))))) (gd_V gd_m_may (by decide +kernel))
  have gg_4 : GoodIn vs_m_look (wsV RX12 312 RX12 yX12_isNow vs_m_isNow) := goodIn_sub (fun w h => List.mem_cons_of_mem _ (List.mem_append_right _ (List.mem_append_right _ (List.mem_append_right _ (List.mem_append_right _ (List.mem_append_right _ (List.mem_append_left _ h))))))) (gd_V gd_m_isNow (by decide +kernel))
  have gg_5 : GoodIn vs_m_look (wsV RX12 381 RX12 yX12_keeps vs_m_keeps) := goodIn_sub (fun w h => List.mem_cons_of_mem _ (List.mem_append_right _ (List.mem_append_right _ (List.mem_append_right _ (List.mem_append_right _ (List.mem_append_right _ (List.mem_append_right _ (List.mem_append_left _ h)))))))) (gd_V gd_m_keeps (by decide +kernel))
  have gg_6 : GoodIn vs_m_look (wsV RX12 283 RX12 yX12_drains vs_m_drains) := goodIn_sub (fun w h => List.mem_cons_of_mem _ (List.mem_append_right _ (List.mem_append_right _ (List.mem_append_right _ (List.mem_append_right _ (List.mem_append_right _ (List.mem_append_right _ (List.mem_append_right _ (List.mem_append_left _ h))))))))) (gd_V gd_m_drains (by decide +kernel))
  have lf71 := hts (.fieldLink RX12 71 "KerbSplashModel" "shut" "I") (List.mem_of_getElem? (i := 2) rfl)
  have lf23 := hts (.fieldLink RX12 23 "KerbSplashModel" "b" "[I") (List.mem_of_getElem? (i := 3) rfl)
  have gg_7 : GoodIn vs_m_look (va_wsS RX12 289 yX12_at vs_m_at) := goodIn_sub (fun w h => List.mem_cons_of_mem _ (List.mem_append_right _ (List.mem_append_right _ (List.mem_append_right _ (List.mem_append_right _ (List.mem_append_right _ (List.mem_append_right _ (List.mem_append_right _ (List.mem_append_right _ (List.mem_append_left _ h)))))))))) (gd_S gd_m_at (by decide +kernel))
  have gg_8 : GoodIn vs_m_look (wsV RX12 390 RX12 yX12_kindsOf vs_m_kindsOf) := goodIn_sub (fun w h => List.mem_cons_of_mem _ (List.mem_append_right _ (List.mem_append_right _ (List.mem_append_right _ (List.mem_append_right _ (List.mem_append_right _ (List.mem_append_right _ (List.mem_append_right _ (List.mem_append_right _ (List.mem_append_right _ (List.mem_append_left _ h))))))))))) (gd_V gd_m_kindsOf (by decide +kernel))
  have gg_9 : GoodIn vs_m_look (wsV RX12 328 RX12 yX12_showers vs_m_showers) := goodIn_sub (fun w h => List.mem_cons_of_mem _ (List.mem_append_right _ (List.mem_append_right _ (List.mem_append_right _ (List.mem_append_right _ (List.mem_append_right _ (List.mem_append_right _ (List.mem_append_right _ (List.mem_append_right _ (List.mem_append_right _ (List.mem_append_right _ (List.mem_append_left _ h)))))))))))) (gd_V gd_m_showers (by decide +kernel))
  have gg_10 : GoodIn vs_m_look (wsV RX12 387 RX12 yX12_comesBack vs_m_back) := goodIn_sub (fun w h => List.mem_cons_of_mem _ (List.mem_append_right _ (List.mem_append_right _ (List.mem_append_right _ (List.mem_append_right _ (List.mem_append_right _ (List.mem_append_right _ (List.mem_append_right _ (List.mem_append_right _ (List.mem_append_right _ (List.mem_append_right _ (List.mem_append_right _ (List.mem_append_left _ h))))))))))))) (gd_V gd_m_back (by decide +kernel))
  have lf68 := hts (.fieldLink RX12 68 "KerbSplashModel" "cases" "[I") (List.mem_of_getElem? (i := 4) rfl)
  have lf29 := hts (.fieldLink RX12 29 "KerbSplashModel" "s" "[I") (List.mem_of_getElem? (i := 5) rfl)
  refine lv_aload_n hx hb dX12_look_0 rfl (lv_at hlv 0 rfl) ?_
  refine lv_iconst (v := iI 0) hx hb dX12_look_1 (by decide) ?_
  refine va_put (D := D) (ci := 12) (v := vI 0) (ty := .int) (C := RX12) (T := TX12) (N := 38) hx hb hts hi12 tyX12 tyX12_ok nmX12 hown hG.1 hP hD hS 0 rfl rfl 0 (by decide) lf1 (fun _ h9 => h9) rfl (by decide +kernel) rfl rfl (Nat.le_of_ble_eq_true rfl) dX12_look_2 (fun H locs hP hD hS => ?_)
  obtain ⟨hP, hD⟩ := pw9 [zO mm 12 [vI 0, vR m1, vI tp, vI sz_, vI ap, vI bad, vI bk, vI opn, vI fp, vR m9, vR m10, vR m11, vR m12, vR m13, vR m14, vR m15, vI im, vI nr, vI nl, vR m19, vR m20, vR m21, vI sp_, vR m23, vR m24, vR m25, vR m26, vR m27, vR m28, vI wtc, vI wcl, vI ir, vI ip, vR m33, vI shu, vR m35, vI sfa, vI swr], zI m1 (cy 0) 4 f1, zI m10 (cy 0) 68 f10, zI m12 (cy 0) 389 f12, zI m14 (cy 0) 389 f14, zI m19 (cy 0) 4 f19, zI m20 (cy 0) 32 f20, zI m21 (cy 0) 32 f21, zI m33 (cy 0) 1344 f33] hP hD
  refine lv_aload_n hx hb dX12_look_5 rfl (lv_at hlv 0 rfl) ?_
  refine lv_iload_n hx hb dX12_look_6 rfl (lv_at hlv 1 rfl) ?_
  refine lv_iconst (v := iI 1) hx hb dX12_look_7 (by decide) ?_
  refine cjr_i [false, false, true, true, true, true, true, true, true] (fun pre9 => (va_runV (As := [vI n, vI 1]) (rest := []) ⟨hx, hb, hml, hown, hts⟩ (m_isRain l hl D cy sa mm m1 m9 m10 m11 m12 m13 m14 m15 m19 m20 m21 m23 m24 m25 m26 m27 m28 m33 m35 0 tp sz_ ap bad bk opn fp im nr nl sp_ wtc wcl ir ip shu sfa swr f1 n 1 H.size (by show ((-2147483648) : Int) ≤ 0 ∧ (0 : Int) ≤ 2147483647; decide) (by first | exact hr_tp | omega) (by first | exact hr_sz_ | omega) (by first | exact hr_ap | omega) (by first | exact hr_bad | omega) (by first | exact hr_bk | omega) (by first | exact hr_opn | omega) (by first | exact hr_fp | omega) (by first | exact hr_im | omega) (by first | exact hr_nr | omega) (by first | exact hr_nl | omega) (by first | exact hr_sp_ | omega) (by first | exact hr_wtc | omega) (by first | exact hr_wcl | omega) (by first | exact hr_ir | omega) (by first | exact hr_ip | omega) (by first | exact hr_shu | omega) (by first | exact hr_sfa | omega) (by first | exact hr_swr | omega) (by first | exact hr_n | omega) (by show (1 : Int) ≤ 1 ∧ (1 : Int) ≤ 4; decide)) (cwV 2 hts gg_1 rfl rfl rfl (by decide +kernel) ⟨Nat.le_of_ble_eq_true rfl, Nat.le_of_ble_eq_true rfl⟩) ⟨pcW.blind, (va_recv hG.1 hP (ci := 12) (q0 := 0) rfl rfl), pre9⟩ rfl rfl hlv.1 rfl (lv_room (Nat.le_of_ble_eq_true rfl)) dX12_look_8 ⟨Nat.le_of_ble_eq_true rfl, Nat.le_of_ble_eq_true rfl⟩)) hP hD hS hA hG hT [0, 1] rfl (by decide +kernel) (fun r1 u1 H locs hw1 hq9 hS => ?_)
  obtain ⟨rfl, hq1_1, hq1_2, hq1_3⟩ := hw1
  obtain ⟨hP, hD⟩ := pd9 [zI m10 (cy 0) 68 f10, zI m12 (cy 0) 389 f12, zI m14 (cy 0) 389 f14, zI m19 (cy 0) 4 f19, zI m20 (cy 0) 32 f20, zI m21 (cy 0) 32 f21, zI m33 (cy 0) 1344 f33, zO mm 12 [vI (u1.2.1 1), vR m1, vI tp, vI sz_, vI ap, vI bad, vI bk, vI opn, vI fp, vR m9, vR m10, vR m11, vR m12, vR m13, vR m14, vR m15, vI im, vI nr, vI nl, vR m19, vR m20, vR m21, vI sp_, vR m23, vR m24, vR m25, vR m26, vR m27, vR m28, vI wtc, vI wcl, vI ir, vI ip, vR m33, vI shu, vR m35, vI sfa, vI swr], zI m1 (cy 0) 4 (u1.2.2 0)] hq9
  refine iz_eq (tgt := 37) hx hb dX12_look_11 (by decide) (by first | exact rgw hq1_2 (by decide) (by decide) | omega) (fun c_1 => ?_) (fun c_1 => ?_)
  · refine lv_iconst (v := iI 0) hx hb dX12_look_37 (by decide) ?_
    refine W.widen (k := 0) (n := 0) (Nat.le_of_ble_eq_true rfl) (Nat.le_of_ble_eq_true rfl) ?_
    exact W.iret (v := iI 0) hx hb hr (fun t ht hW => ⟨⟨iI 0, ((fun k => ([] : List Nat).getD k 0), (fun k => ([0, (u1.2.1 1), shu] : List Int).getD k 0), (fun k => ([(u1.2.2 0), f12, f14, f33] : List (Nat → Int32)).getD k (fun _ => 0))), rfl, ⟨rfl, (by show ((-2147483648) ≤ (u1.2.1 1) ∧ (u1.2.1 1) ≤ 2147483647); first | exact hq1_1 | omega), (by show ((-2147483648) ≤ shu ∧ shu ≤ 2147483647); first | exact hr_shu | omega), (by show ((-2147483648) ≤ 0 ∧ 0 ≤ 2147483647); show ((-2147483648) : Int) ≤ 0 ∧ (0 : Int) ≤ 2147483647; decide), hf10, hf12, hf14, hf19⟩, at9 ht hP hD [7, 8, 0, 1, 2, 3, 4, 5, 6] (by decide +kernel) rfl⟩, hS.F ht⟩) hS.2.2 dX12_look_38
  · refine lv_aload_n hx hb dX12_look_14 rfl (lv_at hlv 0 rfl) ?_
    refine lv_iload_n hx hb dX12_look_15 rfl (lv_at hlv 2 rfl) ?_
    refine lv_iconst (v := iI 0) hx hb dX12_look_16 (by decide) ?_
    refine lv_iconst (v := iI 1) hx hb dX12_look_17 (by decide) ?_
    refine cjr_i [true, true, true, true, true, true, true, true, true] (fun pre9 => (va_runS (As := [vI k, vI 0, vI 1]) (rest := [vR mm]) ⟨hx, hb, hml, hown, hts⟩ (m_within l hl D cy sa k 0 1 H.size (by first | exact hr_k | omega) (by show ((-2147483648) : Int) ≤ 0 ∧ (0 : Int) ≤ 2147483647; decide) (by show ((-2147483648) : Int) ≤ 1 ∧ (1 : Int) ≤ 2147483647; decide)) (va_cwS 3 hts gg_2 rfl rfl rfl (by decide +kernel) ⟨Nat.le_of_ble_eq_true rfl, Nat.le_of_ble_eq_true rfl⟩) ⟨pcW.blind, pre9⟩ rfl rfl hlv.1 rfl (lv_room (Nat.le_of_ble_eq_true rfl)) dX12_look_18 ⟨Nat.le_of_ble_eq_true rfl, Nat.le_of_ble_eq_true rfl⟩)) hP hD hS hA hG hT [] rfl (by decide +kernel) (fun r2 u2 H locs hw2 hq9 hS => ?_)
    obtain ⟨rfl, hq2_1, hq2_2, hq2_3⟩ := hw2
    obtain ⟨hP, hD⟩ := pd9 [zI m10 (cy 0) 68 f10, zI m12 (cy 0) 389 f12, zI m14 (cy 0) 389 f14, zI m19 (cy 0) 4 f19, zI m20 (cy 0) 32 f20, zI m21 (cy 0) 32 f21, zI m33 (cy 0) 1344 f33, zO mm 12 [vI (u1.2.1 1), vR m1, vI tp, vI sz_, vI ap, vI bad, vI bk, vI opn, vI fp, vR m9, vR m10, vR m11, vR m12, vR m13, vR m14, vR m15, vI im, vI nr, vI nl, vR m19, vR m20, vR m21, vI sp_, vR m23, vR m24, vR m25, vR m26, vR m27, vR m28, vI wtc, vI wcl, vI ir, vI ip, vR m33, vI shu, vR m35, vI sfa, vI swr], zI m1 (cy 0) 4 (u1.2.2 0)] hq9
    refine lv_iconst (v := iI 2) hx hb dX12_look_21 (by decide) ?_
    refine lv_iconst (v := iI 2) hx hb dX12_look_22 (by decide) ?_
    refine cjr_i [true, true, true, true, true, true, true, false, false] (fun pre9 => (va_runV (As := [vI (u2.2.1 0), vI 2, vI 2]) (rest := []) ⟨hx, hb, hml, hown, hts⟩ (m_may l hl D cy sa mm m1 m9 m10 m11 m12 m13 m14 m15 m19 m20 m21 m23 m24 m25 m26 m27 m28 m33 m35 (u1.2.1 1) tp sz_ ap bad bk opn fp im nr nl sp_ wtc wcl ir ip shu sfa swr (u1.2.2 0) (u2.2.1 0) 2 2 H.size (by first | exact hq1_1 | omega) (by first | exact hr_tp | omega) (by first | exact hr_sz_ | omega) (by first | exact hr_ap | omega) (by first | exact hr_bad | omega) (by first | exact hr_bk | omega) (by first | exact hr_opn | omega) (by first | exact hr_fp | omega) (by first | exact hr_im | omega) (by first | exact hr_nr | omega) (by first | exact hr_nl | omega) (by first | exact hr_sp_ | omega) (by first | exact hr_wtc | omega) (by first | exact hr_wcl | omega) (by first | exact hr_ir | omega) (by first | exact hr_ip | omega) (by first | exact hr_shu | omega) (by first | exact hr_sfa | omega) (by first | exact hr_swr | omega) (by first | exact hq2_1 | omega) (by show (1 : Int) ≤ 2 ∧ (2 : Int) ≤ 4; decide) (by show (0 : Int) ≤ 2 ∧ (2 : Int) ≤ 3; decide)) (cwV 3 hts gg_3 rfl rfl rfl (by decide +kernel) ⟨Nat.le_of_ble_eq_true rfl, Nat.le_of_ble_eq_true rfl⟩) ⟨pcW.blind, (va_recv hG.1 hP (ci := 12) (q0 := 7) rfl rfl), pre9⟩ rfl rfl hlv.1 rfl (lv_room (Nat.le_of_ble_eq_true rfl)) dX12_look_23 ⟨Nat.le_of_ble_eq_true rfl, Nat.le_of_ble_eq_true rfl⟩)) hP hD hS hA hG hT [7, 8] rfl (by decide +kernel) (fun r3 u3 H locs hw3 hq9 hS => ?_)
    obtain ⟨rfl, hq3_1, hq3_2, hq3_3, hq3_4⟩ := hw3
    obtain ⟨hP, hD⟩ := pd9 [zI m10 (cy 0) 68 f10, zI m12 (cy 0) 389 f12, zI m14 (cy 0) 389 f14, zI m19 (cy 0) 4 f19, zI m20 (cy 0) 32 f20, zI m21 (cy 0) 32 f21, zI m33 (cy 0) 1344 f33, zO mm 12 [vI (u3.2.1 1), vR m1, vI tp, vI sz_, vI ap, vI bad, vI bk, vI opn, vI fp, vR m9, vR m10, vR m11, vR m12, vR m13, vR m14, vR m15, vI im, vI nr, vI nl, vR m19, vR m20, vR m21, vI sp_, vR m23, vR m24, vR m25, vR m26, vR m27, vR m28, vI wtc, vI wcl, vI ir, vI ip, vR m33, vI shu, vR m35, vI sfa, vI swr], zI m1 (cy 0) 4 (u3.2.2 0)] hq9
    refine iz_eq (tgt := 37) hx hb dX12_look_26 (by decide) (by first | exact rgw hq3_2 (by decide) (by decide) | omega) (fun c_2 => ?_) (fun c_2 => ?_)
    · refine lv_iconst (v := iI 0) hx hb dX12_look_37 (by decide) ?_
      refine W.widen (k := 0) (n := 0) (Nat.le_of_ble_eq_true rfl) (Nat.le_of_ble_eq_true rfl) ?_
      exact W.iret (v := iI 0) hx hb hr (fun t ht hW => ⟨⟨iI 0, ((fun k => ([] : List Nat).getD k 0), (fun k => ([0, (u3.2.1 1), shu] : List Int).getD k 0), (fun k => ([(u3.2.2 0), f12, f14, f33] : List (Nat → Int32)).getD k (fun _ => 0))), rfl, ⟨rfl, (by show ((-2147483648) ≤ (u3.2.1 1) ∧ (u3.2.1 1) ≤ 2147483647); first | exact hq3_1 | omega), (by show ((-2147483648) ≤ shu ∧ shu ≤ 2147483647); first | exact hr_shu | omega), (by show ((-2147483648) ≤ 0 ∧ 0 ≤ 2147483647); show ((-2147483648) : Int) ≤ 0 ∧ (0 : Int) ≤ 2147483647; decide), hf10, hf12, hf14, hf19⟩, at9 ht hP hD [7, 8, 0, 1, 2, 3, 4, 5, 6] (by decide +kernel) rfl⟩, hS.F ht⟩) hS.2.2 dX12_look_38
    · refine lv_aload_n hx hb dX12_look_29 rfl (lv_at hlv 0 rfl) ?_
      refine lv_iconst (v := iI 3) hx hb dX12_look_30 (by decide) ?_
      refine cjr_i [false, false, true, true, true, true, true, false, false] (fun pre9 => (va_runV (As := [vI 3]) (rest := []) ⟨hx, hb, hml, hown, hts⟩ (m_isNow l hl D cy sa mm m1 m9 m10 m11 m12 m13 m14 m15 m19 m20 m21 m23 m24 m25 m26 m27 m28 m33 m35 (u3.2.1 1) tp sz_ ap bad bk opn fp im nr nl sp_ wtc wcl ir ip shu sfa swr (u3.2.2 0) f10 f12 3 H.size (by first | exact hq3_1 | omega) (by first | exact hr_tp | omega) (by first | exact hr_sz_ | omega) (by first | exact hr_ap | omega) (by first | exact hr_bad | omega) (by first | exact hr_bk | omega) (by first | exact hr_opn | omega) (by first | exact hr_fp | omega) (by first | exact hr_im | omega) (by first | exact hr_nr | omega) (by first | exact hr_nl | omega) (by first | exact hr_sp_ | omega) (by first | exact hr_wtc | omega) (by first | exact hr_wcl | omega) (by first | exact hr_ir | omega) (by first | exact hr_ip | omega) (by first | exact hr_shu | omega) (by first | exact hr_sfa | omega) (by first | exact hr_swr | omega) (by show (1 : Int) ≤ 3 ∧ (3 : Int) ≤ 4; decide) hf10 (hf12.1)) (cwV 1 hts gg_4 rfl rfl rfl (by decide +kernel) ⟨Nat.le_of_ble_eq_true rfl, Nat.le_of_ble_eq_true rfl⟩) ⟨pcW.blind, (va_recv hG.1 hP (ci := 12) (q0 := 7) rfl rfl), pre9⟩ rfl rfl hlv.1 rfl (lv_room (Nat.le_of_ble_eq_true rfl)) dX12_look_31 ⟨Nat.le_of_ble_eq_true rfl, Nat.le_of_ble_eq_true rfl⟩)) hP hD hS hA hG hT [7, 8, 0, 1] rfl (by decide +kernel) (fun r4 u4 H locs hw4 hq9 hS => ?_)
      obtain ⟨rfl, hq4_1, hq4_2, hq4_3, hq4_4, hq4_5⟩ := hw4
      obtain ⟨hP, hD⟩ := pd9 [zI m14 (cy 0) 389 f14, zI m19 (cy 0) 4 f19, zI m20 (cy 0) 32 f20, zI m21 (cy 0) 32 f21, zI m33 (cy 0) 1344 f33, zO mm 12 [vI (u4.2.1 1), vR m1, vI tp, vI sz_, vI ap, vI bad, vI bk, vI opn, vI fp, vR m9, vR m10, vR m11, vR m12, vR m13, vR m14, vR m15, vI im, vI nr, vI nl, vR m19, vR m20, vR m21, vI sp_, vR m23, vR m24, vR m25, vR m26, vR m27, vR m28, vI wtc, vI wcl, vI ir, vI ip, vR m33, vI shu, vR m35, vI sfa, vI swr], zI m1 (cy 0) 4 (u4.2.2 0), zI m10 (cy 0) 68 f10, zI m12 (cy 0) 389 f12] hq9
      refine iz_ne (tgt := 39) hx hb dX12_look_34 (by decide) (by first | exact rgw hq4_2 (by decide) (by decide) | omega) (fun c_3 => ?_) (fun c_3 => ?_)
      · refine lv_aload_n hx hb dX12_look_39 rfl (lv_at hlv 0 rfl) ?_
        refine cjr_v [false, true, true, true, true, false, true, true, false] (fun pre9 => (va_runV (As := []) (rest := []) ⟨hx, hb, hml, hown, hts⟩ (m_keeps l hl D cy sa mm m1 m9 m10 m11 m12 m13 m14 m15 m19 m20 m21 m23 m24 m25 m26 m27 m28 m33 m35 (u4.2.1 1) tp sz_ ap bad bk opn fp im nr nl sp_ wtc wcl ir ip shu sfa swr f12 f14 qs H.size (by first | exact hq4_1 | omega) (by first | exact hr_tp | omega) (by first | exact hr_sz_ | omega) (by first | exact hr_ap | omega) (by first | exact hr_bad | omega) (by first | exact hr_bk | omega) (by first | exact hr_opn | omega) (by first | exact hr_fp | omega) (by first | exact hr_im | omega) (by first | exact hr_nr | omega) (by first | exact hr_nl | omega) (by first | exact hr_sp_ | omega) (by first | exact hr_wtc | omega) (by first | exact hr_wcl | omega) (by first | exact hr_ir | omega) (by first | exact hr_ip | omega) (by first | exact hr_shu | omega) (by first | exact hr_sfa | omega) (by first | exact hr_swr | omega) hf12 hf14) (cwV 0 hts gg_5 rfl rfl rfl (by decide +kernel) ⟨Nat.le_of_ble_eq_true rfl, Nat.le_of_ble_eq_true rfl⟩) ⟨pcW.blind, (va_recv hG.1 hP (ci := 12) (q0 := 5) rfl rfl), pre9⟩ rfl rfl hlv.1 rfl (lv_room (Nat.le_of_ble_eq_true rfl)) dX12_look_40 ⟨Nat.le_of_ble_eq_true rfl, Nat.le_of_ble_eq_true rfl⟩)) hP hD hS hA hG hT [5, 8, 0] rfl (by decide +kernel) (fun u5 H locs hw5 hq9 hS => ?_)
        obtain ⟨hq5_0, hq5_1⟩ := hw5
        obtain ⟨hP, hD⟩ := pd9 [zI m19 (cy 0) 4 f19, zI m20 (cy 0) 32 f20, zI m21 (cy 0) 32 f21, zI m33 (cy 0) 1344 f33, zI m1 (cy 0) 4 (u4.2.2 0), zI m10 (cy 0) 68 f10, zO mm 12 [vI (u4.2.1 1), vR m1, vI tp, vI sz_, vI ap, vI bad, vI bk, vI opn, vI fp, vR m9, vR m10, vR m11, vR m12, vR m13, vR m14, vR m15, vI im, vI nr, vI nl, vR m19, vR m20, vR m21, vI sp_, vR m23, vR m24, vR m25, vR m26, vR m27, vR m28, vI wtc, vI wcl, vI ir, vI ip, vR m33, vI shu, vR m35, vI sfa, vI swr], zI m12 (cy 0) 389 f12, zI m14 (cy 0) 389 (u5.2.2 0)] hq9
        refine lv_iconst (v := iI 0) hx hb dX12_look_43 (by decide) ?_
        refine lv_istore_n (lv' := [(3, vI 0), (0, vR mm), (1, vI n), (2, vI k)]) hx hb dX12_look_44 rfl hlv (by decide) rfl (fun ls hlv => ?_)
        refine (?_ : ∀ (fu : Nat) (q3 : Int) (qh : Int) (wg : Nat → Int32) (cg : Nat → Int32) (H : Heap) (locs : List Loc) (ls : Array Slot), 14 - q3 < (fu : Int) → (0 ≤ q3 ∧ q3 ≤ 14) → ((-2147483648) ≤ qh ∧ qh ≤ 2147483647) → SQ qs 8 wg → va_P D vwCl [zI m19 (cy 0) 4 f19, zI m20 (cy 0) 32 f20, zI m21 (cy 0) 32 f21, zI m33 (cy 0) 1344 cg, zI m1 (cy 0) 4 (u4.2.2 0), zI m10 (cy 0) 68 f10, zO mm 12 [vI (u4.2.1 1), vR m1, vI tp, vI sz_, vI ap, vI bad, vI bk, vI opn, vI fp, vR m9, vR m10, vR m11, vR m12, vR m13, vR m14, vR m15, vI im, vI nr, vI nl, vR m19, vR m20, vR m21, vI sp_, vR m23, vR m24, vR m25, vR m26, vR m27, vR m28, vI wtc, vI wcl, vI ir, vI ip, vR m33, vI qh, vR m35, vI sfa, vI swr], zI m12 (cy 0) 389 wg, zI m14 (cy 0) 389 (u5.2.2 0)] H → va_D A [zI m19 (cy 0) 4 f19, zI m20 (cy 0) 32 f20, zI m21 (cy 0) 32 f21, zI m33 (cy 0) 1344 cg, zI m1 (cy 0) 4 (u4.2.2 0), zI m10 (cy 0) 68 f10, zO mm 12 [vI (u4.2.1 1), vR m1, vI tp, vI sz_, vI ap, vI bad, vI bk, vI opn, vI fp, vR m9, vR m10, vR m11, vR m12, vR m13, vR m14, vR m15, vI im, vI nr, vI nl, vR m19, vR m20, vR m21, vI sp_, vR m23, vR m24, vR m25, vR m26, vR m27, vR m28, vI wtc, vI wcl, vI ir, vI ip, vR m33, vI qh, vR m35, vI sfa, vI swr], zI m12 (cy 0) 389 wg, zI m14 (cy 0) 389 (u5.2.2 0)] → va_S A s.heap H locs → lv_has ls 8 [(3, vI q3), (0, vR mm), (1, vI n), (2, vI k)] → W p l e _ s m _ below meth c H locs _ _ _ (F0 m 45 ls [])) (((14 - 0) + 1 : Int)).toNat 0 shu f12 f33 _ _ _ (by omega) (by show (0 : Int) ≤ 0 ∧ (0 : Int) ≤ 14; decide) (by first | exact hr_shu | omega) hq5_0 hP hD hS hlv
        clear hP hD hS hlv
        intro fu
        induction fu with
        | zero => intro q3 qh wg cg H locs ls hm45 hl45_0 hl45_1 hiwg hP hD hS hlv; omega
        | succ fu ih45 =>
          intro q3 qh wg cg H locs ls hm45 hl45_0 hl45_1 hiwg hP hD hS hlv
          refine lv_iload_n hx hb dX12_look_45 rfl (lv_at hlv 0 rfl) ?_
          refine lv_aload_n hx hb dX12_look_46 rfl (lv_at hlv 1 rfl) ?_
          refine cjr_i [true, true, true, true, true, false, false, false, true] (fun pre9 => (va_runV (As := []) (rest := [vI q3]) ⟨hx, hb, hml, hown, hts⟩ (m_drains l hl D cy sa mm m1 m9 m10 m11 m12 m13 m14 m15 m19 m20 m21 m23 m24 m25 m26 m27 m28 m33 m35 (u4.2.1 1) tp sz_ ap bad bk opn fp im nr nl sp_ wtc wcl ir ip qh sfa swr f10 wg 8 H.size (by first | exact hq4_1 | omega) (by first | exact hr_tp | omega) (by first | exact hr_sz_ | omega) (by first | exact hr_ap | omega) (by first | exact hr_bad | omega) (by first | exact hr_bk | omega) (by first | exact hr_opn | omega) (by first | exact hr_fp | omega) (by first | exact hr_im | omega) (by first | exact hr_nr | omega) (by first | exact hr_nl | omega) (by first | exact hr_sp_ | omega) (by first | exact hr_wtc | omega) (by first | exact hr_wcl | omega) (by first | exact hr_ir | omega) (by first | exact hr_ip | omega) (by first | exact hl45_1 | omega) (by first | exact hr_sfa | omega) (by first | exact hr_swr | omega) (by show (8 : Int) ≤ 8 ∧ (8 : Int) ≤ 9; decide) hq4_4 (hiwg.1)) (cwV 0 hts gg_6 rfl rfl rfl (by decide +kernel) ⟨Nat.le_of_ble_eq_true rfl, Nat.le_of_ble_eq_true rfl⟩) ⟨pcW.blind, (va_recv hG.1 hP (ci := 12) (q0 := 6) rfl rfl), pre9⟩ rfl rfl hlv.1 rfl (lv_room (Nat.le_of_ble_eq_true rfl)) dX12_look_47 ⟨Nat.le_of_ble_eq_true rfl, Nat.le_of_ble_eq_true rfl⟩)) hP hD hS hA hG hT [6, 5, 7] rfl (by decide +kernel) (fun r6 u6 H locs hw6 hq9 hS => ?_)
          obtain ⟨rfl, hq6_1, hq6_2, hq6_3, hq6_4⟩ := hw6
          obtain ⟨hP, hD⟩ := pd9 [zI m19 (cy 0) 4 f19, zI m20 (cy 0) 32 f20, zI m21 (cy 0) 32 f21, zI m33 (cy 0) 1344 cg, zI m1 (cy 0) 4 (u4.2.2 0), zI m14 (cy 0) 389 (u5.2.2 0), zO mm 12 [vI (u4.2.1 1), vR m1, vI tp, vI sz_, vI ap, vI bad, vI bk, vI opn, vI fp, vR m9, vR m10, vR m11, vR m12, vR m13, vR m14, vR m15, vI im, vI nr, vI nl, vR m19, vR m20, vR m21, vI sp_, vR m23, vR m24, vR m25, vR m26, vR m27, vR m28, vI wtc, vI wcl, vI ir, vI ip, vR m33, vI qh, vR m35, vI sfa, vI swr], zI m10 (cy 0) 68 f10, zI m12 (cy 0) 389 wg] hq9
          refine ir_ge (tgt := 112) hx hb dX12_look_50 (by decide) (by first | exact rgw hl45_0 (by decide) (by decide) | omega) (by first | exact rgw hq6_1 (by decide) (by decide) | omega) (fun c_4 => ?_) (fun c_4 => ?_)
          · refine lv_aload_n hx hb dX12_look_112 rfl (lv_at hlv 1 rfl) ?_
            refine lv_iconst (v := iI (-1)) hx hb dX12_look_113 (by decide) ?_
            refine va_put (D := D) (ci := 12) (v := vI (-1)) (ty := .int) (C := RX12) (T := TX12) (N := 38) hx hb hts hi12 tyX12 tyX12_ok nmX12 hown hG.1 hP hD hS 6 rfl rfl 34 (by decide) lf71 (fun _ h9 => h9) rfl (by decide +kernel) rfl rfl (Nat.le_of_ble_eq_true rfl) dX12_look_114 (fun H locs hP hD hS => ?_)
            obtain ⟨hP, hD⟩ := pw9 [zI m19 (cy 0) 4 f19, zI m20 (cy 0) 32 f20, zI m21 (cy 0) 32 f21, zI m33 (cy 0) 1344 cg, zI m1 (cy 0) 4 (u4.2.2 0), zI m14 (cy 0) 389 (u5.2.2 0), zO mm 12 [vI (u4.2.1 1), vR m1, vI tp, vI sz_, vI ap, vI bad, vI bk, vI opn, vI fp, vR m9, vR m10, vR m11, vR m12, vR m13, vR m14, vR m15, vI im, vI nr, vI nl, vR m19, vR m20, vR m21, vI sp_, vR m23, vR m24, vR m25, vR m26, vR m27, vR m28, vI wtc, vI wcl, vI ir, vI ip, vR m33, vI (-1), vR m35, vI sfa, vI swr], zI m10 (cy 0) 68 f10, zI m12 (cy 0) 389 wg] hP hD
            refine lv_iconst (v := iI (-1)) hx hb dX12_look_117 (by decide) ?_
            refine lv_istore_n (lv' := [(3, vI (-1)), (0, vR mm), (1, vI n), (2, vI k)]) hx hb dX12_look_118 rfl hlv (by decide) rfl (fun ls hlv => ?_)
            refine lv_iconst (v := iI 0) hx hb dX12_look_119 (by decide) ?_
            refine lv_istore (lv' := [(4, vI 0), (3, vI (-1)), (0, vR mm), (1, vI n), (2, vI k)]) hx hb dX12_look_120 hlv (by decide) rfl (fun ls hlv => ?_)
            refine lv_iconst (v := iI 0) hx hb dX12_look_122 (by decide) ?_
            refine lv_istore (lv' := [(5, vI 0), (4, vI 0), (3, vI (-1)), (0, vR mm), (1, vI n), (2, vI k)]) hx hb dX12_look_123 hlv (by decide) rfl (fun ls hlv => ?_)
            refine (?_ : ∀ (fu : Nat) (r3 : Int) (r4 : Int) (r5 : Int) (H : Heap) (locs : List Loc) (ls : Array Slot), 16 - r5 < (fu : Int) → ((-1) ≤ r3 ∧ r3 ≤ 2000) → (0 ≤ r4 ∧ r4 ≤ 14) → (0 ≤ r5 ∧ r5 ≤ 16) → va_P D vwCl [zI m19 (cy 0) 4 f19, zI m20 (cy 0) 32 f20, zI m21 (cy 0) 32 f21, zI m33 (cy 0) 1344 cg, zI m1 (cy 0) 4 (u4.2.2 0), zI m14 (cy 0) 389 (u5.2.2 0), zO mm 12 [vI (u4.2.1 1), vR m1, vI tp, vI sz_, vI ap, vI bad, vI bk, vI opn, vI fp, vR m9, vR m10, vR m11, vR m12, vR m13, vR m14, vR m15, vI im, vI nr, vI nl, vR m19, vR m20, vR m21, vI sp_, vR m23, vR m24, vR m25, vR m26, vR m27, vR m28, vI wtc, vI wcl, vI ir, vI ip, vR m33, vI (-1), vR m35, vI sfa, vI swr], zI m10 (cy 0) 68 f10, zI m12 (cy 0) 389 wg] H → va_D A [zI m19 (cy 0) 4 f19, zI m20 (cy 0) 32 f20, zI m21 (cy 0) 32 f21, zI m33 (cy 0) 1344 cg, zI m1 (cy 0) 4 (u4.2.2 0), zI m14 (cy 0) 389 (u5.2.2 0), zO mm 12 [vI (u4.2.1 1), vR m1, vI tp, vI sz_, vI ap, vI bad, vI bk, vI opn, vI fp, vR m9, vR m10, vR m11, vR m12, vR m13, vR m14, vR m15, vI im, vI nr, vI nl, vR m19, vR m20, vR m21, vI sp_, vR m23, vR m24, vR m25, vR m26, vR m27, vR m28, vI wtc, vI wcl, vI ir, vI ip, vR m33, vI (-1), vR m35, vI sfa, vI swr], zI m10 (cy 0) 68 f10, zI m12 (cy 0) 389 wg] → va_S A s.heap H locs → lv_has ls 8 [(5, vI r5), (4, vI r4), (3, vI r3), (0, vR mm), (1, vI n), (2, vI k)] → W p l e _ s m _ below meth c H locs _ _ _ (F0 m 125 ls [])) (((16 - 0) + 1 : Int)).toNat (-1) 0 0 _ _ _ (by omega) (by show ((-1) : Int) ≤ (-1) ∧ ((-1) : Int) ≤ 2000; decide) (by show (0 : Int) ≤ 0 ∧ (0 : Int) ≤ 14; decide) (by show (0 : Int) ≤ 0 ∧ (0 : Int) ≤ 16; decide)  hP hD hS hlv
            clear hP hD hS hlv
            intro fu
            induction fu with
            | zero => intro r3 r4 r5 H locs ls hm125 hl125_0 hl125_1 hl125_2  hP hD hS hlv; omega
            | succ fu ih125 =>
              intro r3 r4 r5 H locs ls hm125 hl125_0 hl125_1 hl125_2  hP hD hS hlv
              refine lv_iload hx hb dX12_look_125 (lv_at hlv 0 rfl) ?_
              refine lv_aload_n hx hb dX12_look_127 rfl (lv_at hlv 3 rfl) ?_
              refine va_get (D := D) (ci := 12) (v := vR m10) (C := RX12) (T := TX12) (N := 38) hx hb hts hi12 hown hG.1 hP 6 rfl rfl 10 (by decide) lf23 (fun _ h9 => h9) rfl dX12_look_128 ?_
              refine lv_iconst (v := iI 0) hx hb dX12_look_131 (by decide) ?_
              refine va_iald hx hb hG.1 hP 7 0 rfl rfl (iI_in (by omega) (by decide)) dX12_look_132 ?_
              refine lt_nz (i := 0) (by omega) (fun z_5 hz_5 lz_5 uz_5 => ?_)
              have hz_5 : z_5 = nz f10 0 := hz_5
              have hbz_5_7 := hq6_3.1.1
              have hbz_5_8 := hq6_3.2.1
              have hbz_5_9 := hq6_3.2.2
              refine ir_ge (tgt := 210) hx hb dX12_look_133 (by decide) (by first | exact rgw hl125_2 (by decide) (by decide) | omega) (by omega) (fun c_6 => ?_) (fun c_6 => ?_)
              · refine lv_iload_n hx hb dX12_look_210 rfl (lv_at hlv 2 rfl) ?_
                refine lv_iconst (v := iI (-1)) hx hb dX12_look_211 (by decide) ?_
                refine ir_ne (tgt := 219) hx hb dX12_look_212 (by decide) (by first | exact rgw hl125_0 (by decide) (by decide) | omega) (by show ((-2147483648) : Int) ≤ (-1) ∧ ((-1) : Int) ≤ 2147483647; decide) (fun c_7 => ?_) (fun c_7 => ?_)
                · refine lv_iload_n hx hb dX12_look_219 rfl (lv_at hlv 5 rfl) ?_
                  refine iz_ne (tgt := 227) hx hb dX12_look_220 (by decide) (by first | exact hr_k | omega) (fun c_8 => ?_) (fun c_8 => ?_)
                  · refine lv_iload hx hb dX12_look_227 (lv_at hlv 1 rfl) ?_
                    refine W.widen (k := 0) (n := 0) (Nat.le_of_ble_eq_true rfl) (Nat.le_of_ble_eq_true rfl) ?_
                    exact W.iret (v := iI r4) hx hb hr (fun t ht hW => ⟨⟨iI r4, ((fun k => ([] : List Nat).getD k 0), (fun k => ([r4, (u4.2.1 1), (-1)] : List Int).getD k 0), (fun k => ([(u4.2.2 0), wg, (u5.2.2 0), cg] : List (Nat → Int32)).getD k (fun _ => 0))), rfl, ⟨rfl, (by show ((-2147483648) ≤ (u4.2.1 1) ∧ (u4.2.1 1) ≤ 2147483647); first | exact hq4_1 | omega), (by show ((-2147483648) ≤ (-1) ∧ (-1) ≤ 2147483647); show ((-2147483648) : Int) ≤ (-1) ∧ ((-1) : Int) ≤ 2147483647; decide), (by show ((-2147483648) ≤ r4 ∧ r4 ≤ 2147483647); first | exact rgw hl125_1 (by decide) (by decide) | omega), hq6_3, hiwg, (hq5_1.1), hf19⟩, at9 ht hP hD [6, 4, 7, 8, 5, 0, 1, 2, 3] (by decide +kernel) rfl⟩, hS.F ht⟩) hS.2.2 dX12_look_229
                  · refine lv_iload_n hx hb dX12_look_223 rfl (lv_at hlv 2 rfl) ?_
                    refine lv_goto (tgt := 229) hx hb dX12_look_224 (by decide) ?_
                    refine W.widen (k := 0) (n := 0) (Nat.le_of_ble_eq_true rfl) (Nat.le_of_ble_eq_true rfl) ?_
                    exact W.iret (v := iI r3) hx hb hr (fun t ht hW => ⟨⟨iI r3, ((fun k => ([] : List Nat).getD k 0), (fun k => ([r3, (u4.2.1 1), (-1)] : List Int).getD k 0), (fun k => ([(u4.2.2 0), wg, (u5.2.2 0), cg] : List (Nat → Int32)).getD k (fun _ => 0))), rfl, ⟨rfl, (by show ((-2147483648) ≤ (u4.2.1 1) ∧ (u4.2.1 1) ≤ 2147483647); first | exact hq4_1 | omega), (by show ((-2147483648) ≤ (-1) ∧ (-1) ≤ 2147483647); show ((-2147483648) : Int) ≤ (-1) ∧ ((-1) : Int) ≤ 2147483647; decide), (by show ((-2147483648) ≤ r3 ∧ r3 ≤ 2147483647); first | exact rgw hl125_0 (by decide) (by decide) | omega), hq6_3, hiwg, (hq5_1.1), hf19⟩, at9 ht hP hD [6, 4, 7, 8, 5, 0, 1, 2, 3] (by decide +kernel) rfl⟩, hS.F ht⟩) hS.2.2 dX12_look_229
                · refine lv_iconst (v := iI (-1)) hx hb dX12_look_215 (by decide) ?_
                  refine lv_goto (tgt := 229) hx hb dX12_look_216 (by decide) ?_
                  refine W.widen (k := 0) (n := 0) (Nat.le_of_ble_eq_true rfl) (Nat.le_of_ble_eq_true rfl) ?_
                  exact W.iret (v := iI (-1)) hx hb hr (fun t ht hW => ⟨⟨iI (-1), ((fun k => ([] : List Nat).getD k 0), (fun k => ([(-1), (u4.2.1 1), (-1)] : List Int).getD k 0), (fun k => ([(u4.2.2 0), wg, (u5.2.2 0), cg] : List (Nat → Int32)).getD k (fun _ => 0))), rfl, ⟨rfl, (by show ((-2147483648) ≤ (u4.2.1 1) ∧ (u4.2.1 1) ≤ 2147483647); first | exact hq4_1 | omega), (by show ((-2147483648) ≤ (-1) ∧ (-1) ≤ 2147483647); show ((-2147483648) : Int) ≤ (-1) ∧ ((-1) : Int) ≤ 2147483647; decide), (by show ((-2147483648) ≤ (-1) ∧ (-1) ≤ 2147483647); show ((-2147483648) : Int) ≤ (-1) ∧ ((-1) : Int) ≤ 2147483647; decide), hq6_3, hiwg, (hq5_1.1), hf19⟩, at9 ht hP hD [6, 4, 7, 8, 5, 0, 1, 2, 3] (by decide +kernel) rfl⟩, hS.F ht⟩) hS.2.2 dX12_look_229
              · refine lv_aload_n hx hb dX12_look_136 rfl (lv_at hlv 3 rfl) ?_
                refine cjr_i [true, true, true, true, true, true, false, false, false] (fun pre9 => (va_runV (As := []) (rest := []) ⟨hx, hb, hml, hown, hts⟩ (m_drains l hl D cy sa mm m1 m9 m10 m11 m12 m13 m14 m15 m19 m20 m21 m23 m24 m25 m26 m27 m28 m33 m35 (u4.2.1 1) tp sz_ ap bad bk opn fp im nr nl sp_ wtc wcl ir ip (-1) sfa swr f10 wg 8 H.size (by first | exact hq4_1 | omega) (by first | exact hr_tp | omega) (by first | exact hr_sz_ | omega) (by first | exact hr_ap | omega) (by first | exact hr_bad | omega) (by first | exact hr_bk | omega) (by first | exact hr_opn | omega) (by first | exact hr_fp | omega) (by first | exact hr_im | omega) (by first | exact hr_nr | omega) (by first | exact hr_nl | omega) (by first | exact hr_sp_ | omega) (by first | exact hr_wtc | omega) (by first | exact hr_wcl | omega) (by first | exact hr_ir | omega) (by first | exact hr_ip | omega) (by show ((-2147483648) : Int) ≤ (-1) ∧ ((-1) : Int) ≤ 2147483647; decide) (by first | exact hr_sfa | omega) (by first | exact hr_swr | omega) (by show (8 : Int) ≤ 8 ∧ (8 : Int) ≤ 9; decide) hq6_3 (hiwg.1)) (cwV 0 hts gg_6 rfl rfl rfl (by decide +kernel) ⟨Nat.le_of_ble_eq_true rfl, Nat.le_of_ble_eq_true rfl⟩) ⟨pcW.blind, (va_recv hG.1 hP (ci := 12) (q0 := 6) rfl rfl), pre9⟩ rfl rfl hlv.1 rfl (lv_room (Nat.le_of_ble_eq_true rfl)) dX12_look_137 ⟨Nat.le_of_ble_eq_true rfl, Nat.le_of_ble_eq_true rfl⟩)) hP hD hS hA hG hT [6, 7, 8] rfl (by decide +kernel) (fun r7 u7 H locs hw7 hq9 hS => ?_)
                obtain ⟨rfl, hq7_1, hq7_2, hq7_3, hq7_4⟩ := hw7
                obtain ⟨hP, hD⟩ := pd9 [zI m19 (cy 0) 4 f19, zI m20 (cy 0) 32 f20, zI m21 (cy 0) 32 f21, zI m33 (cy 0) 1344 cg, zI m1 (cy 0) 4 (u4.2.2 0), zI m14 (cy 0) 389 (u5.2.2 0), zO mm 12 [vI (u4.2.1 1), vR m1, vI tp, vI sz_, vI ap, vI bad, vI bk, vI opn, vI fp, vR m9, vR m10, vR m11, vR m12, vR m13, vR m14, vR m15, vI im, vI nr, vI nl, vR m19, vR m20, vR m21, vI sp_, vR m23, vR m24, vR m25, vR m26, vR m27, vR m28, vI wtc, vI wcl, vI ir, vI ip, vR m33, vI (-1), vR m35, vI sfa, vI swr], zI m10 (cy 0) 68 f10, zI m12 (cy 0) 389 wg] hq9
                refine iz_le (tgt := 210) hx hb dX12_look_140 (by decide) (by first | exact rgw hq7_1 (by decide) (by decide) | omega) (fun c_9 => ?_) (fun c_9 => ?_)
                · refine lv_iload_n hx hb dX12_look_210 rfl (lv_at hlv 2 rfl) ?_
                  refine lv_iconst (v := iI (-1)) hx hb dX12_look_211 (by decide) ?_
                  refine ir_ne (tgt := 219) hx hb dX12_look_212 (by decide) (by first | exact rgw hl125_0 (by decide) (by decide) | omega) (by show ((-2147483648) : Int) ≤ (-1) ∧ ((-1) : Int) ≤ 2147483647; decide) (fun c_10 => ?_) (fun c_10 => ?_)
                  · refine lv_iload_n hx hb dX12_look_219 rfl (lv_at hlv 5 rfl) ?_
                    refine iz_ne (tgt := 227) hx hb dX12_look_220 (by decide) (by first | exact hr_k | omega) (fun c_11 => ?_) (fun c_11 => ?_)
                    · refine lv_iload hx hb dX12_look_227 (lv_at hlv 1 rfl) ?_
                      refine W.widen (k := 0) (n := 0) (Nat.le_of_ble_eq_true rfl) (Nat.le_of_ble_eq_true rfl) ?_
                      exact W.iret (v := iI r4) hx hb hr (fun t ht hW => ⟨⟨iI r4, ((fun k => ([] : List Nat).getD k 0), (fun k => ([r4, (u4.2.1 1), (-1)] : List Int).getD k 0), (fun k => ([(u4.2.2 0), wg, (u5.2.2 0), cg] : List (Nat → Int32)).getD k (fun _ => 0))), rfl, ⟨rfl, (by show ((-2147483648) ≤ (u4.2.1 1) ∧ (u4.2.1 1) ≤ 2147483647); first | exact hq4_1 | omega), (by show ((-2147483648) ≤ (-1) ∧ (-1) ≤ 2147483647); show ((-2147483648) : Int) ≤ (-1) ∧ ((-1) : Int) ≤ 2147483647; decide), (by show ((-2147483648) ≤ r4 ∧ r4 ≤ 2147483647); first | exact rgw hl125_1 (by decide) (by decide) | omega), hq7_3, hiwg, (hq5_1.1), hf19⟩, at9 ht hP hD [6, 4, 7, 8, 5, 0, 1, 2, 3] (by decide +kernel) rfl⟩, hS.F ht⟩) hS.2.2 dX12_look_229
                    · refine lv_iload_n hx hb dX12_look_223 rfl (lv_at hlv 2 rfl) ?_
                      refine lv_goto (tgt := 229) hx hb dX12_look_224 (by decide) ?_
                      refine W.widen (k := 0) (n := 0) (Nat.le_of_ble_eq_true rfl) (Nat.le_of_ble_eq_true rfl) ?_
                      exact W.iret (v := iI r3) hx hb hr (fun t ht hW => ⟨⟨iI r3, ((fun k => ([] : List Nat).getD k 0), (fun k => ([r3, (u4.2.1 1), (-1)] : List Int).getD k 0), (fun k => ([(u4.2.2 0), wg, (u5.2.2 0), cg] : List (Nat → Int32)).getD k (fun _ => 0))), rfl, ⟨rfl, (by show ((-2147483648) ≤ (u4.2.1 1) ∧ (u4.2.1 1) ≤ 2147483647); first | exact hq4_1 | omega), (by show ((-2147483648) ≤ (-1) ∧ (-1) ≤ 2147483647); show ((-2147483648) : Int) ≤ (-1) ∧ ((-1) : Int) ≤ 2147483647; decide), (by show ((-2147483648) ≤ r3 ∧ r3 ≤ 2147483647); first | exact rgw hl125_0 (by decide) (by decide) | omega), hq7_3, hiwg, (hq5_1.1), hf19⟩, at9 ht hP hD [6, 4, 7, 8, 5, 0, 1, 2, 3] (by decide +kernel) rfl⟩, hS.F ht⟩) hS.2.2 dX12_look_229
                  · refine lv_iconst (v := iI (-1)) hx hb dX12_look_215 (by decide) ?_
                    refine lv_goto (tgt := 229) hx hb dX12_look_216 (by decide) ?_
                    refine W.widen (k := 0) (n := 0) (Nat.le_of_ble_eq_true rfl) (Nat.le_of_ble_eq_true rfl) ?_
                    exact W.iret (v := iI (-1)) hx hb hr (fun t ht hW => ⟨⟨iI (-1), ((fun k => ([] : List Nat).getD k 0), (fun k => ([(-1), (u4.2.1 1), (-1)] : List Int).getD k 0), (fun k => ([(u4.2.2 0), wg, (u5.2.2 0), cg] : List (Nat → Int32)).getD k (fun _ => 0))), rfl, ⟨rfl, (by show ((-2147483648) ≤ (u4.2.1 1) ∧ (u4.2.1 1) ≤ 2147483647); first | exact hq4_1 | omega), (by show ((-2147483648) ≤ (-1) ∧ (-1) ≤ 2147483647); show ((-2147483648) : Int) ≤ (-1) ∧ ((-1) : Int) ≤ 2147483647; decide), (by show ((-2147483648) ≤ (-1) ∧ (-1) ≤ 2147483647); show ((-2147483648) : Int) ≤ (-1) ∧ ((-1) : Int) ≤ 2147483647; decide), hq7_3, hiwg, (hq5_1.1), hf19⟩, at9 ht hP hD [6, 4, 7, 8, 5, 0, 1, 2, 3] (by decide +kernel) rfl⟩, hS.F ht⟩) hS.2.2 dX12_look_229
                · refine lv_iconst (v := iI 0) hx hb dX12_look_143 (by decide) ?_
                  refine lv_istore (lv' := [(6, vI 0), (5, vI r5), (4, vI r4), (3, vI r3), (0, vR mm), (1, vI n), (2, vI k)]) hx hb dX12_look_144 hlv (by decide) rfl (fun ls hlv => ?_)
                  refine (?_ : ∀ (fu : Nat) (t3 : Int) (t4 : Int) (t6 : Int) (H : Heap) (locs : List Loc) (ls : Array Slot), 6 - t6 < (fu : Int) → ((-1) ≤ t3 ∧ t3 ≤ 2000) → (0 ≤ t4 ∧ t4 ≤ 14) → (0 ≤ t6 ∧ t6 ≤ 6) → va_P D vwCl [zI m19 (cy 0) 4 f19, zI m20 (cy 0) 32 f20, zI m21 (cy 0) 32 f21, zI m33 (cy 0) 1344 cg, zI m1 (cy 0) 4 (u4.2.2 0), zI m14 (cy 0) 389 (u5.2.2 0), zO mm 12 [vI (u4.2.1 1), vR m1, vI tp, vI sz_, vI ap, vI bad, vI bk, vI opn, vI fp, vR m9, vR m10, vR m11, vR m12, vR m13, vR m14, vR m15, vI im, vI nr, vI nl, vR m19, vR m20, vR m21, vI sp_, vR m23, vR m24, vR m25, vR m26, vR m27, vR m28, vI wtc, vI wcl, vI ir, vI ip, vR m33, vI (-1), vR m35, vI sfa, vI swr], zI m10 (cy 0) 68 f10, zI m12 (cy 0) 389 wg] H → va_D A [zI m19 (cy 0) 4 f19, zI m20 (cy 0) 32 f20, zI m21 (cy 0) 32 f21, zI m33 (cy 0) 1344 cg, zI m1 (cy 0) 4 (u4.2.2 0), zI m14 (cy 0) 389 (u5.2.2 0), zO mm 12 [vI (u4.2.1 1), vR m1, vI tp, vI sz_, vI ap, vI bad, vI bk, vI opn, vI fp, vR m9, vR m10, vR m11, vR m12, vR m13, vR m14, vR m15, vI im, vI nr, vI nl, vR m19, vR m20, vR m21, vI sp_, vR m23, vR m24, vR m25, vR m26, vR m27, vR m28, vI wtc, vI wcl, vI ir, vI ip, vR m33, vI (-1), vR m35, vI sfa, vI swr], zI m10 (cy 0) 68 f10, zI m12 (cy 0) 389 wg] → va_S A s.heap H locs → lv_has ls 8 [(6, vI t6), (5, vI r5), (4, vI t4), (3, vI t3), (0, vR mm), (1, vI n), (2, vI k)] → W p l e _ s m _ below meth c H locs _ _ _ (F0 m 146 ls [])) (((6 - 0) + 1 : Int)).toNat r3 r4 0 _ _ _ (by omega) (by first | exact hl125_0 | omega) (by first | exact hl125_1 | omega) (by show (0 : Int) ≤ 0 ∧ (0 : Int) ≤ 6; decide)  hP hD hS hlv
                  clear hP hD hS hlv
                  intro fu
                  induction fu with
                  | zero => intro t3 t4 t6 H locs ls hm146 hl146_0 hl146_1 hl146_2  hP hD hS hlv; omega
                  | succ fu ih146 =>
                    intro t3 t4 t6 H locs ls hm146 hl146_0 hl146_1 hl146_2  hP hD hS hlv
                    refine lv_iload hx hb dX12_look_146 (lv_at hlv 0 rfl) ?_
                    refine lv_aload_n hx hb dX12_look_148 rfl (lv_at hlv 4 rfl) ?_
                    refine va_get (D := D) (ci := 12) (v := vR m10) (C := RX12) (T := TX12) (N := 38) hx hb hts hi12 hown hG.1 hP 6 rfl rfl 10 (by decide) lf23 (fun _ h9 => h9) rfl dX12_look_149 ?_
                    refine lv_iconst (v := iI 1) hx hb dX12_look_152 (by decide) ?_
                    refine va_iald hx hb hG.1 hP 7 0 rfl rfl (iI_in (by omega) (by decide)) dX12_look_153 ?_
                    refine lt_nz (i := 1) (by omega) (fun z_12 hz_12 lz_12 uz_12 => ?_)
                    have hz_12 : z_12 = nz f10 1 := hz_12
                    have hbz_12_7 := hq7_3.1.2.1
                    have hbz_12_8 := hq7_3.2.1
                    have hbz_12_9 := hq7_3.2.2
                    refine ir_ge (tgt := 204) hx hb dX12_look_154 (by decide) (by first | exact rgw hl146_2 (by decide) (by decide) | omega) (by omega) (fun c_13 => ?_) (fun c_13 => ?_)
                    · obtain ⟨z_14, hz_14⟩ : ∃ z : Int, z = r5 + 1 := ⟨_, rfl⟩
                      refine lv_iinc (v := iI z_14) (lv' := [(5, vI z_14), (6, vI t6), (4, vI t4), (3, vI t3), (0, vR mm), (1, vI n), (2, vI k)]) hx hb dX12_look_204 hlv (k := 1) rfl (by rw [hz_14]; exact (Int32.ofInt_add _ _).symm) (by decide) rfl (fun ls hlv => ?_)
                      refine lv_goto (tgt := 125) hx hb dX12_look_207 (by decide) ?_
                      exact ih125 t3 t4 z_14 H locs ls (by omega) (by first | exact hl146_0 | omega) (by first | exact hl146_1 | omega) (by omega)  (hP.sub [0, 1, 2, 3, 4, 5, 6, 7, 8] rfl) (hD.sub [0, 1, 2, 3, 4, 5, 6, 7, 8] (by decide) rfl) hS (lv_sub hlv [0, 2, 3, 4, 5, 6] rfl)
                    · refine lv_aload_n hx hb dX12_look_157 rfl (lv_at hlv 4 rfl) ?_
                      refine lv_iload hx hb dX12_look_158 (lv_at hlv 1 rfl) ?_
                      refine lv_iload hx hb dX12_look_160 (lv_at hlv 0 rfl) ?_
                      refine cjr_i [true, true, true, true, true, true, true, true, true] (fun pre9 => (va_runS (As := [vI r5, vI t6]) (rest := [vR mm]) ⟨hx, hb, hml, hown, hts⟩ (m_at l hl D cy sa r5 t6 H.size (by omega) (by omega)) (va_cwS 2 hts gg_7 rfl rfl rfl (by decide +kernel) ⟨Nat.le_of_ble_eq_true rfl, Nat.le_of_ble_eq_true rfl⟩) ⟨pcW.blind, pre9⟩ rfl rfl hlv.1 rfl (lv_room (Nat.le_of_ble_eq_true rfl)) dX12_look_162 ⟨Nat.le_of_ble_eq_true rfl, Nat.le_of_ble_eq_true rfl⟩)) hP hD hS hA hG hT [] rfl (by decide +kernel) (fun r8 u8 H locs hw8 hq9 hS => ?_)
                      obtain ⟨rfl, hq8_1, hq8_2⟩ := hw8
                      obtain ⟨hP, hD⟩ := pd9 [zI m19 (cy 0) 4 f19, zI m20 (cy 0) 32 f20, zI m21 (cy 0) 32 f21, zI m33 (cy 0) 1344 cg, zI m1 (cy 0) 4 (u4.2.2 0), zI m14 (cy 0) 389 (u5.2.2 0), zO mm 12 [vI (u4.2.1 1), vR m1, vI tp, vI sz_, vI ap, vI bad, vI bk, vI opn, vI fp, vR m9, vR m10, vR m11, vR m12, vR m13, vR m14, vR m15, vI im, vI nr, vI nl, vR m19, vR m20, vR m21, vI sp_, vR m23, vR m24, vR m25, vR m26, vR m27, vR m28, vI wtc, vI wcl, vI ir, vI ip, vR m33, vI (-1), vR m35, vI sfa, vI swr], zI m10 (cy 0) 68 f10, zI m12 (cy 0) 389 wg] hq9
                      refine cjr_i [true, true, true, false, true, true, false, false, false] (fun pre9 => (va_runV (As := [vI (u8.2.1 0)]) (rest := []) ⟨hx, hb, hml, hown, hts⟩ (m_kindsOf l hl D cy sa mm m1 m9 m10 m11 m12 m13 m14 m15 m19 m20 m21 m23 m24 m25 m26 m27 m28 m33 m35 (u4.2.1 1) tp sz_ ap bad bk opn fp im nr nl sp_ wtc wcl ir ip (-1) sfa swr f10 wg cg (u8.2.1 0) H.size (by first | exact hq4_1 | omega) (by first | exact hr_tp | omega) (by first | exact hr_sz_ | omega) (by first | exact hr_ap | omega) (by first | exact hr_bad | omega) (by first | exact hr_bk | omega) (by first | exact hr_opn | omega) (by first | exact hr_fp | omega) (by first | exact hr_im | omega) (by first | exact hr_nr | omega) (by first | exact hr_nl | omega) (by first | exact hr_sp_ | omega) (by first | exact hr_wtc | omega) (by first | exact hr_wcl | omega) (by first | exact hr_ir | omega) (by first | exact hr_ip | omega) (by show ((-2147483648) : Int) ≤ (-1) ∧ ((-1) : Int) ≤ 2147483647; decide) (by first | exact hr_sfa | omega) (by first | exact hr_swr | omega) (by first | exact hq8_1 | omega) hq7_3 (hiwg.1)) (cwV 1 hts gg_8 rfl rfl rfl (by decide +kernel) ⟨Nat.le_of_ble_eq_true rfl, Nat.le_of_ble_eq_true rfl⟩) ⟨pcW.blind, (va_recv hG.1 hP (ci := 12) (q0 := 6) rfl rfl), pre9⟩ rfl rfl hlv.1 rfl (lv_room (Nat.le_of_ble_eq_true rfl)) dX12_look_165 ⟨Nat.le_of_ble_eq_true rfl, Nat.le_of_ble_eq_true rfl⟩)) hP hD hS hA hG hT [6, 7, 8, 3] rfl (by decide +kernel) (fun r9 u9 H locs hw9 hq9 hS => ?_)
                      obtain ⟨rfl, hq9_1, hq9_2, hq9_3⟩ := hw9
                      obtain ⟨hP, hD⟩ := pd9 [zI m19 (cy 0) 4 f19, zI m20 (cy 0) 32 f20, zI m21 (cy 0) 32 f21, zI m1 (cy 0) 4 (u4.2.2 0), zI m14 (cy 0) 389 (u5.2.2 0), zO mm 12 [vI (u4.2.1 1), vR m1, vI tp, vI sz_, vI ap, vI bad, vI bk, vI opn, vI fp, vR m9, vR m10, vR m11, vR m12, vR m13, vR m14, vR m15, vI im, vI nr, vI nl, vR m19, vR m20, vR m21, vI sp_, vR m23, vR m24, vR m25, vR m26, vR m27, vR m28, vI wtc, vI wcl, vI ir, vI ip, vR m33, vI (-1), vR m35, vI sfa, vI swr], zI m10 (cy 0) 68 f10, zI m12 (cy 0) 389 wg, zI m33 (cy 0) 1344 cg] hq9
                      refine lv_istore (lv' := [(7, vI (u9.2.1 0)), (6, vI t6), (5, vI r5), (4, vI t4), (3, vI t3), (0, vR mm), (1, vI n), (2, vI k)]) hx hb dX12_look_168 hlv (by decide) rfl (fun ls hlv => ?_)
                      refine lv_iload_n hx hb dX12_look_170 rfl (lv_at hlv 4 rfl) ?_
                      refine lv_iconst (v := iI (-1)) hx hb dX12_look_171 (by decide) ?_
                      refine ir_eq (tgt := 185) hx hb dX12_look_172 (by decide) (by first | exact rgw hl146_0 (by decide) (by decide) | omega) (by show ((-2147483648) : Int) ≤ (-1) ∧ ((-1) : Int) ≤ 2147483647; decide) (fun c_15 => ?_) (fun c_15 => ?_)
                      · refine lv_bipush (v := iI 100) hx hb dX12_look_185 (by decide) ?_
                        refine lv_iload hx hb dX12_look_187 (lv_at hlv 2 rfl) ?_
                        refine lv_imul hx hb dX12_look_189 ?_
                        refine lt_e (e0 := 100 * r5) (Int32.ofInt_mul _ _).symm (fun z_16 hz_16 => ?_)
                        refine lv_iload hx hb dX12_look_190 (lv_at hlv 1 rfl) ?_
                        refine lv_iadd hx hb dX12_look_192 ?_
                        refine lt_e (e0 := z_16 + t6) (Int32.ofInt_add _ _).symm (fun z_17 hz_17 => ?_)
                        refine lv_istore_n (lv' := [(3, vI z_17), (7, vI (u9.2.1 0)), (6, vI t6), (5, vI r5), (4, vI t4), (0, vR mm), (1, vI n), (2, vI k)]) hx hb dX12_look_193 rfl hlv (by decide) rfl (fun ls hlv => ?_)
                        refine lv_iload hx hb dX12_look_194 (lv_at hlv 1 rfl) ?_
                        refine lv_istore (lv' := [(4, vI (u9.2.1 0)), (3, vI z_17), (7, vI (u9.2.1 0)), (6, vI t6), (5, vI r5), (0, vR mm), (1, vI n), (2, vI k)]) hx hb dX12_look_196 hlv (by decide) rfl (fun ls hlv => ?_)
                        obtain ⟨z_18, hz_18⟩ : ∃ z : Int, z = t6 + 1 := ⟨_, rfl⟩
                        refine lv_iinc (v := iI z_18) (lv' := [(6, vI z_18), (4, vI (u9.2.1 0)), (3, vI z_17), (7, vI (u9.2.1 0)), (5, vI r5), (0, vR mm), (1, vI n), (2, vI k)]) hx hb dX12_look_198 hlv (k := 3) rfl (by rw [hz_18]; exact (Int32.ofInt_add _ _).symm) (by decide) rfl (fun ls hlv => ?_)
                        refine lv_goto (tgt := 146) hx hb dX12_look_201 (by decide) ?_
                        exact ih146 z_17 (u9.2.1 0) z_18 H locs ls (by omega) (by omega) (by first | exact hq9_1 | omega) (by omega)  (hP.sub [0, 1, 2, 8, 3, 4, 5, 6, 7] rfl) (hD.sub [0, 1, 2, 8, 3, 4, 5, 6, 7] (by decide) rfl) hS (lv_sub hlv [0, 4, 1, 2, 5, 6, 7] rfl)
                      · refine lv_iload hx hb dX12_look_175 (lv_at hlv 0 rfl) ?_
                        refine lv_iload hx hb dX12_look_177 (lv_at hlv 3 rfl) ?_
                        refine ir_gt (tgt := 185) hx hb dX12_look_179 (by decide) (by first | exact rgw hq9_1 (by decide) (by decide) | omega) (by first | exact rgw hl146_1 (by decide) (by decide) | omega) (fun c_19 => ?_) (fun c_19 => ?_)
                        · refine lv_bipush (v := iI 100) hx hb dX12_look_185 (by decide) ?_
                          refine lv_iload hx hb dX12_look_187 (lv_at hlv 2 rfl) ?_
                          refine lv_imul hx hb dX12_look_189 ?_
                          refine lt_e (e0 := 100 * r5) (Int32.ofInt_mul _ _).symm (fun z_20 hz_20 => ?_)
                          refine lv_iload hx hb dX12_look_190 (lv_at hlv 1 rfl) ?_
                          refine lv_iadd hx hb dX12_look_192 ?_
                          refine lt_e (e0 := z_20 + t6) (Int32.ofInt_add _ _).symm (fun z_21 hz_21 => ?_)
                          refine lv_istore_n (lv' := [(3, vI z_21), (7, vI (u9.2.1 0)), (6, vI t6), (5, vI r5), (4, vI t4), (0, vR mm), (1, vI n), (2, vI k)]) hx hb dX12_look_193 rfl hlv (by decide) rfl (fun ls hlv => ?_)
                          refine lv_iload hx hb dX12_look_194 (lv_at hlv 1 rfl) ?_
                          refine lv_istore (lv' := [(4, vI (u9.2.1 0)), (3, vI z_21), (7, vI (u9.2.1 0)), (6, vI t6), (5, vI r5), (0, vR mm), (1, vI n), (2, vI k)]) hx hb dX12_look_196 hlv (by decide) rfl (fun ls hlv => ?_)
                          obtain ⟨z_22, hz_22⟩ : ∃ z : Int, z = t6 + 1 := ⟨_, rfl⟩
                          refine lv_iinc (v := iI z_22) (lv' := [(6, vI z_22), (4, vI (u9.2.1 0)), (3, vI z_21), (7, vI (u9.2.1 0)), (5, vI r5), (0, vR mm), (1, vI n), (2, vI k)]) hx hb dX12_look_198 hlv (k := 3) rfl (by rw [hz_22]; exact (Int32.ofInt_add _ _).symm) (by decide) rfl (fun ls hlv => ?_)
                          refine lv_goto (tgt := 146) hx hb dX12_look_201 (by decide) ?_
                          exact ih146 z_21 (u9.2.1 0) z_22 H locs ls (by omega) (by omega) (by first | exact hq9_1 | omega) (by omega)  (hP.sub [0, 1, 2, 8, 3, 4, 5, 6, 7] rfl) (hD.sub [0, 1, 2, 8, 3, 4, 5, 6, 7] (by decide) rfl) hS (lv_sub hlv [0, 4, 1, 2, 5, 6, 7] rfl)
                        · refine lv_goto (tgt := 198) hx hb dX12_look_182 (by decide) ?_
                          obtain ⟨z_23, hz_23⟩ : ∃ z : Int, z = t6 + 1 := ⟨_, rfl⟩
                          refine lv_iinc (v := iI z_23) (lv' := [(6, vI z_23), (7, vI (u9.2.1 0)), (5, vI r5), (4, vI t4), (3, vI t3), (0, vR mm), (1, vI n), (2, vI k)]) hx hb dX12_look_198 hlv (k := 1) rfl (by rw [hz_23]; exact (Int32.ofInt_add _ _).symm) (by decide) rfl (fun ls hlv => ?_)
                          refine lv_goto (tgt := 146) hx hb dX12_look_201 (by decide) ?_
                          exact ih146 t3 t4 z_23 H locs ls (by omega) (by first | exact hl146_0 | omega) (by first | exact hl146_1 | omega) (by omega)  (hP.sub [0, 1, 2, 8, 3, 4, 5, 6, 7] rfl) (hD.sub [0, 1, 2, 8, 3, 4, 5, 6, 7] (by decide) rfl) hS (lv_sub hlv [0, 2, 3, 4, 5, 6, 7] rfl)
          · refine lv_aload_n hx hb dX12_look_53 rfl (lv_at hlv 1 rfl) ?_
            refine lv_iload_n hx hb dX12_look_54 rfl (lv_at hlv 0 rfl) ?_
            refine va_put (D := D) (ci := 12) (v := vI q3) (ty := .int) (C := RX12) (T := TX12) (N := 38) hx hb hts hi12 tyX12 tyX12_ok nmX12 hown hG.1 hP hD hS 6 rfl rfl 34 (by decide) lf71 (fun _ h9 => h9) rfl (by decide +kernel) rfl rfl (Nat.le_of_ble_eq_true rfl) dX12_look_55 (fun H locs hP hD hS => ?_)
            obtain ⟨hP, hD⟩ := pw9 [zI m19 (cy 0) 4 f19, zI m20 (cy 0) 32 f20, zI m21 (cy 0) 32 f21, zI m33 (cy 0) 1344 cg, zI m1 (cy 0) 4 (u4.2.2 0), zI m14 (cy 0) 389 (u5.2.2 0), zO mm 12 [vI (u4.2.1 1), vR m1, vI tp, vI sz_, vI ap, vI bad, vI bk, vI opn, vI fp, vR m9, vR m10, vR m11, vR m12, vR m13, vR m14, vR m15, vI im, vI nr, vI nl, vR m19, vR m20, vR m21, vI sp_, vR m23, vR m24, vR m25, vR m26, vR m27, vR m28, vI wtc, vI wcl, vI ir, vI ip, vR m33, vI q3, vR m35, vI sfa, vI swr], zI m10 (cy 0) 68 f10, zI m12 (cy 0) 389 wg] hP hD
            refine lv_aload_n hx hb dX12_look_58 rfl (lv_at hlv 1 rfl) ?_
            refine lv_iload_n hx hb dX12_look_59 rfl (lv_at hlv 2 rfl) ?_
            refine cjr_i [false, false, false, true, true, true, false, false, false] (fun pre9 => (va_runV (As := [vI n]) (rest := []) ⟨hx, hb, hml, hown, hts⟩ (m_showers l hl D cy sa mm m1 m9 m10 m11 m12 m13 m14 m15 m19 m20 m21 m23 m24 m25 m26 m27 m28 m33 m35 (u4.2.1 1) tp sz_ ap bad bk opn fp im nr nl sp_ wtc wcl ir ip q3 sfa swr f10 wg f19 f20 f21 n qs H.size (by first | exact hq4_1 | omega) (by first | exact hr_tp | omega) (by first | exact hr_sz_ | omega) (by first | exact hr_ap | omega) (by first | exact hr_bad | omega) (by first | exact hr_bk | omega) (by first | exact hr_opn | omega) (by first | exact hr_fp | omega) (by first | exact hr_im | omega) (by first | exact hr_nr | omega) (by first | exact hr_nl | omega) (by first | exact hr_sp_ | omega) (by first | exact hr_wtc | omega) (by first | exact hr_wcl | omega) (by first | exact hr_ir | omega) (by first | exact hr_ip | omega) (by first | exact rgw hl45_0 (by decide) (by decide) | omega) (by first | exact hr_sfa | omega) (by first | exact hr_swr | omega) (by omega) hq6_3 hiwg hf19) (cwV 1 hts gg_9 rfl rfl rfl (by decide +kernel) ⟨Nat.le_of_ble_eq_true rfl, Nat.le_of_ble_eq_true rfl⟩) ⟨pcW.blind, (va_recv hG.1 hP (ci := 12) (q0 := 6) rfl rfl), pre9⟩ rfl rfl hlv.1 rfl (lv_room (Nat.le_of_ble_eq_true rfl)) dX12_look_60 ⟨Nat.le_of_ble_eq_true rfl, Nat.le_of_ble_eq_true rfl⟩)) hP hD hS hA hG hT [6, 7, 8, 0, 1, 2] rfl (by decide +kernel) (fun r10 u10 H locs hw10 hq9 hS => ?_)
            obtain ⟨rfl, hq10_1, hq10_2, hq10_3, hq10_4⟩ := hw10
            obtain ⟨hP, hD⟩ := pd9 [zI m33 (cy 0) 1344 cg, zI m1 (cy 0) 4 (u4.2.2 0), zI m14 (cy 0) 389 (u5.2.2 0), zO mm 12 [vI (u4.2.1 1), vR m1, vI tp, vI sz_, vI ap, vI bad, vI bk, vI opn, vI fp, vR m9, vR m10, vR m11, vR m12, vR m13, vR m14, vR m15, vI im, vI nr, vI nl, vR m19, vR m20, vR m21, vI sp_, vR m23, vR m24, vR m25, vR m26, vR m27, vR m28, vI wtc, vI wcl, vI ir, vI ip, vR m33, vI q3, vR m35, vI sfa, vI swr], zI m10 (cy 0) 68 f10, zI m12 (cy 0) 389 (u10.2.2 0), zI m19 (cy 0) 4 f19, zI m20 (cy 0) 32 f20, zI m21 (cy 0) 32 f21] hq9
            refine lv_pop hx hb dX12_look_63 rfl ?_
            refine lv_iconst (v := iI 0) hx hb dX12_look_64 (by decide) ?_
            refine lv_istore (lv' := [(4, vI 0), (3, vI q3), (0, vR mm), (1, vI n), (2, vI k)]) hx hb dX12_look_65 hlv (by decide) rfl (fun ls hlv => ?_)
            refine (?_ : ∀ (fu : Nat) (q4 : Int) (ch : Nat → Int32) (H : Heap) (locs : List Loc) (ls : Array Slot), 96 - q4 < (fu : Int) → (0 ≤ q4 ∧ q4 ≤ 96) → va_P D vwCl [zI m33 (cy 0) 1344 ch, zI m1 (cy 0) 4 (u4.2.2 0), zI m14 (cy 0) 389 (u5.2.2 0), zO mm 12 [vI (u4.2.1 1), vR m1, vI tp, vI sz_, vI ap, vI bad, vI bk, vI opn, vI fp, vR m9, vR m10, vR m11, vR m12, vR m13, vR m14, vR m15, vI im, vI nr, vI nl, vR m19, vR m20, vR m21, vI sp_, vR m23, vR m24, vR m25, vR m26, vR m27, vR m28, vI wtc, vI wcl, vI ir, vI ip, vR m33, vI q3, vR m35, vI sfa, vI swr], zI m10 (cy 0) 68 f10, zI m12 (cy 0) 389 (u10.2.2 0), zI m19 (cy 0) 4 f19, zI m20 (cy 0) 32 f20, zI m21 (cy 0) 32 f21] H → va_D A [zI m33 (cy 0) 1344 ch, zI m1 (cy 0) 4 (u4.2.2 0), zI m14 (cy 0) 389 (u5.2.2 0), zO mm 12 [vI (u4.2.1 1), vR m1, vI tp, vI sz_, vI ap, vI bad, vI bk, vI opn, vI fp, vR m9, vR m10, vR m11, vR m12, vR m13, vR m14, vR m15, vI im, vI nr, vI nl, vR m19, vR m20, vR m21, vI sp_, vR m23, vR m24, vR m25, vR m26, vR m27, vR m28, vI wtc, vI wcl, vI ir, vI ip, vR m33, vI q3, vR m35, vI sfa, vI swr], zI m10 (cy 0) 68 f10, zI m12 (cy 0) 389 (u10.2.2 0), zI m19 (cy 0) 4 f19, zI m20 (cy 0) 32 f20, zI m21 (cy 0) 32 f21] → va_S A s.heap H locs → lv_has ls 8 [(4, vI q4), (3, vI q3), (0, vR mm), (1, vI n), (2, vI k)] → W p l e _ s m _ below meth c H locs _ _ _ (F0 m 67 ls [])) (((96 - 0) + 1 : Int)).toNat 0 cg _ _ _ (by omega) (by show (0 : Int) ≤ 0 ∧ (0 : Int) ≤ 96; decide)  hP hD hS hlv
            clear hP hD hS hlv
            intro fu
            induction fu with
            | zero => intro q4 ch H locs ls hm67 hl67_0  hP hD hS hlv; omega
            | succ fu ih67 =>
              intro q4 ch H locs ls hm67 hl67_0  hP hD hS hlv
              refine lv_iload hx hb dX12_look_67 (lv_at hlv 0 rfl) ?_
              refine lv_bipush (v := iI 96) hx hb dX12_look_69 (by decide) ?_
              refine ir_ge (tgt := 102) hx hb dX12_look_71 (by decide) (by first | exact rgw hl67_0 (by decide) (by decide) | omega) (by show ((-2147483648) : Int) ≤ 96 ∧ (96 : Int) ≤ 2147483647; decide) (fun c_24 => ?_) (fun c_24 => ?_)
              · refine lv_aload_n hx hb dX12_look_102 rfl (lv_at hlv 2 rfl) ?_
                refine cjr_v [true, true, false, false, true, false, true, true, true] (fun pre9 => (va_runV (As := []) (rest := []) ⟨hx, hb, hml, hown, hts⟩ (m_back l hl D cy sa mm m1 m9 m10 m11 m12 m13 m14 m15 m19 m20 m21 m23 m24 m25 m26 m27 m28 m33 m35 (u4.2.1 1) tp sz_ ap bad bk opn fp im nr nl sp_ wtc wcl ir ip q3 sfa swr (u10.2.2 0) (u5.2.2 0) 8 qs H.size (by first | exact hq4_1 | omega) (by first | exact hr_tp | omega) (by first | exact hr_sz_ | omega) (by first | exact hr_ap | omega) (by first | exact hr_bad | omega) (by first | exact hr_bk | omega) (by first | exact hr_opn | omega) (by first | exact hr_fp | omega) (by first | exact hr_im | omega) (by first | exact hr_nr | omega) (by first | exact hr_nl | omega) (by first | exact hr_sp_ | omega) (by first | exact hr_wtc | omega) (by first | exact hr_wcl | omega) (by first | exact hr_ir | omega) (by first | exact hr_ip | omega) (by first | exact rgw hl45_0 (by decide) (by decide) | omega) (by first | exact hr_sfa | omega) (by first | exact hr_swr | omega) (by show (8 : Int) ≤ 8 ∧ (8 : Int) ≤ 9; decide) (hq10_3.1) hq5_1) (cwV 0 hts gg_10 rfl rfl rfl (by decide +kernel) ⟨Nat.le_of_ble_eq_true rfl, Nat.le_of_ble_eq_true rfl⟩) ⟨pcW.blind, (va_recv hG.1 hP (ci := 12) (q0 := 3) rfl rfl), pre9⟩ rfl rfl hlv.1 rfl (lv_room (Nat.le_of_ble_eq_true rfl)) dX12_look_103 ⟨Nat.le_of_ble_eq_true rfl, Nat.le_of_ble_eq_true rfl⟩)) hP hD hS hA hG hT [3, 5, 2] rfl (by decide +kernel) (fun u11 H locs hw11 hq9 hS => ?_)
                obtain ⟨hq11_0, hq11_1⟩ := hw11
                obtain ⟨hP, hD⟩ := pd9 [zI m33 (cy 0) 1344 ch, zI m1 (cy 0) 4 (u4.2.2 0), zI m10 (cy 0) 68 f10, zI m19 (cy 0) 4 f19, zI m20 (cy 0) 32 f20, zI m21 (cy 0) 32 f21, zO mm 12 [vI (u4.2.1 1), vR m1, vI tp, vI sz_, vI ap, vI bad, vI bk, vI opn, vI fp, vR m9, vR m10, vR m11, vR m12, vR m13, vR m14, vR m15, vI im, vI nr, vI nl, vR m19, vR m20, vR m21, vI sp_, vR m23, vR m24, vR m25, vR m26, vR m27, vR m28, vI wtc, vI wcl, vI ir, vI ip, vR m33, vI q3, vR m35, vI sfa, vI swr], zI m12 (cy 0) 389 (u11.2.2 0), zI m14 (cy 0) 389 (u5.2.2 0)] hq9
                obtain ⟨z_25, hz_25⟩ : ∃ z : Int, z = q3 + 1 := ⟨_, rfl⟩
                refine lv_iinc (v := iI z_25) (lv' := [(3, vI z_25), (4, vI q4), (0, vR mm), (1, vI n), (2, vI k)]) hx hb dX12_look_106 hlv (k := 1) rfl (by rw [hz_25]; exact (Int32.ofInt_add _ _).symm) (by decide) rfl (fun ls hlv => ?_)
                refine lv_goto (tgt := 45) hx hb dX12_look_109 (by decide) ?_
                exact ih45 z_25 q3 (u11.2.2 0) ch H locs ls (by omega) (by omega) (by first | exact rgw hl45_0 (by decide) (by decide) | omega) hq11_0 (hP.sub [3, 4, 5, 0, 1, 2, 6, 7, 8] rfl) (hD.sub [3, 4, 5, 0, 1, 2, 6, 7, 8] (by decide) rfl) hS (lv_sub hlv [0, 2, 3, 4] rfl)
              · refine lv_aload_n hx hb dX12_look_74 rfl (lv_at hlv 2 rfl) ?_
                refine va_get (D := D) (ci := 12) (v := vR m33) (C := RX12) (T := TX12) (N := 38) hx hb hts hi12 hown hG.1 hP 3 rfl rfl 33 (by decide) lf68 (fun _ h9 => h9) rfl dX12_look_75 ?_
                refine lv_bipush (v := iI 96) hx hb dX12_look_78 (by decide) ?_
                refine lv_iload_n hx hb dX12_look_80 rfl (lv_at hlv 1 rfl) ?_
                refine lv_imul hx hb dX12_look_81 ?_
                refine lt_e (e0 := 96 * q3) (Int32.ofInt_mul _ _).symm (fun z_26 hz_26 => ?_)
                refine lv_iload hx hb dX12_look_82 (lv_at hlv 0 rfl) ?_
                refine lv_iadd hx hb dX12_look_84 ?_
                refine lt_e (e0 := z_26 + q4) (Int32.ofInt_add _ _).symm (fun z_27 hz_27 => ?_)
                refine lv_aload_n hx hb dX12_look_85 rfl (lv_at hlv 2 rfl) ?_
                refine va_get (D := D) (ci := 12) (v := vR m12) (C := RX12) (T := TX12) (N := 38) hx hb hts hi12 hown hG.1 hP 3 rfl rfl 12 (by decide) lf29 (fun _ h9 => h9) rfl dX12_look_86 ?_
                refine lv_bipush (v := iI 96) hx hb dX12_look_89 (by decide) ?_
                refine lv_iload hx hb dX12_look_91 (lv_at hlv 0 rfl) ?_
                refine lv_iadd hx hb dX12_look_93 ?_
                refine lt_e (e0 := 96 + q4) (Int32.ofInt_add _ _).symm (fun z_28 hz_28 => ?_)
                refine va_iald hx hb hG.1 hP 5 0 rfl rfl (iI_in (by omega) (by decide)) dX12_look_94 ?_
                refine lt_nz (i := z_28) (by omega) (fun z_29 hz_29 lz_29 uz_29 => ?_)
                refine va_iast hx hb hG.1 hP hD hS 0 0 rfl rfl (iI_in (by omega) (by decide)) dX12_look_95 (fun H locs hP hD hS => ?_)
                obtain ⟨f_30, hP, hD⟩ := pe9 (fun f_30 => [zI m33 (cy 0) 1344 f_30, zI m1 (cy 0) 4 (u4.2.2 0), zI m14 (cy 0) 389 (u5.2.2 0), zO mm 12 [vI (u4.2.1 1), vR m1, vI tp, vI sz_, vI ap, vI bad, vI bk, vI opn, vI fp, vR m9, vR m10, vR m11, vR m12, vR m13, vR m14, vR m15, vI im, vI nr, vI nl, vR m19, vR m20, vR m21, vI sp_, vR m23, vR m24, vR m25, vR m26, vR m27, vR m28, vI wtc, vI wcl, vI ir, vI ip, vR m33, vI q3, vR m35, vI sfa, vI swr], zI m10 (cy 0) 68 f10, zI m12 (cy 0) 389 (u10.2.2 0), zI m19 (cy 0) 4 f19, zI m20 (cy 0) 32 f20, zI m21 (cy 0) 32 f21]) _ hP hD
                obtain ⟨z_31, hz_31⟩ : ∃ z : Int, z = q4 + 1 := ⟨_, rfl⟩
                refine lv_iinc (v := iI z_31) (lv' := [(4, vI z_31), (3, vI q3), (0, vR mm), (1, vI n), (2, vI k)]) hx hb dX12_look_96 hlv (k := 0) rfl (by rw [hz_31]; exact (Int32.ofInt_add _ _).symm) (by decide) rfl (fun ls hlv => ?_)
                refine lv_goto (tgt := 67) hx hb dX12_look_99 (by decide) ?_
                exact ih67 z_31 f_30 H locs ls (by omega) (by omega)  (hP.sub [0, 1, 2, 3, 4, 5, 6, 7, 8] rfl) (hD.sub [0, 1, 2, 3, 4, 5, 6, 7, 8] (by decide) rfl) hS (lv_sub hlv [0, 1, 2, 3, 4] rfl)
      · refine lv_iconst (v := iI 0) hx hb dX12_look_37 (by decide) ?_
        refine W.widen (k := 0) (n := 0) (Nat.le_of_ble_eq_true rfl) (Nat.le_of_ble_eq_true rfl) ?_
        exact W.iret (v := iI 0) hx hb hr (fun t ht hW => ⟨⟨iI 0, ((fun k => ([] : List Nat).getD k 0), (fun k => ([0, (u4.2.1 1), shu] : List Int).getD k 0), (fun k => ([(u4.2.2 0), f12, f14, f33] : List (Nat → Int32)).getD k (fun _ => 0))), rfl, ⟨rfl, (by show ((-2147483648) ≤ (u4.2.1 1) ∧ (u4.2.1 1) ≤ 2147483647); first | exact hq4_1 | omega), (by show ((-2147483648) ≤ shu ∧ shu ≤ 2147483647); first | exact hr_shu | omega), (by show ((-2147483648) ≤ 0 ∧ 0 ≤ 2147483647); show ((-2147483648) : Int) ≤ 0 ∧ (0 : Int) ≤ 2147483647; decide), hq4_4, hf12, hf14, hf19⟩, at9 ht hP hD [5, 6, 7, 8, 0, 1, 2, 3, 4] (by decide +kernel) rfl⟩, hS.F ht⟩) hS.2.2 dX12_look_38
def vs_m_pace : List Cond := .code yX12_pace cX12_pace 7 (some .int) :: (([.fieldLink RX12 1 "KerbSplashModel" "thrown" "I"] : List Cond) ++ ((wsX120) ++ ((wsV RX12 334 RX12 yX12_isLaw vs_m_isLaw) ++ ((wsV RX12 367 RX12 yX12_isCar vs_m_isCar) ++ ((wsV RX12 175 RX12 yX12_may vs_m_may) ++ ((va_wsS RX12 279 yX12_within vs_m_within) ++ ((wsV RX12 371 RX12 yX12_isStreet vs_m_isStreet) ++ ((wsV RX12 381 RX12 yX12_keeps vs_m_keeps) ++ ((wsV RX12 374 RX12 yX12_passes vs_m_passes) ++ ((wsV RX12 387 RX12 yX12_comesBack vs_m_back) ++ ([])))))))))))
set_option maxHeartbeats 4000000 in
set_option maxRecDepth 100000 in
theorem m_pace (l : Launch) (hl : l.stackTraces = false) (D : va_G) (cy : Nat → ClassId) (sa : Nat → Nat) (mm m1 m9 m10 m11 m12 m13 m14 m15 m19 m20 m21 m23 m24 m25 m26 m27 m28 m33 m35 : Nat) (th tp sz_ ap bad bk opn fp im nr nl sp_ wtc wcl ir ip shu sfa swr : Int) (f1 f10 f12 f14 f23 f24 f25 f26 f27 f28 : Nat → Int32) (n p1 p3 k : Int) (qs : Nat → Int) (sz : Nat) (hr_th : (-2147483648) ≤ th ∧ th ≤ 2147483647) (hr_tp : 0 ≤ tp ∧ tp ≤ 600) (hr_sz_ : 0 ≤ sz_ ∧ sz_ ≤ 600) (hr_ap : 0 ≤ ap ∧ ap ≤ 602) (hr_bad : (-1) ≤ bad ∧ bad ≤ 602) (hr_bk : 0 ≤ bk ∧ bk ≤ 4) (hr_opn : 0 ≤ opn ∧ opn ≤ 7) (hr_fp : (-2147483648) ≤ fp ∧ fp ≤ 2147483647) (hr_im : 0 ≤ im ∧ im ≤ 3) (hr_nr : 0 ≤ nr ∧ nr ≤ 4) (hr_nl : 0 ≤ nl ∧ nl ≤ 4) (hr_sp_ : 0 ≤ sp_ ∧ sp_ ≤ 602) (hr_wtc : (-2147483648) ≤ wtc ∧ wtc ≤ 2147483647) (hr_wcl : 0 ≤ wcl ∧ wcl ≤ 95) (hr_ir : 0 ≤ ir ∧ ir ≤ 5) (hr_ip : (-2147483648) ≤ ip ∧ ip ≤ 2147483647) (hr_shu : (-2147483648) ≤ shu ∧ shu ≤ 2147483647) (hr_sfa : (-2147483648) ≤ sfa ∧ sfa ≤ 2147483647) (hr_swr : (-2147483648) ≤ swr ∧ swr ≤ 2147483647) (hr_n : (-2147483648) ≤ n ∧ n ≤ 2147483647) (hr_p1 : (-2147483648) ≤ p1 ∧ p1 ≤ 2147483647) (hr_p3 : (-2147483648) ≤ p3 ∧ p3 ≤ 2147483647) (hr_k : (-2147483648) ≤ k ∧ k ≤ 2147483647) (hn_li : LI nl f23 f24 f25 f26) (hf10 : BI f10) (hf12 : SQ qs 8 f12) (hf14 : SI 8 f14) : mI9 l yX12_pace vs_m_pace ({ frames := 3, cells := 0, slots := 0, locals := 85 }) D cy sa sz [vR mm, vI n, vI p1, vI p3, vI k] [zO mm 12 [vI th, vR m1, vI tp, vI sz_, vI ap, vI bad, vI bk, vI opn, vI fp, vR m9, vR m10, vR m11, vR m12, vR m13, vR m14, vR m15, vI im, vI nr, vI nl, vR m19, vR m20, vR m21, vI sp_, vR m23, vR m24, vR m25, vR m26, vR m27, vR m28, vI wtc, vI wcl, vI ir, vI ip, vR m33, vI shu, vR m35, vI sfa, vI swr], zI m1 (cy 0) 4 f1, zI m10 (cy 0) 68 f10, zI m12 (cy 0) 389 f12, zI m14 (cy 0) 389 f14, zI m23 (cy 0) 2480 f23, zI m24 (cy 0) 2480 f24, zI m25 (cy 0) 20 f25, zI m26 (cy 0) 20 f26, zI m27 (cy 0) 620 f27, zI m28 (cy 0) 7 f28] (fun (r : Int32) (u : SV) => r = iI (u.2.1 0) ∧ ((-2147483648) ≤ u.2.1 1 ∧ u.2.1 1 ≤ 2147483647) ∧ (0 ≤ u.2.1 2 ∧ u.2.1 2 ≤ 5) ∧ ((-2147483648) ≤ u.2.1 3 ∧ u.2.1 3 ≤ 2147483647) ∧ ((-2147483648) ≤ u.2.1 0 ∧ u.2.1 0 ≤ 2147483647) ∧ BI f10 ∧ SQ qs 8 (u.2.2 1) ∧ SI 8 (u.2.2 2)) (fun u : SV => [zO mm 12 [vI (u.2.1 1), vR m1, vI tp, vI sz_, vI ap, vI bad, vI bk, vI opn, vI fp, vR m9, vR m10, vR m11, vR m12, vR m13, vR m14, vR m15, vI im, vI nr, vI nl, vR m19, vR m20, vR m21, vI sp_, vR m23, vR m24, vR m25, vR m26, vR m27, vR m28, vI wtc, vI wcl, vI (u.2.1 2), vI (u.2.1 3), vR m33, vI shu, vR m35, vI sfa, vI swr], zI m1 (cy 0) 4 (u.2.2 0), zI m10 (cy 0) 68 f10, zI m12 (cy 0) 389 (u.2.2 1), zI m14 (cy 0) 389 (u.2.2 2), zI m23 (cy 0) 2480 f23, zI m24 (cy 0) 2480 f24, zI m25 (cy 0) 20 f25, zI m26 (cy 0) 20 f26, zI m27 (cy 0) 620 (u.2.2 3), zI m28 (cy 0) 7 (u.2.2 4)]) 0 0 := by
  refine Met.ofW (cc := cX12_pace) (maxL := 7) (ret := (some .int)) (by decide) rfl ?_
  intro p e s m args below meth c s₁ B hml hv
  obtain ⟨rfl, hsz, hP, hG, hD0, hT⟩ := hv
  have hx := B.exec
  have hb := B.bytes
  have hr := B.returns
  have hts := atoms_spec (ws := vs_m_pace) B.pre
  have hown : s.vm.findClass RX12 = some m.cls := findClass_of_methodNamed B.named
  have hlocks := B.notSynchronized
  subst hsz
  have hD := hD0.self (sz := s.heap.size)
  generalize hAe : va_A [zO mm 12 [vI th, vR m1, vI tp, vI sz_, vI ap, vI bad, vI bk, vI opn, vI fp, vR m9, vR m10, vR m11, vR m12, vR m13, vR m14, vR m15, vI im, vI nr, vI nl, vR m19, vR m20, vR m21, vI sp_, vR m23, vR m24, vR m25, vR m26, vR m27, vR m28, vI wtc, vI wcl, vI ir, vI ip, vR m33, vI shu, vR m35, vI sfa, vI swr], zI m1 (cy 0) 4 f1, zI m10 (cy 0) 68 f10, zI m12 (cy 0) 389 f12, zI m14 (cy 0) 389 f14, zI m23 (cy 0) 2480 f23, zI m24 (cy 0) 2480 f24, zI m25 (cy 0) 20 f25, zI m26 (cy 0) 20 f26, zI m27 (cy 0) 620 f27, zI m28 (cy 0) 7 f28] s.heap.size = A at hD hT ⊢
  have hA : ∀ q : Nat, s.heap.size ≤ q → A q := fun q h => by rw [← hAe]; exact Or.inr h
  have hS : va_S A s.heap s.heap [] := va_S.rf
  have hl0 := lv_entry ([vR mm, vI n, vI p1, vI p3, vI k]) (n := 7) (Nat.le_of_ble_eq_true rfl)
  rw [lg_entry_eq]
  generalize (lg_sl ([vR mm, vI n, vI p1, vI p3, vI k]) ++ List.replicate (7 - (lg_sl ([vR mm, vI n, vI p1, vI p3, vI k])).length) Slot.unset).toArray = ls at hl0 ⊢
  have hlv : lv_has ls 7 [(0, vR mm), (1, vI n), (2, vI p1), (3, vI p3), (4, vI k)] := hl0
  have lf1 := hts (.fieldLink RX12 1 "KerbSplashModel" "thrown" "I") (List.mem_of_getElem? (i := 1) rfl)
  have hi12 : ∀ w ∈ wsX120, w ∈ vs_m_pace := fun w h => List.mem_cons_of_mem _ (List.mem_append_right _ (List.mem_append_left _ h))
  have gg_1 : GoodIn vs_m_pace (wsV RX12 334 RX12 yX12_isLaw vs_m_isLaw) := goodIn_sub (fun w h => List.mem_cons_of_mem _ (List.mem_append_right _ (List.mem_append_right _ (List.mem_append_left _ h)))) (gd_V gd_m_isLaw (by decide +kernel))
  have gg_2 : GoodIn vs_m_pace (wsV RX12 367 RX12 yX12_isCar vs_m_isCar) := goodIn_sub (fun w h => List.mem_cons_of_mem _ (List.mem_append_right _ (List.mem_append_right _ (List.mem_append_right _ (List.mem_append_left _ h))))) (gd_V gd_m_isCar (by decide +kernel))
  have gg_3 : GoodIn vs_m_pace (wsV RX12 175 RX12 yX12_may vs_m_may) := goodIn_sub (fun w h => List.mem_cons_of_mem _ (List.mem_append_right _ (List.mem_append_right _ (List.mem_append_right _ (List.mem_append_right _ (List.mem_append_left _ h)))))) (gd_V gd_m_may (by decide +kernel))
  have gg_4 : GoodIn vs_m_pace (va_wsS RX12 279 yX12_within vs_m_within) := goodIn_sub (fun w h => List.mem_cons_of_mem _ (List.mem_append_right _ (List.mem_append_right _ (List.mem_append_right _ (List.mem_append_right _ (List.mem_append_right _ (List.mem_append_left _ h))))))) (gd_S gd_m_within (by decide +kernel))
  have gg_5 : GoodIn vs_m_pace (wsV RX12 371 RX12 yX12_isStreet vs_m_isStreet) := goodIn_sub (fun w h => List.mem_cons_of_mem _ (List.mem_append_right _ (List.mem_append_right _ (List.mem_append_right _ (List.mem_append_right _ (List.mem_append_right _ (List.mem_append_right _ (List.mem_append_left _ h)))))))) (gd_V gd_m_isStreet (by decide +kernel))
  have gg_6 : GoodIn vs_m_pace (wsV RX12 381 RX12 yX12_keeps vs_m_keeps) := goodIn_sub (fun w h => List.mem_cons_of_mem _ (List.mem_append_right _ (List.mem_append_right _ (List.mem_append_right _ (List.mem_append_right _ (List.mem_append_right _ (List.mem_append_right _ (List.mem_append_right _ (List.mem_append_left _ h))))))))) (gd_V gd_m_keeps (by decide +kernel))
  have gg_7 : GoodIn vs_m_pace (wsV RX12 374 RX12 yX12_passes vs_m_passes) := goodIn_sub (fun w h => List.mem_cons_of_mem _ (List.mem_append_right _ (List.mem_append_right _ (List.mem_append_right _ (List.mem_append_right _ (List.mem_append_right _ (List.mem_append_right _ (List.mem_append_right _ (List.mem_append_right _ (List.mem_append_left _ h)))))))))) (gd_V gd_m_passes (by decide +kernel))
  have gg_8 : GoodIn vs_m_pace (wsV RX12 387 RX12 yX12_comesBack vs_m_back) := goodIn_sub (fun w h => List.mem_cons_of_mem _ (List.mem_append_right _ (List.mem_append_right _ (List.mem_append_right _ (List.mem_append_right _ (List.mem_append_right _ (List.mem_append_right _ (List.mem_append_right _ (List.mem_append_right _ (List.mem_append_right _ (List.mem_append_left _ h))))))))))) (gd_V gd_m_back (by decide +kernel))
  refine lv_aload_n hx hb dX12_pace_0 rfl (lv_at hlv 0 rfl) ?_
  refine lv_iconst (v := iI 0) hx hb dX12_pace_1 (by decide) ?_
  refine va_put (D := D) (ci := 12) (v := vI 0) (ty := .int) (C := RX12) (T := TX12) (N := 38) hx hb hts hi12 tyX12 tyX12_ok nmX12 hown hG.1 hP hD hS 0 rfl rfl 0 (by decide) lf1 (fun _ h9 => h9) rfl (by decide +kernel) rfl rfl (Nat.le_of_ble_eq_true rfl) dX12_pace_2 (fun H locs hP hD hS => ?_)
  obtain ⟨hP, hD⟩ := pw9 [zO mm 12 [vI 0, vR m1, vI tp, vI sz_, vI ap, vI bad, vI bk, vI opn, vI fp, vR m9, vR m10, vR m11, vR m12, vR m13, vR m14, vR m15, vI im, vI nr, vI nl, vR m19, vR m20, vR m21, vI sp_, vR m23, vR m24, vR m25, vR m26, vR m27, vR m28, vI wtc, vI wcl, vI ir, vI ip, vR m33, vI shu, vR m35, vI sfa, vI swr], zI m1 (cy 0) 4 f1, zI m10 (cy 0) 68 f10, zI m12 (cy 0) 389 f12, zI m14 (cy 0) 389 f14, zI m23 (cy 0) 2480 f23, zI m24 (cy 0) 2480 f24, zI m25 (cy 0) 20 f25, zI m26 (cy 0) 20 f26, zI m27 (cy 0) 620 f27, zI m28 (cy 0) 7 f28] hP hD
  refine lv_aload_n hx hb dX12_pace_5 rfl (lv_at hlv 0 rfl) ?_
  refine lv_iload_n hx hb dX12_pace_6 rfl (lv_at hlv 1 rfl) ?_
  refine lv_iconst (v := iI 1) hx hb dX12_pace_7 (by decide) ?_
  refine cjr_i [false, false, true, true, true, true, true, true, true, true, true] (fun pre9 => (va_runV (As := [vI n, vI 1]) (rest := []) ⟨hx, hb, hml, hown, hts⟩ (m_isLaw l hl D cy sa mm m1 m9 m10 m11 m12 m13 m14 m15 m19 m20 m21 m23 m24 m25 m26 m27 m28 m33 m35 0 tp sz_ ap bad bk opn fp im nr nl sp_ wtc wcl ir ip shu sfa swr f1 n 1 H.size (by show ((-2147483648) : Int) ≤ 0 ∧ (0 : Int) ≤ 2147483647; decide) (by first | exact hr_tp | omega) (by first | exact hr_sz_ | omega) (by first | exact hr_ap | omega) (by first | exact hr_bad | omega) (by first | exact hr_bk | omega) (by first | exact hr_opn | omega) (by first | exact hr_fp | omega) (by first | exact hr_im | omega) (by first | exact hr_nr | omega) (by first | exact hr_nl | omega) (by first | exact hr_sp_ | omega) (by first | exact hr_wtc | omega) (by first | exact hr_wcl | omega) (by first | exact hr_ir | omega) (by first | exact hr_ip | omega) (by first | exact hr_shu | omega) (by first | exact hr_sfa | omega) (by first | exact hr_swr | omega) (by first | exact hr_n | omega) (by show (1 : Int) ≤ 1 ∧ (1 : Int) ≤ 4; decide)) (cwV 2 hts gg_1 rfl rfl rfl (by decide +kernel) ⟨Nat.le_of_ble_eq_true rfl, Nat.le_of_ble_eq_true rfl⟩) ⟨pcW.blind, (va_recv hG.1 hP (ci := 12) (q0 := 0) rfl rfl), pre9⟩ rfl rfl hlv.1 rfl (lv_room (Nat.le_of_ble_eq_true rfl)) dX12_pace_8 ⟨Nat.le_of_ble_eq_true rfl, Nat.le_of_ble_eq_true rfl⟩)) hP hD hS hA hG hT [0, 1] rfl (by decide +kernel) (fun r1 u1 H locs hw1 hq9 hS => ?_)
  obtain ⟨rfl, hq1_1, hq1_2, hq1_3⟩ := hw1
  obtain ⟨hP, hD⟩ := pd9 [zI m10 (cy 0) 68 f10, zI m12 (cy 0) 389 f12, zI m14 (cy 0) 389 f14, zI m23 (cy 0) 2480 f23, zI m24 (cy 0) 2480 f24, zI m25 (cy 0) 20 f25, zI m26 (cy 0) 20 f26, zI m27 (cy 0) 620 f27, zI m28 (cy 0) 7 f28, zO mm 12 [vI (u1.2.1 1), vR m1, vI tp, vI sz_, vI ap, vI bad, vI bk, vI opn, vI fp, vR m9, vR m10, vR m11, vR m12, vR m13, vR m14, vR m15, vI im, vI nr, vI nl, vR m19, vR m20, vR m21, vI sp_, vR m23, vR m24, vR m25, vR m26, vR m27, vR m28, vI wtc, vI wcl, vI ir, vI ip, vR m33, vI shu, vR m35, vI sfa, vI swr], zI m1 (cy 0) 4 (u1.2.2 0)] hq9
  refine iz_eq (tgt := 59) hx hb dX12_pace_11 (by decide) (by first | exact rgw hq1_2 (by decide) (by decide) | omega) (fun c_1 => ?_) (fun c_1 => ?_)
  · refine lv_iconst (v := iI 0) hx hb dX12_pace_59 (by decide) ?_
    refine W.widen (k := 0) (n := 0) (Nat.le_of_ble_eq_true rfl) (Nat.le_of_ble_eq_true rfl) ?_
    exact W.iret (v := iI 0) hx hb hr (fun t ht hW => ⟨⟨iI 0, ((fun k => ([] : List Nat).getD k 0), (fun k => ([0, (u1.2.1 1), ir, ip] : List Int).getD k 0), (fun k => ([(u1.2.2 0), f12, f14, f27, f28] : List (Nat → Int32)).getD k (fun _ => 0))), rfl, ⟨rfl, (by show ((-2147483648) ≤ (u1.2.1 1) ∧ (u1.2.1 1) ≤ 2147483647); first | exact hq1_1 | omega), (by show (0 ≤ ir ∧ ir ≤ 5); first | exact hr_ir | omega), (by show ((-2147483648) ≤ ip ∧ ip ≤ 2147483647); first | exact hr_ip | omega), (by show ((-2147483648) ≤ 0 ∧ 0 ≤ 2147483647); show ((-2147483648) : Int) ≤ 0 ∧ (0 : Int) ≤ 2147483647; decide), hf10, hf12, hf14⟩, at9 ht hP hD [9, 10, 0, 1, 2, 3, 4, 5, 6, 7, 8] (by decide +kernel) rfl⟩, hS.F ht⟩) hS.2.2 dX12_pace_60
  · refine lv_aload_n hx hb dX12_pace_14 rfl (lv_at hlv 0 rfl) ?_
    refine lv_aload_n hx hb dX12_pace_15 rfl (lv_at hlv 0 rfl) ?_
    refine lv_iload_n hx hb dX12_pace_16 rfl (lv_at hlv 2 rfl) ?_
    refine lv_iconst (v := iI 1) hx hb dX12_pace_17 (by decide) ?_
    refine lv_iload_n hx hb dX12_pace_18 rfl (lv_at hlv 3 rfl) ?_
    refine lv_iconst (v := iI 0) hx hb dX12_pace_19 (by decide) ?_
    refine cjr_i [false, true, true, true, true, true, true, true, true, false, true] (fun pre9 => (va_runV (As := [vI p1, vI 1, vI p3, vI 0]) (rest := [vR mm]) ⟨hx, hb, hml, hown, hts⟩ (m_isCar l hl D cy sa mm m1 m9 m10 m11 m12 m13 m14 m15 m19 m20 m21 m23 m24 m25 m26 m27 m28 m33 m35 (u1.2.1 1) tp sz_ ap bad bk opn fp im nr nl sp_ wtc wcl ir ip shu sfa swr f10 p1 1 p3 0 H.size (by first | exact hq1_1 | omega) (by first | exact hr_tp | omega) (by first | exact hr_sz_ | omega) (by first | exact hr_ap | omega) (by first | exact hr_bad | omega) (by first | exact hr_bk | omega) (by first | exact hr_opn | omega) (by first | exact hr_fp | omega) (by first | exact hr_im | omega) (by first | exact hr_nr | omega) (by first | exact hr_nl | omega) (by first | exact hr_sp_ | omega) (by first | exact hr_wtc | omega) (by first | exact hr_wcl | omega) (by first | exact hr_ir | omega) (by first | exact hr_ip | omega) (by first | exact hr_shu | omega) (by first | exact hr_sfa | omega) (by first | exact hr_swr | omega) (by first | exact hr_p1 | omega) (by show ((-2147483648) : Int) ≤ 1 ∧ (1 : Int) ≤ 2147483647; decide) (by first | exact hr_p3 | omega) (by show ((-2147483648) : Int) ≤ 0 ∧ (0 : Int) ≤ 2147483647; decide) hf10) (cwV 4 hts gg_2 rfl rfl rfl (by decide +kernel) ⟨Nat.le_of_ble_eq_true rfl, Nat.le_of_ble_eq_true rfl⟩) ⟨pcW.blind, (va_recv hG.1 hP (ci := 12) (q0 := 9) rfl rfl), pre9⟩ rfl rfl hlv.1 rfl (lv_room (Nat.le_of_ble_eq_true rfl)) dX12_pace_20 ⟨Nat.le_of_ble_eq_true rfl, Nat.le_of_ble_eq_true rfl⟩)) hP hD hS hA hG hT [9, 0] rfl (by decide +kernel) (fun r2 u2 H locs hw2 hq9 hS => ?_)
    obtain ⟨rfl, hq2_1, hq2_2, hq2_3⟩ := hw2
    obtain ⟨hP, hD⟩ := pd9 [zI m12 (cy 0) 389 f12, zI m14 (cy 0) 389 f14, zI m23 (cy 0) 2480 f23, zI m24 (cy 0) 2480 f24, zI m25 (cy 0) 20 f25, zI m26 (cy 0) 20 f26, zI m27 (cy 0) 620 f27, zI m28 (cy 0) 7 f28, zI m1 (cy 0) 4 (u1.2.2 0), zO mm 12 [vI (u1.2.1 1), vR m1, vI tp, vI sz_, vI ap, vI bad, vI bk, vI opn, vI fp, vR m9, vR m10, vR m11, vR m12, vR m13, vR m14, vR m15, vI im, vI nr, vI nl, vR m19, vR m20, vR m21, vI sp_, vR m23, vR m24, vR m25, vR m26, vR m27, vR m28, vI wtc, vI wcl, vI ir, vI ip, vR m33, vI shu, vR m35, vI sfa, vI swr], zI m10 (cy 0) 68 f10] hq9
    refine iz_eq (tgt := 42) hx hb dX12_pace_23 (by decide) (by first | exact rgw hq2_1 (by decide) (by decide) | omega) (fun c_2 => ?_) (fun c_2 => ?_)
    · refine lv_iconst (v := iI 0) hx hb dX12_pace_42 (by decide) ?_
      refine lv_iconst (v := iI 2) hx hb dX12_pace_43 (by decide) ?_
      refine lv_iconst (v := iI 2) hx hb dX12_pace_44 (by decide) ?_
      refine cjr_i [true, true, true, true, true, true, true, true, false, false, true] (fun pre9 => (va_runV (As := [vI 0, vI 2, vI 2]) (rest := []) ⟨hx, hb, hml, hown, hts⟩ (m_may l hl D cy sa mm m1 m9 m10 m11 m12 m13 m14 m15 m19 m20 m21 m23 m24 m25 m26 m27 m28 m33 m35 (u1.2.1 1) tp sz_ ap bad bk opn fp im nr nl sp_ wtc wcl ir ip shu sfa swr (u1.2.2 0) 0 2 2 H.size (by first | exact hq1_1 | omega) (by first | exact hr_tp | omega) (by first | exact hr_sz_ | omega) (by first | exact hr_ap | omega) (by first | exact hr_bad | omega) (by first | exact hr_bk | omega) (by first | exact hr_opn | omega) (by first | exact hr_fp | omega) (by first | exact hr_im | omega) (by first | exact hr_nr | omega) (by first | exact hr_nl | omega) (by first | exact hr_sp_ | omega) (by first | exact hr_wtc | omega) (by first | exact hr_wcl | omega) (by first | exact hr_ir | omega) (by first | exact hr_ip | omega) (by first | exact hr_shu | omega) (by first | exact hr_sfa | omega) (by first | exact hr_swr | omega) (by show (0 : Int) ≤ 0 ∧ (0 : Int) ≤ 1; decide) (by show (1 : Int) ≤ 2 ∧ (2 : Int) ≤ 4; decide) (by show (0 : Int) ≤ 2 ∧ (2 : Int) ≤ 3; decide)) (cwV 3 hts gg_3 rfl rfl rfl (by decide +kernel) ⟨Nat.le_of_ble_eq_true rfl, Nat.le_of_ble_eq_true rfl⟩) ⟨pcW.blind, (va_recv hG.1 hP (ci := 12) (q0 := 9) rfl rfl), pre9⟩ rfl rfl hlv.1 rfl (lv_room (Nat.le_of_ble_eq_true rfl)) dX12_pace_45 ⟨Nat.le_of_ble_eq_true rfl, Nat.le_of_ble_eq_true rfl⟩)) hP hD hS hA hG hT [9, 8] rfl (by decide +kernel) (fun r3 u3 H locs hw3 hq9 hS => ?_)
      obtain ⟨rfl, hq3_1, hq3_2, hq3_3, hq3_4⟩ := hw3
      obtain ⟨hP, hD⟩ := pd9 [zI m12 (cy 0) 389 f12, zI m14 (cy 0) 389 f14, zI m23 (cy 0) 2480 f23, zI m24 (cy 0) 2480 f24, zI m25 (cy 0) 20 f25, zI m26 (cy 0) 20 f26, zI m27 (cy 0) 620 f27, zI m28 (cy 0) 7 f28, zI m10 (cy 0) 68 f10, zO mm 12 [vI (u3.2.1 1), vR m1, vI tp, vI sz_, vI ap, vI bad, vI bk, vI opn, vI fp, vR m9, vR m10, vR m11, vR m12, vR m13, vR m14, vR m15, vI im, vI nr, vI nl, vR m19, vR m20, vR m21, vI sp_, vR m23, vR m24, vR m25, vR m26, vR m27, vR m28, vI wtc, vI wcl, vI ir, vI ip, vR m33, vI shu, vR m35, vI sfa, vI swr], zI m1 (cy 0) 4 (u3.2.2 0)] hq9
      refine lt_i (y := iI 0) (by rw [show (u3.2.1 0) = 0 by omega]) ?_
      refine iz_eq (tgt := 59) hx hb dX12_pace_48 (by decide) (by show ((-2147483648) : Int) ≤ 0 ∧ (0 : Int) ≤ 2147483647; decide) (fun c_3 => ?_) (fun c_3 => by exfalso; omega)
      refine lv_iconst (v := iI 0) hx hb dX12_pace_59 (by decide) ?_
      refine W.widen (k := 0) (n := 0) (Nat.le_of_ble_eq_true rfl) (Nat.le_of_ble_eq_true rfl) ?_
      exact W.iret (v := iI 0) hx hb hr (fun t ht hW => ⟨⟨iI 0, ((fun k => ([] : List Nat).getD k 0), (fun k => ([0, (u3.2.1 1), ir, ip] : List Int).getD k 0), (fun k => ([(u3.2.2 0), f12, f14, f27, f28] : List (Nat → Int32)).getD k (fun _ => 0))), rfl, ⟨rfl, (by show ((-2147483648) ≤ (u3.2.1 1) ∧ (u3.2.1 1) ≤ 2147483647); first | exact hq3_1 | omega), (by show (0 ≤ ir ∧ ir ≤ 5); first | exact hr_ir | omega), (by show ((-2147483648) ≤ ip ∧ ip ≤ 2147483647); first | exact hr_ip | omega), (by show ((-2147483648) ≤ 0 ∧ 0 ≤ 2147483647); show ((-2147483648) : Int) ≤ 0 ∧ (0 : Int) ≤ 2147483647; decide), hq2_3, hf12, hf14⟩, at9 ht hP hD [9, 10, 8, 0, 1, 2, 3, 4, 5, 6, 7] (by decide +kernel) rfl⟩, hS.F ht⟩) hS.2.2 dX12_pace_60
    · refine lv_iload hx hb dX12_pace_26 (lv_at hlv 4 rfl) ?_
      refine lv_iconst (v := iI 0) hx hb dX12_pace_28 (by decide) ?_
      refine lv_sipush (v := iI 9999) hx hb dX12_pace_29 (by decide) ?_
      refine cjr_i [true, true, true, true, true, true, true, true, true, true, true] (fun pre9 => (va_runS (As := [vI k, vI 0, vI 9999]) (rest := [vR mm]) ⟨hx, hb, hml, hown, hts⟩ (m_within l hl D cy sa k 0 9999 H.size (by first | exact hr_k | omega) (by show ((-2147483648) : Int) ≤ 0 ∧ (0 : Int) ≤ 2147483647; decide) (by show ((-2147483648) : Int) ≤ 9999 ∧ (9999 : Int) ≤ 2147483647; decide)) (va_cwS 3 hts gg_4 rfl rfl rfl (by decide +kernel) ⟨Nat.le_of_ble_eq_true rfl, Nat.le_of_ble_eq_true rfl⟩) ⟨pcW.blind, pre9⟩ rfl rfl hlv.1 rfl (lv_room (Nat.le_of_ble_eq_true rfl)) dX12_pace_32 ⟨Nat.le_of_ble_eq_true rfl, Nat.le_of_ble_eq_true rfl⟩)) hP hD hS hA hG hT [] rfl (by decide +kernel) (fun r4 u4 H locs hw4 hq9 hS => ?_)
      obtain ⟨rfl, hq4_1, hq4_2, hq4_3⟩ := hw4
      obtain ⟨hP, hD⟩ := pd9 [zI m12 (cy 0) 389 f12, zI m14 (cy 0) 389 f14, zI m23 (cy 0) 2480 f23, zI m24 (cy 0) 2480 f24, zI m25 (cy 0) 20 f25, zI m26 (cy 0) 20 f26, zI m27 (cy 0) 620 f27, zI m28 (cy 0) 7 f28, zI m1 (cy 0) 4 (u1.2.2 0), zO mm 12 [vI (u1.2.1 1), vR m1, vI tp, vI sz_, vI ap, vI bad, vI bk, vI opn, vI fp, vR m9, vR m10, vR m11, vR m12, vR m13, vR m14, vR m15, vI im, vI nr, vI nl, vR m19, vR m20, vR m21, vI sp_, vR m23, vR m24, vR m25, vR m26, vR m27, vR m28, vI wtc, vI wcl, vI ir, vI ip, vR m33, vI shu, vR m35, vI sfa, vI swr], zI m10 (cy 0) 68 f10] hq9
      refine iz_eq (tgt := 42) hx hb dX12_pace_35 (by decide) (by first | exact rgw hq4_1 (by decide) (by decide) | omega) (fun c_4 => ?_) (fun c_4 => ?_)
      · refine lv_iconst (v := iI 0) hx hb dX12_pace_42 (by decide) ?_
        refine lv_iconst (v := iI 2) hx hb dX12_pace_43 (by decide) ?_
        refine lv_iconst (v := iI 2) hx hb dX12_pace_44 (by decide) ?_
        refine cjr_i [true, true, true, true, true, true, true, true, false, false, true] (fun pre9 => (va_runV (As := [vI 0, vI 2, vI 2]) (rest := []) ⟨hx, hb, hml, hown, hts⟩ (m_may l hl D cy sa mm m1 m9 m10 m11 m12 m13 m14 m15 m19 m20 m21 m23 m24 m25 m26 m27 m28 m33 m35 (u1.2.1 1) tp sz_ ap bad bk opn fp im nr nl sp_ wtc wcl ir ip shu sfa swr (u1.2.2 0) 0 2 2 H.size (by first | exact hq1_1 | omega) (by first | exact hr_tp | omega) (by first | exact hr_sz_ | omega) (by first | exact hr_ap | omega) (by first | exact hr_bad | omega) (by first | exact hr_bk | omega) (by first | exact hr_opn | omega) (by first | exact hr_fp | omega) (by first | exact hr_im | omega) (by first | exact hr_nr | omega) (by first | exact hr_nl | omega) (by first | exact hr_sp_ | omega) (by first | exact hr_wtc | omega) (by first | exact hr_wcl | omega) (by first | exact hr_ir | omega) (by first | exact hr_ip | omega) (by first | exact hr_shu | omega) (by first | exact hr_sfa | omega) (by first | exact hr_swr | omega) (by show (0 : Int) ≤ 0 ∧ (0 : Int) ≤ 1; decide) (by show (1 : Int) ≤ 2 ∧ (2 : Int) ≤ 4; decide) (by show (0 : Int) ≤ 2 ∧ (2 : Int) ≤ 3; decide)) (cwV 3 hts gg_3 rfl rfl rfl (by decide +kernel) ⟨Nat.le_of_ble_eq_true rfl, Nat.le_of_ble_eq_true rfl⟩) ⟨pcW.blind, (va_recv hG.1 hP (ci := 12) (q0 := 9) rfl rfl), pre9⟩ rfl rfl hlv.1 rfl (lv_room (Nat.le_of_ble_eq_true rfl)) dX12_pace_45 ⟨Nat.le_of_ble_eq_true rfl, Nat.le_of_ble_eq_true rfl⟩)) hP hD hS hA hG hT [9, 8] rfl (by decide +kernel) (fun r5 u5 H locs hw5 hq9 hS => ?_)
        obtain ⟨rfl, hq5_1, hq5_2, hq5_3, hq5_4⟩ := hw5
        obtain ⟨hP, hD⟩ := pd9 [zI m12 (cy 0) 389 f12, zI m14 (cy 0) 389 f14, zI m23 (cy 0) 2480 f23, zI m24 (cy 0) 2480 f24, zI m25 (cy 0) 20 f25, zI m26 (cy 0) 20 f26, zI m27 (cy 0) 620 f27, zI m28 (cy 0) 7 f28, zI m10 (cy 0) 68 f10, zO mm 12 [vI (u5.2.1 1), vR m1, vI tp, vI sz_, vI ap, vI bad, vI bk, vI opn, vI fp, vR m9, vR m10, vR m11, vR m12, vR m13, vR m14, vR m15, vI im, vI nr, vI nl, vR m19, vR m20, vR m21, vI sp_, vR m23, vR m24, vR m25, vR m26, vR m27, vR m28, vI wtc, vI wcl, vI ir, vI ip, vR m33, vI shu, vR m35, vI sfa, vI swr], zI m1 (cy 0) 4 (u5.2.2 0)] hq9
        refine lt_i (y := iI 0) (by rw [show (u5.2.1 0) = 0 by omega]) ?_
        refine iz_eq (tgt := 59) hx hb dX12_pace_48 (by decide) (by show ((-2147483648) : Int) ≤ 0 ∧ (0 : Int) ≤ 2147483647; decide) (fun c_5 => ?_) (fun c_5 => by exfalso; omega)
        refine lv_iconst (v := iI 0) hx hb dX12_pace_59 (by decide) ?_
        refine W.widen (k := 0) (n := 0) (Nat.le_of_ble_eq_true rfl) (Nat.le_of_ble_eq_true rfl) ?_
        exact W.iret (v := iI 0) hx hb hr (fun t ht hW => ⟨⟨iI 0, ((fun k => ([] : List Nat).getD k 0), (fun k => ([0, (u5.2.1 1), ir, ip] : List Int).getD k 0), (fun k => ([(u5.2.2 0), f12, f14, f27, f28] : List (Nat → Int32)).getD k (fun _ => 0))), rfl, ⟨rfl, (by show ((-2147483648) ≤ (u5.2.1 1) ∧ (u5.2.1 1) ≤ 2147483647); first | exact hq5_1 | omega), (by show (0 ≤ ir ∧ ir ≤ 5); first | exact hr_ir | omega), (by show ((-2147483648) ≤ ip ∧ ip ≤ 2147483647); first | exact hr_ip | omega), (by show ((-2147483648) ≤ 0 ∧ 0 ≤ 2147483647); show ((-2147483648) : Int) ≤ 0 ∧ (0 : Int) ≤ 2147483647; decide), hq2_3, hf12, hf14⟩, at9 ht hP hD [9, 10, 8, 0, 1, 2, 3, 4, 5, 6, 7] (by decide +kernel) rfl⟩, hS.F ht⟩) hS.2.2 dX12_pace_60
      · refine lv_iconst (v := iI 1) hx hb dX12_pace_38 (by decide) ?_
        refine lv_goto (tgt := 43) hx hb dX12_pace_39 (by decide) ?_
        refine lv_iconst (v := iI 2) hx hb dX12_pace_43 (by decide) ?_
        refine lv_iconst (v := iI 2) hx hb dX12_pace_44 (by decide) ?_
        refine cjr_i [true, true, true, true, true, true, true, true, false, false, true] (fun pre9 => (va_runV (As := [vI 1, vI 2, vI 2]) (rest := []) ⟨hx, hb, hml, hown, hts⟩ (m_may l hl D cy sa mm m1 m9 m10 m11 m12 m13 m14 m15 m19 m20 m21 m23 m24 m25 m26 m27 m28 m33 m35 (u1.2.1 1) tp sz_ ap bad bk opn fp im nr nl sp_ wtc wcl ir ip shu sfa swr (u1.2.2 0) 1 2 2 H.size (by first | exact hq1_1 | omega) (by first | exact hr_tp | omega) (by first | exact hr_sz_ | omega) (by first | exact hr_ap | omega) (by first | exact hr_bad | omega) (by first | exact hr_bk | omega) (by first | exact hr_opn | omega) (by first | exact hr_fp | omega) (by first | exact hr_im | omega) (by first | exact hr_nr | omega) (by first | exact hr_nl | omega) (by first | exact hr_sp_ | omega) (by first | exact hr_wtc | omega) (by first | exact hr_wcl | omega) (by first | exact hr_ir | omega) (by first | exact hr_ip | omega) (by first | exact hr_shu | omega) (by first | exact hr_sfa | omega) (by first | exact hr_swr | omega) (by show (0 : Int) ≤ 1 ∧ (1 : Int) ≤ 1; decide) (by show (1 : Int) ≤ 2 ∧ (2 : Int) ≤ 4; decide) (by show (0 : Int) ≤ 2 ∧ (2 : Int) ≤ 3; decide)) (cwV 3 hts gg_3 rfl rfl rfl (by decide +kernel) ⟨Nat.le_of_ble_eq_true rfl, Nat.le_of_ble_eq_true rfl⟩) ⟨pcW.blind, (va_recv hG.1 hP (ci := 12) (q0 := 9) rfl rfl), pre9⟩ rfl rfl hlv.1 rfl (lv_room (Nat.le_of_ble_eq_true rfl)) dX12_pace_45 ⟨Nat.le_of_ble_eq_true rfl, Nat.le_of_ble_eq_true rfl⟩)) hP hD hS hA hG hT [9, 8] rfl (by decide +kernel) (fun r6 u6 H locs hw6 hq9 hS => ?_)
        obtain ⟨rfl, hq6_1, hq6_2, hq6_3, hq6_4⟩ := hw6
        obtain ⟨hP, hD⟩ := pd9 [zI m12 (cy 0) 389 f12, zI m14 (cy 0) 389 f14, zI m23 (cy 0) 2480 f23, zI m24 (cy 0) 2480 f24, zI m25 (cy 0) 20 f25, zI m26 (cy 0) 20 f26, zI m27 (cy 0) 620 f27, zI m28 (cy 0) 7 f28, zI m10 (cy 0) 68 f10, zO mm 12 [vI (u6.2.1 1), vR m1, vI tp, vI sz_, vI ap, vI bad, vI bk, vI opn, vI fp, vR m9, vR m10, vR m11, vR m12, vR m13, vR m14, vR m15, vI im, vI nr, vI nl, vR m19, vR m20, vR m21, vI sp_, vR m23, vR m24, vR m25, vR m26, vR m27, vR m28, vI wtc, vI wcl, vI ir, vI ip, vR m33, vI shu, vR m35, vI sfa, vI swr], zI m1 (cy 0) 4 (u6.2.2 0)] hq9
        refine iz_eq (tgt := 59) hx hb dX12_pace_48 (by decide) (by first | exact rgw hq6_2 (by decide) (by decide) | omega) (fun c_6 => ?_) (fun c_6 => ?_)
        · refine lv_iconst (v := iI 0) hx hb dX12_pace_59 (by decide) ?_
          refine W.widen (k := 0) (n := 0) (Nat.le_of_ble_eq_true rfl) (Nat.le_of_ble_eq_true rfl) ?_
          exact W.iret (v := iI 0) hx hb hr (fun t ht hW => ⟨⟨iI 0, ((fun k => ([] : List Nat).getD k 0), (fun k => ([0, (u6.2.1 1), ir, ip] : List Int).getD k 0), (fun k => ([(u6.2.2 0), f12, f14, f27, f28] : List (Nat → Int32)).getD k (fun _ => 0))), rfl, ⟨rfl, (by show ((-2147483648) ≤ (u6.2.1 1) ∧ (u6.2.1 1) ≤ 2147483647); first | exact hq6_1 | omega), (by show (0 ≤ ir ∧ ir ≤ 5); first | exact hr_ir | omega), (by show ((-2147483648) ≤ ip ∧ ip ≤ 2147483647); first | exact hr_ip | omega), (by show ((-2147483648) ≤ 0 ∧ 0 ≤ 2147483647); show ((-2147483648) : Int) ≤ 0 ∧ (0 : Int) ≤ 2147483647; decide), hq2_3, hf12, hf14⟩, at9 ht hP hD [9, 10, 8, 0, 1, 2, 3, 4, 5, 6, 7] (by decide +kernel) rfl⟩, hS.F ht⟩) hS.2.2 dX12_pace_60
        · refine lv_aload_n hx hb dX12_pace_51 rfl (lv_at hlv 0 rfl) ?_
          refine lv_iconst (v := iI 3) hx hb dX12_pace_52 (by decide) ?_
          refine cjr_i [true, true, true, true, true, true, true, true, false, false, false] (fun pre9 => (va_runV (As := [vI 3]) (rest := []) ⟨hx, hb, hml, hown, hts⟩ (m_isStreet l hl D cy sa mm m1 m9 m10 m11 m12 m13 m14 m15 m19 m20 m21 m23 m24 m25 m26 m27 m28 m33 m35 (u6.2.1 1) tp sz_ ap bad bk opn fp im nr nl sp_ wtc wcl ir ip shu sfa swr (u6.2.2 0) f10 3 H.size (by first | exact hq6_1 | omega) (by first | exact hr_tp | omega) (by first | exact hr_sz_ | omega) (by first | exact hr_ap | omega) (by first | exact hr_bad | omega) (by first | exact hr_bk | omega) (by first | exact hr_opn | omega) (by first | exact hr_fp | omega) (by first | exact hr_im | omega) (by first | exact hr_nr | omega) (by first | exact hr_nl | omega) (by first | exact hr_sp_ | omega) (by first | exact hr_wtc | omega) (by first | exact hr_wcl | omega) (by first | exact hr_ir | omega) (by first | exact hr_ip | omega) (by first | exact hr_shu | omega) (by first | exact hr_sfa | omega) (by first | exact hr_swr | omega) (by show (1 : Int) ≤ 3 ∧ (3 : Int) ≤ 4; decide) hq2_3) (cwV 1 hts gg_5 rfl rfl rfl (by decide +kernel) ⟨Nat.le_of_ble_eq_true rfl, Nat.le_of_ble_eq_true rfl⟩) ⟨pcW.blind, (va_recv hG.1 hP (ci := 12) (q0 := 9) rfl rfl), pre9⟩ rfl rfl hlv.1 rfl (lv_room (Nat.le_of_ble_eq_true rfl)) dX12_pace_53 ⟨Nat.le_of_ble_eq_true rfl, Nat.le_of_ble_eq_true rfl⟩)) hP hD hS hA hG hT [9, 10, 8] rfl (by decide +kernel) (fun r7 u7 H locs hw7 hq9 hS => ?_)
          obtain ⟨rfl, hq7_1, hq7_2, hq7_3, hq7_4⟩ := hw7
          obtain ⟨hP, hD⟩ := pd9 [zI m12 (cy 0) 389 f12, zI m14 (cy 0) 389 f14, zI m23 (cy 0) 2480 f23, zI m24 (cy 0) 2480 f24, zI m25 (cy 0) 20 f25, zI m26 (cy 0) 20 f26, zI m27 (cy 0) 620 f27, zI m28 (cy 0) 7 f28, zO mm 12 [vI (u7.2.1 1), vR m1, vI tp, vI sz_, vI ap, vI bad, vI bk, vI opn, vI fp, vR m9, vR m10, vR m11, vR m12, vR m13, vR m14, vR m15, vI im, vI nr, vI nl, vR m19, vR m20, vR m21, vI sp_, vR m23, vR m24, vR m25, vR m26, vR m27, vR m28, vI wtc, vI wcl, vI ir, vI ip, vR m33, vI shu, vR m35, vI sfa, vI swr], zI m1 (cy 0) 4 (u7.2.2 0), zI m10 (cy 0) 68 f10] hq9
          refine iz_ne (tgt := 61) hx hb dX12_pace_56 (by decide) (by first | exact rgw hq7_2 (by decide) (by decide) | omega) (fun c_7 => ?_) (fun c_7 => ?_)
          · refine lv_aload_n hx hb dX12_pace_61 rfl (lv_at hlv 0 rfl) ?_
            refine cjr_v [false, false, true, true, true, true, true, true, false, true, true] (fun pre9 => (va_runV (As := []) (rest := []) ⟨hx, hb, hml, hown, hts⟩ (m_keeps l hl D cy sa mm m1 m9 m10 m11 m12 m13 m14 m15 m19 m20 m21 m23 m24 m25 m26 m27 m28 m33 m35 (u7.2.1 1) tp sz_ ap bad bk opn fp im nr nl sp_ wtc wcl ir ip shu sfa swr f12 f14 qs H.size (by first | exact hq7_1 | omega) (by first | exact hr_tp | omega) (by first | exact hr_sz_ | omega) (by first | exact hr_ap | omega) (by first | exact hr_bad | omega) (by first | exact hr_bk | omega) (by first | exact hr_opn | omega) (by first | exact hr_fp | omega) (by first | exact hr_im | omega) (by first | exact hr_nr | omega) (by first | exact hr_nl | omega) (by first | exact hr_sp_ | omega) (by first | exact hr_wtc | omega) (by first | exact hr_wcl | omega) (by first | exact hr_ir | omega) (by first | exact hr_ip | omega) (by first | exact hr_shu | omega) (by first | exact hr_sfa | omega) (by first | exact hr_swr | omega) hf12 hf14) (cwV 0 hts gg_6 rfl rfl rfl (by decide +kernel) ⟨Nat.le_of_ble_eq_true rfl, Nat.le_of_ble_eq_true rfl⟩) ⟨pcW.blind, (va_recv hG.1 hP (ci := 12) (q0 := 8) rfl rfl), pre9⟩ rfl rfl hlv.1 rfl (lv_room (Nat.le_of_ble_eq_true rfl)) dX12_pace_62 ⟨Nat.le_of_ble_eq_true rfl, Nat.le_of_ble_eq_true rfl⟩)) hP hD hS hA hG hT [8, 0, 1] rfl (by decide +kernel) (fun u8 H locs hw8 hq9 hS => ?_)
            obtain ⟨hq8_0, hq8_1⟩ := hw8
            obtain ⟨hP, hD⟩ := pd9 [zI m23 (cy 0) 2480 f23, zI m24 (cy 0) 2480 f24, zI m25 (cy 0) 20 f25, zI m26 (cy 0) 20 f26, zI m27 (cy 0) 620 f27, zI m28 (cy 0) 7 f28, zI m1 (cy 0) 4 (u7.2.2 0), zI m10 (cy 0) 68 f10, zO mm 12 [vI (u7.2.1 1), vR m1, vI tp, vI sz_, vI ap, vI bad, vI bk, vI opn, vI fp, vR m9, vR m10, vR m11, vR m12, vR m13, vR m14, vR m15, vI im, vI nr, vI nl, vR m19, vR m20, vR m21, vI sp_, vR m23, vR m24, vR m25, vR m26, vR m27, vR m28, vI wtc, vI wcl, vI ir, vI ip, vR m33, vI shu, vR m35, vI sfa, vI swr], zI m12 (cy 0) 389 f12, zI m14 (cy 0) 389 (u8.2.2 0)] hq9
            refine lv_bipush (v := iI 60) hx hb dX12_pace_65 (by decide) ?_
            refine lv_istore (lv' := [(5, vI 60), (0, vR mm), (1, vI n), (2, vI p1), (3, vI p3), (4, vI k)]) hx hb dX12_pace_67 hlv (by decide) rfl (fun ls hlv => ?_)
            refine (?_ : ∀ (fu : Nat) (q5 : Int) (qi : Int) (qp : Int) (wg : Nat → Int32) (kg : Nat → Int32) (ng : Nat → Int32) (H : Heap) (locs : List Loc) (ls : Array Slot), q5 < (fu : Int) → (0 ≤ q5 ∧ q5 ≤ 60) → (0 ≤ qi ∧ qi ≤ 5) → ((-2147483648) ≤ qp ∧ qp ≤ 2147483647) → SQ qs 8 wg → va_P D vwCl [zI m23 (cy 0) 2480 f23, zI m24 (cy 0) 2480 f24, zI m25 (cy 0) 20 f25, zI m26 (cy 0) 20 f26, zI m27 (cy 0) 620 kg, zI m28 (cy 0) 7 ng, zI m1 (cy 0) 4 (u7.2.2 0), zI m10 (cy 0) 68 f10, zO mm 12 [vI (u7.2.1 1), vR m1, vI tp, vI sz_, vI ap, vI bad, vI bk, vI opn, vI fp, vR m9, vR m10, vR m11, vR m12, vR m13, vR m14, vR m15, vI im, vI nr, vI nl, vR m19, vR m20, vR m21, vI sp_, vR m23, vR m24, vR m25, vR m26, vR m27, vR m28, vI wtc, vI wcl, vI qi, vI qp, vR m33, vI shu, vR m35, vI sfa, vI swr], zI m12 (cy 0) 389 wg, zI m14 (cy 0) 389 (u8.2.2 0)] H → va_D A [zI m23 (cy 0) 2480 f23, zI m24 (cy 0) 2480 f24, zI m25 (cy 0) 20 f25, zI m26 (cy 0) 20 f26, zI m27 (cy 0) 620 kg, zI m28 (cy 0) 7 ng, zI m1 (cy 0) 4 (u7.2.2 0), zI m10 (cy 0) 68 f10, zO mm 12 [vI (u7.2.1 1), vR m1, vI tp, vI sz_, vI ap, vI bad, vI bk, vI opn, vI fp, vR m9, vR m10, vR m11, vR m12, vR m13, vR m14, vR m15, vI im, vI nr, vI nl, vR m19, vR m20, vR m21, vI sp_, vR m23, vR m24, vR m25, vR m26, vR m27, vR m28, vI wtc, vI wcl, vI qi, vI qp, vR m33, vI shu, vR m35, vI sfa, vI swr], zI m12 (cy 0) 389 wg, zI m14 (cy 0) 389 (u8.2.2 0)] → va_S A s.heap H locs → lv_has ls 7 [(5, vI q5), (0, vR mm), (1, vI n), (2, vI p1), (3, vI p3), (4, vI k)] → W p l e _ s m _ below meth c H locs _ _ _ (F0 m 69 ls [])) ((60 + 1 : Int)).toNat 60 ir ip f12 f27 f28 _ _ _ (by omega) (by show (0 : Int) ≤ 60 ∧ (60 : Int) ≤ 60; decide) (by first | exact hr_ir | omega) (by first | exact hr_ip | omega) hq8_0 hP hD hS hlv
            clear hP hD hS hlv
            intro fu
            induction fu with
            | zero => intro q5 qi qp wg kg ng H locs ls hm69 hl69_0 hl69_1 hl69_2 hiwg hP hD hS hlv; omega
            | succ fu ih69 =>
              intro q5 qi qp wg kg ng H locs ls hm69 hl69_0 hl69_1 hl69_2 hiwg hP hD hS hlv
              refine lv_iload hx hb dX12_pace_69 (lv_at hlv 0 rfl) ?_
              refine iz_le (tgt := 106) hx hb dX12_pace_71 (by decide) (by first | exact rgw hl69_0 (by decide) (by decide) | omega) (fun c_8 => ?_) (fun c_8 => ?_)
              · refine lv_iconst (v := iI (-1)) hx hb dX12_pace_106 (by decide) ?_
                refine W.widen (k := 0) (n := 0) (Nat.le_of_ble_eq_true rfl) (Nat.le_of_ble_eq_true rfl) ?_
                exact W.iret (v := iI (-1)) hx hb hr (fun t ht hW => ⟨⟨iI (-1), ((fun k => ([] : List Nat).getD k 0), (fun k => ([(-1), (u7.2.1 1), qi, qp] : List Int).getD k 0), (fun k => ([(u7.2.2 0), wg, (u8.2.2 0), kg, ng] : List (Nat → Int32)).getD k (fun _ => 0))), rfl, ⟨rfl, (by show ((-2147483648) ≤ (u7.2.1 1) ∧ (u7.2.1 1) ≤ 2147483647); first | exact hq7_1 | omega), (by show (0 ≤ qi ∧ qi ≤ 5); first | exact hl69_1 | omega), (by show ((-2147483648) ≤ qp ∧ qp ≤ 2147483647); first | exact hl69_2 | omega), (by show ((-2147483648) ≤ (-1) ∧ (-1) ≤ 2147483647); show ((-2147483648) : Int) ≤ (-1) ∧ ((-1) : Int) ≤ 2147483647; decide), hq7_4, hiwg, (hq8_1.1)⟩, at9 ht hP hD [8, 6, 7, 9, 10, 0, 1, 2, 3, 4, 5] (by decide +kernel) rfl⟩, hS.F ht⟩) hS.2.2 dX12_pace_107
              · refine lv_aload_n hx hb dX12_pace_74 rfl (lv_at hlv 1 rfl) ?_
                refine lv_iload_n hx hb dX12_pace_75 rfl (lv_at hlv 2 rfl) ?_
                refine lv_iload_n hx hb dX12_pace_76 rfl (lv_at hlv 3 rfl) ?_
                refine lv_iload hx hb dX12_pace_77 (lv_at hlv 0 rfl) ?_
                refine lv_iload_n hx hb dX12_pace_79 rfl (lv_at hlv 4 rfl) ?_
                refine lv_iconst (v := iI 0) hx hb dX12_pace_80 (by decide) ?_
                refine cjr_i [false, false, false, false, false, false, true, false, false, false, true] (fun pre9 => (va_runV (As := [vI n, vI p1, vI q5, vI p3, vI 0]) (rest := []) ⟨hx, hb, hml, hown, hts⟩ (m_passes l hl D cy sa mm m1 m9 m10 m11 m12 m13 m14 m15 m19 m20 m21 m23 m24 m25 m26 m27 m28 m33 m35 (u7.2.1 1) tp sz_ ap bad bk opn fp im nr nl sp_ wtc wcl qi qp shu sfa swr f10 wg f23 f24 f25 f26 kg ng n p1 q5 p3 0 qs 8 H.size (by first | exact hq7_1 | omega) (by first | exact hr_tp | omega) (by first | exact hr_sz_ | omega) (by first | exact hr_ap | omega) (by first | exact hr_bad | omega) (by first | exact hr_bk | omega) (by first | exact hr_opn | omega) (by first | exact hr_fp | omega) (by first | exact hr_im | omega) (by first | exact hr_nr | omega) (by first | exact hr_nl | omega) (by first | exact hr_sp_ | omega) (by first | exact hr_wtc | omega) (by first | exact hr_wcl | omega) (by first | exact hl69_1 | omega) (by first | exact hl69_2 | omega) (by first | exact hr_shu | omega) (by first | exact hr_sfa | omega) (by first | exact hr_swr | omega) (by omega) (by omega) (by first | exact rgw hl69_0 (by decide) (by decide) | omega) (by first | exact hr_p3 | omega) (by show ((-2147483648) : Int) ≤ 0 ∧ (0 : Int) ≤ 2147483647; decide) (by show (8 : Int) ≤ 8 ∧ (8 : Int) ≤ 9; decide) (by omega) (by omega) hn_li hq7_4 hiwg) (cwV 5 hts gg_7 rfl rfl rfl (by decide +kernel) ⟨Nat.le_of_ble_eq_true rfl, Nat.le_of_ble_eq_true rfl⟩) ⟨pcW.blind, (va_recv hG.1 hP (ci := 12) (q0 := 8) rfl rfl), pre9⟩ rfl rfl hlv.1 rfl (lv_room (Nat.le_of_ble_eq_true rfl)) dX12_pace_81 ⟨Nat.le_of_ble_eq_true rfl, Nat.le_of_ble_eq_true rfl⟩)) hP hD hS hA hG hT [8, 7, 9, 0, 1, 2, 3, 4, 5] rfl (by decide +kernel) (fun r9 u9 H locs hw9 hq9 hS => ?_)
                obtain ⟨rfl, hq9_1, hq9_2, hq9_3, hq9_4, hq9_5⟩ := hw9
                obtain ⟨hP, hD⟩ := pd9 [zI m1 (cy 0) 4 (u7.2.2 0), zI m14 (cy 0) 389 (u8.2.2 0), zO mm 12 [vI (u7.2.1 1), vR m1, vI tp, vI sz_, vI ap, vI bad, vI bk, vI opn, vI fp, vR m9, vR m10, vR m11, vR m12, vR m13, vR m14, vR m15, vI im, vI nr, vI nl, vR m19, vR m20, vR m21, vI sp_, vR m23, vR m24, vR m25, vR m26, vR m27, vR m28, vI wtc, vI wcl, vI (u9.2.1 1), vI (u9.2.1 2), vR m33, vI shu, vR m35, vI sfa, vI swr], zI m10 (cy 0) 68 f10, zI m12 (cy 0) 389 (u9.2.2 0), zI m23 (cy 0) 2480 f23, zI m24 (cy 0) 2480 f24, zI m25 (cy 0) 20 f25, zI m26 (cy 0) 20 f26, zI m27 (cy 0) 620 (u9.2.2 1), zI m28 (cy 0) 7 (u9.2.2 2)] hq9
                refine lv_istore (lv' := [(6, vI (u9.2.1 0)), (5, vI q5), (0, vR mm), (1, vI n), (2, vI p1), (3, vI p3), (4, vI k)]) hx hb dX12_pace_84 hlv (by decide) rfl (fun ls hlv => ?_)
                refine lv_aload_n hx hb dX12_pace_86 rfl (lv_at hlv 2 rfl) ?_
                refine cjr_v [true, false, false, true, false, true, true, true, true, true, true] (fun pre9 => (va_runV (As := []) (rest := []) ⟨hx, hb, hml, hown, hts⟩ (m_back l hl D cy sa mm m1 m9 m10 m11 m12 m13 m14 m15 m19 m20 m21 m23 m24 m25 m26 m27 m28 m33 m35 (u7.2.1 1) tp sz_ ap bad bk opn fp im nr nl sp_ wtc wcl (u9.2.1 1) (u9.2.1 2) shu sfa swr (u9.2.2 0) (u8.2.2 0) 8 qs H.size (by first | exact hq7_1 | omega) (by first | exact hr_tp | omega) (by first | exact hr_sz_ | omega) (by first | exact hr_ap | omega) (by first | exact hr_bad | omega) (by first | exact hr_bk | omega) (by first | exact hr_opn | omega) (by first | exact hr_fp | omega) (by first | exact hr_im | omega) (by first | exact hr_nr | omega) (by first | exact hr_nl | omega) (by first | exact hr_sp_ | omega) (by first | exact hr_wtc | omega) (by first | exact hr_wcl | omega) (by first | exact hq9_1 | omega) (by first | exact hq9_2 | omega) (by first | exact hr_shu | omega) (by first | exact hr_sfa | omega) (by first | exact hr_swr | omega) (by show (8 : Int) ≤ 8 ∧ (8 : Int) ≤ 9; decide) (hq9_5.1) hq8_1) (cwV 0 hts gg_8 rfl rfl rfl (by decide +kernel) ⟨Nat.le_of_ble_eq_true rfl, Nat.le_of_ble_eq_true rfl⟩) ⟨pcW.blind, (va_recv hG.1 hP (ci := 12) (q0 := 2) rfl rfl), pre9⟩ rfl rfl hlv.1 rfl (lv_room (Nat.le_of_ble_eq_true rfl)) dX12_pace_87 ⟨Nat.le_of_ble_eq_true rfl, Nat.le_of_ble_eq_true rfl⟩)) hP hD hS hA hG hT [2, 4, 1] rfl (by decide +kernel) (fun u10 H locs hw10 hq9 hS => ?_)
                obtain ⟨hq10_0, hq10_1⟩ := hw10
                obtain ⟨hP, hD⟩ := pd9 [zI m1 (cy 0) 4 (u7.2.2 0), zI m10 (cy 0) 68 f10, zI m23 (cy 0) 2480 f23, zI m24 (cy 0) 2480 f24, zI m25 (cy 0) 20 f25, zI m26 (cy 0) 20 f26, zI m27 (cy 0) 620 (u9.2.2 1), zI m28 (cy 0) 7 (u9.2.2 2), zO mm 12 [vI (u7.2.1 1), vR m1, vI tp, vI sz_, vI ap, vI bad, vI bk, vI opn, vI fp, vR m9, vR m10, vR m11, vR m12, vR m13, vR m14, vR m15, vI im, vI nr, vI nl, vR m19, vR m20, vR m21, vI sp_, vR m23, vR m24, vR m25, vR m26, vR m27, vR m28, vI wtc, vI wcl, vI (u9.2.1 1), vI (u9.2.1 2), vR m33, vI shu, vR m35, vI sfa, vI swr], zI m12 (cy 0) 389 (u10.2.2 0), zI m14 (cy 0) 389 (u8.2.2 0)] hq9
                refine lv_iload hx hb dX12_pace_90 (lv_at hlv 0 rfl) ?_
                refine lv_iload hx hb dX12_pace_92 (lv_at hlv 6 rfl) ?_
                refine ir_gt (tgt := 100) hx hb dX12_pace_94 (by decide) (by first | exact hq9_3 | omega) (by first | exact hr_k | omega) (fun c_9 => ?_) (fun c_9 => ?_)
                · obtain ⟨z_10, hz_10⟩ : ∃ z : Int, z = q5 + (-1) := ⟨_, rfl⟩
                  refine lv_iinc (v := iI z_10) (lv' := [(5, vI z_10), (6, vI (u9.2.1 0)), (0, vR mm), (1, vI n), (2, vI p1), (3, vI p3), (4, vI k)]) hx hb dX12_pace_100 hlv (k := 1) rfl (by rw [hz_10]; exact (Int32.ofInt_add _ _).symm) (by decide) rfl (fun ls hlv => ?_)
                  refine lv_goto (tgt := 69) hx hb dX12_pace_103 (by decide) ?_
                  exact ih69 z_10 (u9.2.1 1) (u9.2.1 2) (u10.2.2 0) (u9.2.2 1) (u9.2.2 2) H locs ls (by omega) (by omega) (by first | exact hq9_1 | omega) (by first | exact hq9_2 | omega) hq10_0 (hP.sub [2, 3, 4, 5, 6, 7, 0, 1, 8, 9, 10] rfl) (hD.sub [2, 3, 4, 5, 6, 7, 0, 1, 8, 9, 10] (by decide) rfl) hS (lv_sub hlv [0, 2, 3, 4, 5, 6] rfl)
                · refine lv_iload hx hb dX12_pace_97 (lv_at hlv 1 rfl) ?_
                  refine W.widen (k := 0) (n := 0) (Nat.le_of_ble_eq_true rfl) (Nat.le_of_ble_eq_true rfl) ?_
                  exact W.iret (v := iI q5) hx hb hr (fun t ht hW => ⟨⟨iI q5, ((fun k => ([] : List Nat).getD k 0), (fun k => ([q5, (u7.2.1 1), (u9.2.1 1), (u9.2.1 2)] : List Int).getD k 0), (fun k => ([(u7.2.2 0), (u10.2.2 0), (u8.2.2 0), (u9.2.2 1), (u9.2.2 2)] : List (Nat → Int32)).getD k (fun _ => 0))), rfl, ⟨rfl, (by show ((-2147483648) ≤ (u7.2.1 1) ∧ (u7.2.1 1) ≤ 2147483647); first | exact hq7_1 | omega), (by show (0 ≤ (u9.2.1 1) ∧ (u9.2.1 1) ≤ 5); first | exact hq9_1 | omega), (by show ((-2147483648) ≤ (u9.2.1 2) ∧ (u9.2.1 2) ≤ 2147483647); first | exact hq9_2 | omega), (by show ((-2147483648) ≤ q5 ∧ q5 ≤ 2147483647); first | exact rgw hl69_0 (by decide) (by decide) | omega), hq9_4, hq10_0, (hq10_1.1)⟩, at9 ht hP hD [8, 0, 1, 9, 10, 2, 3, 4, 5, 6, 7] (by decide +kernel) rfl⟩, hS.F ht⟩) hS.2.2 dX12_pace_99
          · refine lv_iconst (v := iI 0) hx hb dX12_pace_59 (by decide) ?_
            refine W.widen (k := 0) (n := 0) (Nat.le_of_ble_eq_true rfl) (Nat.le_of_ble_eq_true rfl) ?_
            exact W.iret (v := iI 0) hx hb hr (fun t ht hW => ⟨⟨iI 0, ((fun k => ([] : List Nat).getD k 0), (fun k => ([0, (u7.2.1 1), ir, ip] : List Int).getD k 0), (fun k => ([(u7.2.2 0), f12, f14, f27, f28] : List (Nat → Int32)).getD k (fun _ => 0))), rfl, ⟨rfl, (by show ((-2147483648) ≤ (u7.2.1 1) ∧ (u7.2.1 1) ≤ 2147483647); first | exact hq7_1 | omega), (by show (0 ≤ ir ∧ ir ≤ 5); first | exact hr_ir | omega), (by show ((-2147483648) ≤ ip ∧ ip ≤ 2147483647); first | exact hr_ip | omega), (by show ((-2147483648) ≤ 0 ∧ 0 ≤ 2147483647); show ((-2147483648) : Int) ≤ 0 ∧ (0 : Int) ≤ 2147483647; decide), hq7_4, hf12, hf14⟩, at9 ht hP hD [8, 9, 10, 0, 1, 2, 3, 4, 5, 6, 7] (by decide +kernel) rfl⟩, hS.F ht⟩) hS.2.2 dX12_pace_60
