theorem dX12_minute_0 : decode cX12_minute 0 = .ok (.iconst 0, 1) := by decide +kernel
theorem dX12_minute_1 : decode cX12_minute 1 = .ok (.istore_n 2, 1) := by decide +kernel
theorem dX12_minute_100 : decode cX12_minute 100 = .ok (.aload_n 0, 1) := by decide +kernel
theorem dX12_minute_101 : decode cX12_minute 101 = .ok (.invokevirtual 283, 3) := by decide +kernel
theorem dX12_minute_104 : decode cX12_minute 104 = .ok (.if_icmp .ge 96, 3) := by decide +kernel
theorem dX12_minute_107 : decode cX12_minute 107 = .ok (.bipush 96, 2) := by decide +kernel
theorem dX12_minute_109 : decode cX12_minute 109 = .ok (.aload_n 0, 1) := by decide +kernel
theorem dX12_minute_110 : decode cX12_minute 110 = .ok (.iload_n 2, 1) := by decide +kernel
theorem dX12_minute_111 : decode cX12_minute 111 = .ok (.iconst 0, 1) := by decide +kernel
theorem dX12_minute_112 : decode cX12_minute 112 = .ok (.invokevirtual 297, 3) := by decide +kernel
theorem dX12_minute_115 : decode cX12_minute 115 = .ok (.aload_n 0, 1) := by decide +kernel
theorem dX12_minute_116 : decode cX12_minute 116 = .ok (.iload_n 2, 1) := by decide +kernel
theorem dX12_minute_117 : decode cX12_minute 117 = .ok (.iconst 1, 1) := by decide +kernel
theorem dX12_minute_118 : decode cX12_minute 118 = .ok (.invokevirtual 297, 3) := by decide +kernel
theorem dX12_minute_12 : decode cX12_minute 12 = .ok (.iconst 0, 1) := by decide +kernel
theorem dX12_minute_121 : decode cX12_minute 121 = .ok (.invokestatic 289, 3) := by decide +kernel
theorem dX12_minute_124 : decode cX12_minute 124 = .ok (.iadd, 1) := by decide +kernel
theorem dX12_minute_125 : decode cX12_minute 125 = .ok (.istore_n 3, 1) := by decide +kernel
theorem dX12_minute_126 : decode cX12_minute 126 = .ok (.aload_n 0, 1) := by decide +kernel
theorem dX12_minute_127 : decode cX12_minute 127 = .ok (.iload_n 2, 1) := by decide +kernel
theorem dX12_minute_128 : decode cX12_minute 128 = .ok (.iconst 2, 1) := by decide +kernel
theorem dX12_minute_129 : decode cX12_minute 129 = .ok (.invokevirtual 297, 3) := by decide +kernel
theorem dX12_minute_13 : decode cX12_minute 13 = .ok (.istore_n 3, 1) := by decide +kernel
theorem dX12_minute_132 : decode cX12_minute 132 = .ok (.bipush 16, 2) := by decide +kernel
theorem dX12_minute_134 : decode cX12_minute 134 = .ok (.aload_n 0, 1) := by decide +kernel
theorem dX12_minute_135 : decode cX12_minute 135 = .ok (.iload_n 2, 1) := by decide +kernel
theorem dX12_minute_136 : decode cX12_minute 136 = .ok (.invokevirtual 294, 3) := by decide +kernel
theorem dX12_minute_139 : decode cX12_minute 139 = .ok (.isub, 1) := by decide +kernel
theorem dX12_minute_14 : decode cX12_minute 14 = .ok (.iload_n 3, 1) := by decide +kernel
theorem dX12_minute_140 : decode cX12_minute 140 = .ok (.imul, 1) := by decide +kernel
theorem dX12_minute_141 : decode cX12_minute 141 = .ok (.bipush 16, 2) := by decide +kernel
theorem dX12_minute_143 : decode cX12_minute 143 = .ok (.idiv, 1) := by decide +kernel
theorem dX12_minute_144 : decode cX12_minute 144 = .ok (.istore 4, 2) := by decide +kernel
theorem dX12_minute_146 : decode cX12_minute 146 = .ok (.iload 4, 2) := by decide +kernel
theorem dX12_minute_148 : decode cX12_minute 148 = .ok (.aload_n 0, 1) := by decide +kernel
theorem dX12_minute_149 : decode cX12_minute 149 = .ok (.getfield 29, 3) := by decide +kernel
theorem dX12_minute_15 : decode cX12_minute 15 = .ok (.aload_n 0, 1) := by decide +kernel
theorem dX12_minute_152 : decode cX12_minute 152 = .ok (.iload_n 3, 1) := by decide +kernel
theorem dX12_minute_153 : decode cX12_minute 153 = .ok (.iaload, 1) := by decide +kernel
theorem dX12_minute_154 : decode cX12_minute 154 = .ok (.if_icmp .ge 8, 3) := by decide +kernel
theorem dX12_minute_157 : decode cX12_minute 157 = .ok (.iload 4, 2) := by decide +kernel
theorem dX12_minute_159 : decode cX12_minute 159 = .ok (.goto 9, 3) := by decide +kernel
theorem dX12_minute_16 : decode cX12_minute 16 = .ok (.getfield 23, 3) := by decide +kernel
theorem dX12_minute_162 : decode cX12_minute 162 = .ok (.aload_n 0, 1) := by decide +kernel
theorem dX12_minute_163 : decode cX12_minute 163 = .ok (.getfield 29, 3) := by decide +kernel
theorem dX12_minute_166 : decode cX12_minute 166 = .ok (.iload_n 3, 1) := by decide +kernel
theorem dX12_minute_167 : decode cX12_minute 167 = .ok (.iaload, 1) := by decide +kernel
theorem dX12_minute_168 : decode cX12_minute 168 = .ok (.istore 4, 2) := by decide +kernel
theorem dX12_minute_170 : decode cX12_minute 170 = .ok (.aload_n 0, 1) := by decide +kernel
theorem dX12_minute_171 : decode cX12_minute 171 = .ok (.getfield 29, 3) := by decide +kernel
theorem dX12_minute_174 : decode cX12_minute 174 = .ok (.iload_n 3, 1) := by decide +kernel
theorem dX12_minute_175 : decode cX12_minute 175 = .ok (.dup2, 1) := by decide +kernel
theorem dX12_minute_176 : decode cX12_minute 176 = .ok (.iaload, 1) := by decide +kernel
theorem dX12_minute_177 : decode cX12_minute 177 = .ok (.iload 4, 2) := by decide +kernel
theorem dX12_minute_179 : decode cX12_minute 179 = .ok (.isub, 1) := by decide +kernel
theorem dX12_minute_180 : decode cX12_minute 180 = .ok (.iastore, 1) := by decide +kernel
theorem dX12_minute_181 : decode cX12_minute 181 = .ok (.aload_n 0, 1) := by decide +kernel
theorem dX12_minute_182 : decode cX12_minute 182 = .ok (.getfield 29, 3) := by decide +kernel
theorem dX12_minute_185 : decode cX12_minute 185 = .ok (.sipush 386, 3) := by decide +kernel
theorem dX12_minute_188 : decode cX12_minute 188 = .ok (.dup2, 1) := by decide +kernel
theorem dX12_minute_189 : decode cX12_minute 189 = .ok (.iaload, 1) := by decide +kernel
theorem dX12_minute_19 : decode cX12_minute 19 = .ok (.iconst 0, 1) := by decide +kernel
theorem dX12_minute_190 : decode cX12_minute 190 = .ok (.iload 4, 2) := by decide +kernel
theorem dX12_minute_192 : decode cX12_minute 192 = .ok (.iadd, 1) := by decide +kernel
theorem dX12_minute_193 : decode cX12_minute 193 = .ok (.iastore, 1) := by decide +kernel
theorem dX12_minute_194 : decode cX12_minute 194 = .ok (.iinc 2 1, 3) := by decide +kernel
theorem dX12_minute_197 : decode cX12_minute 197 = .ok (.goto (-98), 3) := by decide +kernel
theorem dX12_minute_2 : decode cX12_minute 2 = .ok (.iload_n 2, 1) := by decide +kernel
theorem dX12_minute_20 : decode cX12_minute 20 = .ok (.iaload, 1) := by decide +kernel
theorem dX12_minute_200 : decode cX12_minute 200 = .ok (.aload_n 0, 1) := by decide +kernel
theorem dX12_minute_201 : decode cX12_minute 201 = .ok (.getfield 29, 3) := by decide +kernel
theorem dX12_minute_204 : decode cX12_minute 204 = .ok (.sipush 388, 3) := by decide +kernel
theorem dX12_minute_207 : decode cX12_minute 207 = .ok (.dup2, 1) := by decide +kernel
theorem dX12_minute_208 : decode cX12_minute 208 = .ok (.iaload, 1) := by decide +kernel
theorem dX12_minute_209 : decode cX12_minute 209 = .ok (.iconst 1, 1) := by decide +kernel
theorem dX12_minute_21 : decode cX12_minute 21 = .ok (.if_icmp .ge 26, 3) := by decide +kernel
theorem dX12_minute_210 : decode cX12_minute 210 = .ok (.iadd, 1) := by decide +kernel
theorem dX12_minute_211 : decode cX12_minute 211 = .ok (.iastore, 1) := by decide +kernel
theorem dX12_minute_212 : decode cX12_minute 212 = .ok (.return_, 1) := by decide +kernel
theorem dX12_minute_24 : decode cX12_minute 24 = .ok (.aload_n 0, 1) := by decide +kernel
theorem dX12_minute_25 : decode cX12_minute 25 = .ok (.getfield 29, 3) := by decide +kernel
theorem dX12_minute_28 : decode cX12_minute 28 = .ok (.bipush 96, 2) := by decide +kernel
theorem dX12_minute_3 : decode cX12_minute 3 = .ok (.aload_n 0, 1) := by decide +kernel
theorem dX12_minute_30 : decode cX12_minute 30 = .ok (.iload_n 3, 1) := by decide +kernel
theorem dX12_minute_31 : decode cX12_minute 31 = .ok (.iload_n 2, 1) := by decide +kernel
theorem dX12_minute_32 : decode cX12_minute 32 = .ok (.invokestatic 289, 3) := by decide +kernel
theorem dX12_minute_35 : decode cX12_minute 35 = .ok (.iadd, 1) := by decide +kernel
theorem dX12_minute_36 : decode cX12_minute 36 = .ok (.dup2, 1) := by decide +kernel
theorem dX12_minute_37 : decode cX12_minute 37 = .ok (.iaload, 1) := by decide +kernel
theorem dX12_minute_38 : decode cX12_minute 38 = .ok (.iload_n 1, 1) := by decide +kernel
theorem dX12_minute_39 : decode cX12_minute 39 = .ok (.iadd, 1) := by decide +kernel
theorem dX12_minute_4 : decode cX12_minute 4 = .ok (.getfield 23, 3) := by decide +kernel
theorem dX12_minute_40 : decode cX12_minute 40 = .ok (.iastore, 1) := by decide +kernel
theorem dX12_minute_41 : decode cX12_minute 41 = .ok (.iinc 3 1, 3) := by decide +kernel
theorem dX12_minute_44 : decode cX12_minute 44 = .ok (.goto (-30), 3) := by decide +kernel
theorem dX12_minute_47 : decode cX12_minute 47 = .ok (.iinc 2 1, 3) := by decide +kernel
theorem dX12_minute_50 : decode cX12_minute 50 = .ok (.goto (-48), 3) := by decide +kernel
theorem dX12_minute_53 : decode cX12_minute 53 = .ok (.aload_n 0, 1) := by decide +kernel
theorem dX12_minute_54 : decode cX12_minute 54 = .ok (.getfield 29, 3) := by decide +kernel
theorem dX12_minute_57 : decode cX12_minute 57 = .ok (.sipush 385, 3) := by decide +kernel
theorem dX12_minute_60 : decode cX12_minute 60 = .ok (.dup2, 1) := by decide +kernel
theorem dX12_minute_61 : decode cX12_minute 61 = .ok (.iaload, 1) := by decide +kernel
theorem dX12_minute_62 : decode cX12_minute 62 = .ok (.iload_n 1, 1) := by decide +kernel
theorem dX12_minute_63 : decode cX12_minute 63 = .ok (.aload_n 0, 1) := by decide +kernel
theorem dX12_minute_64 : decode cX12_minute 64 = .ok (.getfield 23, 3) := by decide +kernel
theorem dX12_minute_67 : decode cX12_minute 67 = .ok (.iconst 0, 1) := by decide +kernel
theorem dX12_minute_68 : decode cX12_minute 68 = .ok (.iaload, 1) := by decide +kernel
theorem dX12_minute_69 : decode cX12_minute 69 = .ok (.imul, 1) := by decide +kernel
theorem dX12_minute_7 : decode cX12_minute 7 = .ok (.iconst 1, 1) := by decide +kernel
theorem dX12_minute_70 : decode cX12_minute 70 = .ok (.aload_n 0, 1) := by decide +kernel
theorem dX12_minute_71 : decode cX12_minute 71 = .ok (.getfield 23, 3) := by decide +kernel
theorem dX12_minute_74 : decode cX12_minute 74 = .ok (.iconst 1, 1) := by decide +kernel
theorem dX12_minute_75 : decode cX12_minute 75 = .ok (.iaload, 1) := by decide +kernel
theorem dX12_minute_76 : decode cX12_minute 76 = .ok (.imul, 1) := by decide +kernel
theorem dX12_minute_77 : decode cX12_minute 77 = .ok (.iadd, 1) := by decide +kernel
theorem dX12_minute_78 : decode cX12_minute 78 = .ok (.iastore, 1) := by decide +kernel
theorem dX12_minute_79 : decode cX12_minute 79 = .ok (.iconst 0, 1) := by decide +kernel
theorem dX12_minute_8 : decode cX12_minute 8 = .ok (.iaload, 1) := by decide +kernel
theorem dX12_minute_80 : decode cX12_minute 80 = .ok (.istore_n 2, 1) := by decide +kernel
theorem dX12_minute_81 : decode cX12_minute 81 = .ok (.iload_n 2, 1) := by decide +kernel
theorem dX12_minute_82 : decode cX12_minute 82 = .ok (.bipush 8, 2) := by decide +kernel
theorem dX12_minute_84 : decode cX12_minute 84 = .ok (.if_icmp .ge 13, 3) := by decide +kernel
theorem dX12_minute_87 : decode cX12_minute 87 = .ok (.aload_n 0, 1) := by decide +kernel
theorem dX12_minute_88 : decode cX12_minute 88 = .ok (.invokevirtual 309, 3) := by decide +kernel
theorem dX12_minute_9 : decode cX12_minute 9 = .ok (.if_icmp .ge 44, 3) := by decide +kernel
theorem dX12_minute_91 : decode cX12_minute 91 = .ok (.iinc 2 1, 3) := by decide +kernel
theorem dX12_minute_94 : decode cX12_minute 94 = .ok (.goto (-13), 3) := by decide +kernel
theorem dX12_minute_97 : decode cX12_minute 97 = .ok (.iconst 0, 1) := by decide +kernel
theorem dX12_minute_98 : decode cX12_minute 98 = .ok (.istore_n 2, 1) := by decide +kernel
theorem dX12_minute_99 : decode cX12_minute 99 = .ok (.iload_n 2, 1) := by decide +kernel
theorem dX12_round_0 : decode cX12_round 0 = .ok (.iconst 0, 1) := by decide +kernel
theorem dX12_round_1 : decode cX12_round 1 = .ok (.istore_n 1, 1) := by decide +kernel
theorem dX12_round_102 : decode cX12_round 102 = .ok (.ifCond .eq 55, 3) := by decide +kernel
theorem dX12_round_105 : decode cX12_round 105 = .ok (.iload 6, 2) := by decide +kernel
theorem dX12_round_107 : decode cX12_round 107 = .ok (.iconst 0, 1) := by decide +kernel
theorem dX12_round_108 : decode cX12_round 108 = .ok (.aload_n 0, 1) := by decide +kernel
theorem dX12_round_109 : decode cX12_round 109 = .ok (.getfield 23, 3) := by decide +kernel
theorem dX12_round_112 : decode cX12_round 112 = .ok (.iconst 1, 1) := by decide +kernel
theorem dX12_round_113 : decode cX12_round 113 = .ok (.iaload, 1) := by decide +kernel
theorem dX12_round_114 : decode cX12_round 114 = .ok (.iconst 1, 1) := by decide +kernel
theorem dX12_round_115 : decode cX12_round 115 = .ok (.isub, 1) := by decide +kernel
theorem dX12_round_116 : decode cX12_round 116 = .ok (.invokestatic 279, 3) := by decide +kernel
theorem dX12_round_119 : decode cX12_round 119 = .ok (.ifCond .ne 6, 3) := by decide +kernel
theorem dX12_round_12 : decode cX12_round 12 = .ok (.iconst 0, 1) := by decide +kernel
theorem dX12_round_122 : decode cX12_round 122 = .ok (.goto 35, 3) := by decide +kernel
theorem dX12_round_125 : decode cX12_round 125 = .ok (.iload_n 3, 1) := by decide +kernel
theorem dX12_round_126 : decode cX12_round 126 = .ok (.iconst (-1), 1) := by decide +kernel
theorem dX12_round_127 : decode cX12_round 127 = .ok (.if_icmp .eq 22, 3) := by decide +kernel
theorem dX12_round_13 : decode cX12_round 13 = .ok (.istore_n 2, 1) := by decide +kernel
theorem dX12_round_130 : decode cX12_round 130 = .ok (.aload_n 0, 1) := by decide +kernel
theorem dX12_round_131 : decode cX12_round 131 = .ok (.iload 5, 2) := by decide +kernel
theorem dX12_round_133 : decode cX12_round 133 = .ok (.iload 6, 2) := by decide +kernel
theorem dX12_round_135 : decode cX12_round 135 = .ok (.invokestatic 289, 3) := by decide +kernel
theorem dX12_round_138 : decode cX12_round 138 = .ok (.invokevirtual 291, 3) := by decide +kernel
theorem dX12_round_14 : decode cX12_round 14 = .ok (.iload_n 2, 1) := by decide +kernel
theorem dX12_round_141 : decode cX12_round 141 = .ok (.aload_n 0, 1) := by decide +kernel
theorem dX12_round_142 : decode cX12_round 142 = .ok (.iload_n 3, 1) := by decide +kernel
theorem dX12_round_143 : decode cX12_round 143 = .ok (.invokevirtual 291, 3) := by decide +kernel
theorem dX12_round_146 : decode cX12_round 146 = .ok (.if_icmp .ge 11, 3) := by decide +kernel
theorem dX12_round_149 : decode cX12_round 149 = .ok (.iload 5, 2) := by decide +kernel
theorem dX12_round_15 : decode cX12_round 15 = .ok (.aload_n 0, 1) := by decide +kernel
theorem dX12_round_151 : decode cX12_round 151 = .ok (.iload 6, 2) := by decide +kernel
theorem dX12_round_153 : decode cX12_round 153 = .ok (.invokestatic 289, 3) := by decide +kernel
theorem dX12_round_156 : decode cX12_round 156 = .ok (.istore_n 3, 1) := by decide +kernel
theorem dX12_round_157 : decode cX12_round 157 = .ok (.iinc 4 1, 3) := by decide +kernel
theorem dX12_round_16 : decode cX12_round 16 = .ok (.getfield 23, 3) := by decide +kernel
theorem dX12_round_160 : decode cX12_round 160 = .ok (.goto (-131), 3) := by decide +kernel
theorem dX12_round_163 : decode cX12_round 163 = .ok (.aload_n 0, 1) := by decide +kernel
theorem dX12_round_164 : decode cX12_round 164 = .ok (.iload_n 2, 1) := by decide +kernel
theorem dX12_round_165 : decode cX12_round 165 = .ok (.iload_n 1, 1) := by decide +kernel
theorem dX12_round_166 : decode cX12_round 166 = .ok (.invokestatic 289, 3) := by decide +kernel
theorem dX12_round_169 : decode cX12_round 169 = .ok (.iload_n 3, 1) := by decide +kernel
theorem dX12_round_170 : decode cX12_round 170 = .ok (.invokevirtual 306, 3) := by decide +kernel
theorem dX12_round_173 : decode cX12_round 173 = .ok (.iinc 2 1, 3) := by decide +kernel
theorem dX12_round_176 : decode cX12_round 176 = .ok (.goto (-162), 3) := by decide +kernel
theorem dX12_round_179 : decode cX12_round 179 = .ok (.iinc 1 1, 3) := by decide +kernel
theorem dX12_round_182 : decode cX12_round 182 = .ok (.goto (-180), 3) := by decide +kernel
theorem dX12_round_185 : decode cX12_round 185 = .ok (.return_, 1) := by decide +kernel
theorem dX12_round_19 : decode cX12_round 19 = .ok (.iconst 0, 1) := by decide +kernel
theorem dX12_round_2 : decode cX12_round 2 = .ok (.iload_n 1, 1) := by decide +kernel
theorem dX12_round_20 : decode cX12_round 20 = .ok (.iaload, 1) := by decide +kernel
theorem dX12_round_21 : decode cX12_round 21 = .ok (.if_icmp .ge 158, 3) := by decide +kernel
theorem dX12_round_24 : decode cX12_round 24 = .ok (.iconst (-1), 1) := by decide +kernel
theorem dX12_round_25 : decode cX12_round 25 = .ok (.istore_n 3, 1) := by decide +kernel
theorem dX12_round_26 : decode cX12_round 26 = .ok (.iconst 0, 1) := by decide +kernel
theorem dX12_round_27 : decode cX12_round 27 = .ok (.istore 4, 2) := by decide +kernel
theorem dX12_round_29 : decode cX12_round 29 = .ok (.iload 4, 2) := by decide +kernel
theorem dX12_round_3 : decode cX12_round 3 = .ok (.aload_n 0, 1) := by decide +kernel
theorem dX12_round_31 : decode cX12_round 31 = .ok (.iconst 4, 1) := by decide +kernel
theorem dX12_round_32 : decode cX12_round 32 = .ok (.if_icmp .ge 131, 3) := by decide +kernel
theorem dX12_round_35 : decode cX12_round 35 = .ok (.iload 4, 2) := by decide +kernel
theorem dX12_round_37 : decode cX12_round 37 = .ok (.ifCond .ne 9, 3) := by decide +kernel
theorem dX12_round_4 : decode cX12_round 4 = .ok (.getfield 23, 3) := by decide +kernel
theorem dX12_round_40 : decode cX12_round 40 = .ok (.iload_n 2, 1) := by decide +kernel
theorem dX12_round_41 : decode cX12_round 41 = .ok (.iconst 1, 1) := by decide +kernel
theorem dX12_round_42 : decode cX12_round 42 = .ok (.isub, 1) := by decide +kernel
theorem dX12_round_43 : decode cX12_round 43 = .ok (.goto 16, 3) := by decide +kernel
theorem dX12_round_46 : decode cX12_round 46 = .ok (.iload 4, 2) := by decide +kernel
theorem dX12_round_48 : decode cX12_round 48 = .ok (.iconst 1, 1) := by decide +kernel
theorem dX12_round_49 : decode cX12_round 49 = .ok (.if_icmp .ne 9, 3) := by decide +kernel
theorem dX12_round_52 : decode cX12_round 52 = .ok (.iload_n 2, 1) := by decide +kernel
theorem dX12_round_53 : decode cX12_round 53 = .ok (.iconst 1, 1) := by decide +kernel
theorem dX12_round_54 : decode cX12_round 54 = .ok (.iadd, 1) := by decide +kernel
theorem dX12_round_55 : decode cX12_round 55 = .ok (.goto 4, 3) := by decide +kernel
theorem dX12_round_58 : decode cX12_round 58 = .ok (.iload_n 2, 1) := by decide +kernel
theorem dX12_round_59 : decode cX12_round 59 = .ok (.istore 5, 2) := by decide +kernel
theorem dX12_round_61 : decode cX12_round 61 = .ok (.iload 4, 2) := by decide +kernel
theorem dX12_round_63 : decode cX12_round 63 = .ok (.iconst 2, 1) := by decide +kernel
theorem dX12_round_64 : decode cX12_round 64 = .ok (.if_icmp .ne 9, 3) := by decide +kernel
theorem dX12_round_67 : decode cX12_round 67 = .ok (.iload_n 1, 1) := by decide +kernel
theorem dX12_round_68 : decode cX12_round 68 = .ok (.iconst 1, 1) := by decide +kernel
theorem dX12_round_69 : decode cX12_round 69 = .ok (.isub, 1) := by decide +kernel
theorem dX12_round_7 : decode cX12_round 7 = .ok (.iconst 1, 1) := by decide +kernel
theorem dX12_round_70 : decode cX12_round 70 = .ok (.goto 16, 3) := by decide +kernel
theorem dX12_round_73 : decode cX12_round 73 = .ok (.iload 4, 2) := by decide +kernel
theorem dX12_round_75 : decode cX12_round 75 = .ok (.iconst 3, 1) := by decide +kernel
theorem dX12_round_76 : decode cX12_round 76 = .ok (.if_icmp .ne 9, 3) := by decide +kernel
theorem dX12_round_79 : decode cX12_round 79 = .ok (.iload_n 1, 1) := by decide +kernel
theorem dX12_round_8 : decode cX12_round 8 = .ok (.iaload, 1) := by decide +kernel
theorem dX12_round_80 : decode cX12_round 80 = .ok (.iconst 1, 1) := by decide +kernel
theorem dX12_round_81 : decode cX12_round 81 = .ok (.iadd, 1) := by decide +kernel
theorem dX12_round_82 : decode cX12_round 82 = .ok (.goto 4, 3) := by decide +kernel
theorem dX12_round_85 : decode cX12_round 85 = .ok (.iload_n 1, 1) := by decide +kernel
theorem dX12_round_86 : decode cX12_round 86 = .ok (.istore 6, 2) := by decide +kernel
theorem dX12_round_88 : decode cX12_round 88 = .ok (.iload 5, 2) := by decide +kernel
theorem dX12_round_9 : decode cX12_round 9 = .ok (.if_icmp .ge 176, 3) := by decide +kernel
theorem dX12_round_90 : decode cX12_round 90 = .ok (.iconst 0, 1) := by decide +kernel
theorem dX12_round_91 : decode cX12_round 91 = .ok (.aload_n 0, 1) := by decide +kernel
theorem dX12_round_92 : decode cX12_round 92 = .ok (.getfield 23, 3) := by decide +kernel
theorem dX12_round_95 : decode cX12_round 95 = .ok (.iconst 0, 1) := by decide +kernel
theorem dX12_round_96 : decode cX12_round 96 = .ok (.iaload, 1) := by decide +kernel
theorem dX12_round_97 : decode cX12_round 97 = .ok (.iconst 1, 1) := by decide +kernel
theorem dX12_round_98 : decode cX12_round 98 = .ok (.isub, 1) := by decide +kernel
theorem dX12_round_99 : decode cX12_round 99 = .ok (.invokestatic 279, 3) := by decide +kernel
theorem dX12_runsTo_0 : decode cX12_runsTo 0 = .ok (.aload_n 0, 1) := by decide +kernel
theorem dX12_runsTo_1 : decode cX12_runsTo 1 = .ok (.iload_n 1, 1) := by decide +kernel
theorem dX12_runsTo_10 : decode cX12_runsTo 10 = .ok (.isub, 1) := by decide +kernel
theorem dX12_runsTo_11 : decode cX12_runsTo 11 = .ok (.istore_n 3, 1) := by decide +kernel
theorem dX12_runsTo_12 : decode cX12_runsTo 12 = .ok (.iload_n 3, 1) := by decide +kernel
theorem dX12_runsTo_13 : decode cX12_runsTo 13 = .ok (.iconst 2, 1) := by decide +kernel
theorem dX12_runsTo_14 : decode cX12_runsTo 14 = .ok (.if_icmp .ge 4, 3) := by decide +kernel
theorem dX12_runsTo_17 : decode cX12_runsTo 17 = .ok (.return_, 1) := by decide +kernel
theorem dX12_runsTo_18 : decode cX12_runsTo 18 = .ok (.iload_n 3, 1) := by decide +kernel
theorem dX12_runsTo_19 : decode cX12_runsTo 19 = .ok (.iconst 2, 1) := by decide +kernel
theorem dX12_runsTo_2 : decode cX12_runsTo 2 = .ok (.invokevirtual 291, 3) := by decide +kernel
theorem dX12_runsTo_20 : decode cX12_runsTo 20 = .ok (.idiv, 1) := by decide +kernel
theorem dX12_runsTo_21 : decode cX12_runsTo 21 = .ok (.aload_n 0, 1) := by decide +kernel
theorem dX12_runsTo_22 : decode cX12_runsTo 22 = .ok (.getfield 29, 3) := by decide +kernel
theorem dX12_runsTo_25 : decode cX12_runsTo 25 = .ok (.bipush 96, 2) := by decide +kernel
theorem dX12_runsTo_27 : decode cX12_runsTo 27 = .ok (.iload_n 1, 1) := by decide +kernel
theorem dX12_runsTo_28 : decode cX12_runsTo 28 = .ok (.iadd, 1) := by decide +kernel
theorem dX12_runsTo_29 : decode cX12_runsTo 29 = .ok (.iaload, 1) := by decide +kernel
theorem dX12_runsTo_30 : decode cX12_runsTo 30 = .ok (.if_icmp .ge 9, 3) := by decide +kernel
theorem dX12_runsTo_33 : decode cX12_runsTo 33 = .ok (.iload_n 3, 1) := by decide +kernel
theorem dX12_runsTo_34 : decode cX12_runsTo 34 = .ok (.iconst 2, 1) := by decide +kernel
theorem dX12_runsTo_35 : decode cX12_runsTo 35 = .ok (.idiv, 1) := by decide +kernel
theorem dX12_runsTo_36 : decode cX12_runsTo 36 = .ok (.goto 12, 3) := by decide +kernel
theorem dX12_runsTo_39 : decode cX12_runsTo 39 = .ok (.aload_n 0, 1) := by decide +kernel
theorem dX12_runsTo_40 : decode cX12_runsTo 40 = .ok (.getfield 29, 3) := by decide +kernel
theorem dX12_runsTo_43 : decode cX12_runsTo 43 = .ok (.bipush 96, 2) := by decide +kernel
theorem dX12_runsTo_45 : decode cX12_runsTo 45 = .ok (.iload_n 1, 1) := by decide +kernel
theorem dX12_runsTo_46 : decode cX12_runsTo 46 = .ok (.iadd, 1) := by decide +kernel
theorem dX12_runsTo_47 : decode cX12_runsTo 47 = .ok (.iaload, 1) := by decide +kernel
theorem dX12_runsTo_48 : decode cX12_runsTo 48 = .ok (.istore 4, 2) := by decide +kernel
theorem dX12_runsTo_5 : decode cX12_runsTo 5 = .ok (.aload_n 0, 1) := by decide +kernel
theorem dX12_runsTo_50 : decode cX12_runsTo 50 = .ok (.aload_n 0, 1) := by decide +kernel
theorem dX12_runsTo_51 : decode cX12_runsTo 51 = .ok (.getfield 29, 3) := by decide +kernel
theorem dX12_runsTo_54 : decode cX12_runsTo 54 = .ok (.bipush 96, 2) := by decide +kernel
theorem dX12_runsTo_56 : decode cX12_runsTo 56 = .ok (.iload_n 1, 1) := by decide +kernel
theorem dX12_runsTo_57 : decode cX12_runsTo 57 = .ok (.iadd, 1) := by decide +kernel
theorem dX12_runsTo_58 : decode cX12_runsTo 58 = .ok (.dup2, 1) := by decide +kernel
theorem dX12_runsTo_59 : decode cX12_runsTo 59 = .ok (.iaload, 1) := by decide +kernel
theorem dX12_runsTo_6 : decode cX12_runsTo 6 = .ok (.iload_n 2, 1) := by decide +kernel
theorem dX12_runsTo_60 : decode cX12_runsTo 60 = .ok (.iload 4, 2) := by decide +kernel
theorem dX12_runsTo_62 : decode cX12_runsTo 62 = .ok (.isub, 1) := by decide +kernel
theorem dX12_runsTo_63 : decode cX12_runsTo 63 = .ok (.iastore, 1) := by decide +kernel
theorem dX12_runsTo_64 : decode cX12_runsTo 64 = .ok (.aload_n 0, 1) := by decide +kernel
theorem dX12_runsTo_65 : decode cX12_runsTo 65 = .ok (.getfield 29, 3) := by decide +kernel
theorem dX12_runsTo_68 : decode cX12_runsTo 68 = .ok (.bipush 96, 2) := by decide +kernel
theorem dX12_runsTo_7 : decode cX12_runsTo 7 = .ok (.invokevirtual 291, 3) := by decide +kernel
theorem dX12_runsTo_70 : decode cX12_runsTo 70 = .ok (.iload_n 2, 1) := by decide +kernel
theorem dX12_runsTo_71 : decode cX12_runsTo 71 = .ok (.iadd, 1) := by decide +kernel
theorem dX12_runsTo_72 : decode cX12_runsTo 72 = .ok (.dup2, 1) := by decide +kernel
theorem dX12_runsTo_73 : decode cX12_runsTo 73 = .ok (.iaload, 1) := by decide +kernel
theorem dX12_runsTo_74 : decode cX12_runsTo 74 = .ok (.iload 4, 2) := by decide +kernel
theorem dX12_runsTo_76 : decode cX12_runsTo 76 = .ok (.iadd, 1) := by decide +kernel
theorem dX12_runsTo_77 : decode cX12_runsTo 77 = .ok (.iastore, 1) := by decide +kernel
theorem dX12_runsTo_78 : decode cX12_runsTo 78 = .ok (.return_, 1) := by decide +kernel
def vs_m_runsTo : List Cond := .code yX12_runsTo cX12_runsTo 5 none :: (([.fieldLink RX12 29 "KerbSplashModel" "s" "[I"] : List Cond) ++ ((wsV RX12 291 RX12 yX12_surface vs_m_surface) ++ ((wsX120) ++ ([]))))
theorem gd_m_runsTo : vs_m_runsTo.all goodWord = true := gd_C (by decide +kernel) (gd_A (by decide +kernel) (gd_A (gd_V gd_m_surface (by decide +kernel)) (gd_A (by decide +kernel) rfl)))
set_option maxHeartbeats 4000000 in
set_option maxRecDepth 100000 in
theorem m_runsTo (l : Launch) (hl : l.stackTraces = false) (D : va_G) (cy : Nat → ClassId) (sa : Nat → Nat) (mm m1 m9 m10 m11 m12 m13 m14 m15 m19 m20 m21 m23 m24 m25 m26 m27 m28 m33 m35 : Nat) (th tp sz_ ap bad bk opn fp im nr nl sp_ wtc wcl ir ip shu sfa swr : Int) (f12 : Nat → Int32) (n k : Int) (qs : Nat → Int) (pm : Int) (sz : Nat) (hr_th : (-2147483648) ≤ th ∧ th ≤ 2147483647) (hr_tp : 0 ≤ tp ∧ tp ≤ 600) (hr_sz_ : 0 ≤ sz_ ∧ sz_ ≤ 600) (hr_ap : 0 ≤ ap ∧ ap ≤ 602) (hr_bad : (-1) ≤ bad ∧ bad ≤ 602) (hr_bk : 0 ≤ bk ∧ bk ≤ 4) (hr_opn : 0 ≤ opn ∧ opn ≤ 7) (hr_fp : (-2147483648) ≤ fp ∧ fp ≤ 2147483647) (hr_im : 0 ≤ im ∧ im ≤ 3) (hr_nr : 0 ≤ nr ∧ nr ≤ 4) (hr_nl : 0 ≤ nl ∧ nl ≤ 4) (hr_sp_ : 0 ≤ sp_ ∧ sp_ ≤ 602) (hr_wtc : (-2147483648) ≤ wtc ∧ wtc ≤ 2147483647) (hr_wcl : 0 ≤ wcl ∧ wcl ≤ 95) (hr_ir : 0 ≤ ir ∧ ir ≤ 5) (hr_ip : (-2147483648) ≤ ip ∧ ip ≤ 2147483647) (hr_shu : (-2147483648) ≤ shu ∧ shu ≤ 2147483647) (hr_sfa : (-2147483648) ≤ sfa ∧ sfa ≤ 2147483647) (hr_swr : (-2147483648) ≤ swr ∧ swr ≤ 2147483647) (hr_n : 0 ≤ n ∧ n ≤ 95) (hr_k : 0 ≤ k ∧ k ≤ 95) (hr_pm : 8 ≤ pm ∧ pm ≤ 9) (hf12 : SQ qs pm f12) : mV9 l yX12_runsTo vs_m_runsTo ({ frames := 1, cells := 0, slots := 0, locals := 21 }) D cy sa sz [vR mm, vI n, vI k] [zO mm 12 [vI th, vR m1, vI tp, vI sz_, vI ap, vI bad, vI bk, vI opn, vI fp, vR m9, vR m10, vR m11, vR m12, vR m13, vR m14, vR m15, vI im, vI nr, vI nl, vR m19, vR m20, vR m21, vI sp_, vR m23, vR m24, vR m25, vR m26, vR m27, vR m28, vI wtc, vI wcl, vI ir, vI ip, vR m33, vI shu, vR m35, vI sfa, vI swr], zI m12 (cy 0) 389 f12] (fun u : SV => (nz (u.2.2 0) 388 = nz f12 388) ∧ SQ qs pm (u.2.2 0)) (fun u : SV => [zO mm 12 [vI th, vR m1, vI tp, vI sz_, vI ap, vI bad, vI bk, vI opn, vI fp, vR m9, vR m10, vR m11, vR m12, vR m13, vR m14, vR m15, vI im, vI nr, vI nl, vR m19, vR m20, vR m21, vI sp_, vR m23, vR m24, vR m25, vR m26, vR m27, vR m28, vI wtc, vI wcl, vI ir, vI ip, vR m33, vI shu, vR m35, vI sfa, vI swr], zI m12 (cy 0) 389 (u.2.2 0)]) 0 0 := by
  refine Met.ofW (cc := cX12_runsTo) (maxL := 5) (ret := none) (by decide) rfl ?_
  intro p e s m args below meth c s₁ B hml hv
  obtain ⟨rfl, hsz, hP, hG, hD0, hT⟩ := hv
  have hx := B.exec
  have hb := B.bytes
  have hr := B.returns
  have hts := atoms_spec (ws := vs_m_runsTo) B.pre
  have hown : s.vm.findClass RX12 = some m.cls := findClass_of_methodNamed B.named
  have hlocks := B.notSynchronized
  subst hsz
  have hD := hD0.self (sz := s.heap.size)
  generalize hAe : va_A [zO mm 12 [vI th, vR m1, vI tp, vI sz_, vI ap, vI bad, vI bk, vI opn, vI fp, vR m9, vR m10, vR m11, vR m12, vR m13, vR m14, vR m15, vI im, vI nr, vI nl, vR m19, vR m20, vR m21, vI sp_, vR m23, vR m24, vR m25, vR m26, vR m27, vR m28, vI wtc, vI wcl, vI ir, vI ip, vR m33, vI shu, vR m35, vI sfa, vI swr], zI m12 (cy 0) 389 f12] s.heap.size = A at hD hT ⊢
  have hA : ∀ q : Nat, s.heap.size ≤ q → A q := fun q h => by rw [← hAe]; exact Or.inr h
  have hS : va_S A s.heap s.heap [] := va_S.rf
  have hl0 := lv_entry ([vR mm, vI n, vI k]) (n := 5) (Nat.le_of_ble_eq_true rfl)
  rw [lg_entry_eq]
  generalize (lg_sl ([vR mm, vI n, vI k]) ++ List.replicate (5 - (lg_sl ([vR mm, vI n, vI k])).length) Slot.unset).toArray = ls at hl0 ⊢
  have hlv : lv_has ls 5 [(0, vR mm), (1, vI n), (2, vI k)] := hl0
  have gg_0 : GoodIn vs_m_runsTo (wsV RX12 291 RX12 yX12_surface vs_m_surface) := goodIn_sub (fun w h => List.mem_cons_of_mem _ (List.mem_append_right _ (List.mem_append_left _ h))) (gd_V gd_m_surface (by decide +kernel))
  have lf29 := hts (.fieldLink RX12 29 "KerbSplashModel" "s" "[I") (List.mem_of_getElem? (i := 1) rfl)
  have hi12 : ∀ w ∈ wsX120, w ∈ vs_m_runsTo := fun w h => List.mem_cons_of_mem _ (List.mem_append_right _ (List.mem_append_right _ (List.mem_append_left _ h)))
  refine lv_aload_n hx hb dX12_runsTo_0 rfl (lv_at hlv 0 rfl) ?_
  refine lv_iload_n hx hb dX12_runsTo_1 rfl (lv_at hlv 1 rfl) ?_
  refine cjr_i [false, false] (fun pre9 => (va_runV (As := [vI n]) (rest := []) ⟨hx, hb, hml, hown, hts⟩ (m_surface l hl D cy sa mm m1 m9 m10 m11 m12 m13 m14 m15 m19 m20 m21 m23 m24 m25 m26 m27 m28 m33 m35 th tp sz_ ap bad bk opn fp im nr nl sp_ wtc wcl ir ip shu sfa swr f12 n pm s.heap.size (by first | exact hr_th | omega) (by first | exact hr_tp | omega) (by first | exact hr_sz_ | omega) (by first | exact hr_ap | omega) (by first | exact hr_bad | omega) (by first | exact hr_bk | omega) (by first | exact hr_opn | omega) (by first | exact hr_fp | omega) (by first | exact hr_im | omega) (by first | exact hr_nr | omega) (by first | exact hr_nl | omega) (by first | exact hr_sp_ | omega) (by first | exact hr_wtc | omega) (by first | exact hr_wcl | omega) (by first | exact hr_ir | omega) (by first | exact hr_ip | omega) (by first | exact hr_shu | omega) (by first | exact hr_sfa | omega) (by first | exact hr_swr | omega) (by first | exact hr_n | omega) (by first | exact hr_pm | omega) (hf12.1)) (cwV 1 hts gg_0 rfl rfl rfl (by decide +kernel) ⟨Nat.le_of_ble_eq_true rfl, Nat.le_of_ble_eq_true rfl⟩) ⟨pcW.blind, (va_recv hG.1 hP (ci := 12) (q0 := 0) rfl rfl), pre9⟩ rfl rfl hlv.1 rfl (lv_room (Nat.le_of_ble_eq_true rfl)) dX12_runsTo_2 ⟨Nat.le_of_ble_eq_true rfl, Nat.le_of_ble_eq_true rfl⟩)) hP hD hS hA hG hT [0, 1] rfl (by decide +kernel) (fun r1 u1 H locs hw1 hq9 hS => ?_)
  obtain ⟨rfl, hq1_1, hq1_2⟩ := hw1
  obtain ⟨hP, hD⟩ := pd9 [zO mm 12 [vI th, vR m1, vI tp, vI sz_, vI ap, vI bad, vI bk, vI opn, vI fp, vR m9, vR m10, vR m11, vR m12, vR m13, vR m14, vR m15, vI im, vI nr, vI nl, vR m19, vR m20, vR m21, vI sp_, vR m23, vR m24, vR m25, vR m26, vR m27, vR m28, vI wtc, vI wcl, vI ir, vI ip, vR m33, vI shu, vR m35, vI sfa, vI swr], zI m12 (cy 0) 389 f12] hq9
  refine lv_aload_n hx hb dX12_runsTo_5 rfl (lv_at hlv 0 rfl) ?_
  refine lv_iload_n hx hb dX12_runsTo_6 rfl (lv_at hlv 2 rfl) ?_
  refine cjr_i [false, false] (fun pre9 => (va_runV (As := [vI k]) (rest := [vI (u1.2.1 0)]) ⟨hx, hb, hml, hown, hts⟩ (m_surface l hl D cy sa mm m1 m9 m10 m11 m12 m13 m14 m15 m19 m20 m21 m23 m24 m25 m26 m27 m28 m33 m35 th tp sz_ ap bad bk opn fp im nr nl sp_ wtc wcl ir ip shu sfa swr f12 k pm H.size (by first | exact hr_th | omega) (by first | exact hr_tp | omega) (by first | exact hr_sz_ | omega) (by first | exact hr_ap | omega) (by first | exact hr_bad | omega) (by first | exact hr_bk | omega) (by first | exact hr_opn | omega) (by first | exact hr_fp | omega) (by first | exact hr_im | omega) (by first | exact hr_nr | omega) (by first | exact hr_nl | omega) (by first | exact hr_sp_ | omega) (by first | exact hr_wtc | omega) (by first | exact hr_wcl | omega) (by first | exact hr_ir | omega) (by first | exact hr_ip | omega) (by first | exact hr_shu | omega) (by first | exact hr_sfa | omega) (by first | exact hr_swr | omega) (by first | exact hr_k | omega) (by first | exact hr_pm | omega) (hf12.1)) (cwV 1 hts gg_0 rfl rfl rfl (by decide +kernel) ⟨Nat.le_of_ble_eq_true rfl, Nat.le_of_ble_eq_true rfl⟩) ⟨pcW.blind, (va_recv hG.1 hP (ci := 12) (q0 := 0) rfl rfl), pre9⟩ rfl rfl hlv.1 rfl (lv_room (Nat.le_of_ble_eq_true rfl)) dX12_runsTo_7 ⟨Nat.le_of_ble_eq_true rfl, Nat.le_of_ble_eq_true rfl⟩)) hP hD hS hA hG hT [0, 1] rfl (by decide +kernel) (fun r2 u2 H locs hw2 hq9 hS => ?_)
  obtain ⟨rfl, hq2_1, hq2_2⟩ := hw2
  obtain ⟨hP, hD⟩ := pd9 [zO mm 12 [vI th, vR m1, vI tp, vI sz_, vI ap, vI bad, vI bk, vI opn, vI fp, vR m9, vR m10, vR m11, vR m12, vR m13, vR m14, vR m15, vI im, vI nr, vI nl, vR m19, vR m20, vR m21, vI sp_, vR m23, vR m24, vR m25, vR m26, vR m27, vR m28, vI wtc, vI wcl, vI ir, vI ip, vR m33, vI shu, vR m35, vI sfa, vI swr], zI m12 (cy 0) 389 f12] hq9
  refine lv_isub hx hb dX12_runsTo_10 ?_
  refine lt_z (fun z_1 ez_1 lz_1 hz_1 => ?_)
  refine lv_istore_n (lv' := [(3, vI z_1), (0, vR mm), (1, vI n), (2, vI k)]) hx hb dX12_runsTo_11 rfl hlv (by decide) rfl (fun ls hlv => ?_)
  refine lv_iload_n hx hb dX12_runsTo_12 rfl (lv_at hlv 0 rfl) ?_
  refine lv_iconst (v := iI 2) hx hb dX12_runsTo_13 (by decide) ?_
  refine ir_ge (tgt := 18) hx hb dX12_runsTo_14 (by decide) (by omega) (by show ((-2147483648) : Int) ≤ 2 ∧ (2 : Int) ≤ 2147483647; decide) (fun c_2 => ?_) (fun c_2 => ?_)
  · refine lv_iload_n hx hb dX12_runsTo_18 rfl (lv_at hlv 0 rfl) ?_
    refine lv_iconst (v := iI 2) hx hb dX12_runsTo_19 (by decide) ?_
    refine lv_idiv hx hb dX12_runsTo_20 (fun q => absurd ((iI_eq (a := 2) (b := 0) (by omega) (by omega)).mp q) (by omega)) ?_
    refine lt_e (e0 := z_1 / 2) (dv_eq (by omega) (by omega)) (fun z_3 hz_3 => ?_)
    refine lv_aload_n hx hb dX12_runsTo_21 rfl (lv_at hlv 1 rfl) ?_
    refine va_get (D := D) (ci := 12) (v := vR m12) (C := RX12) (T := TX12) (N := 38) hx hb hts hi12 hown hG.1 hP 0 rfl rfl 12 (by decide) lf29 (fun _ h9 => h9) rfl dX12_runsTo_22 ?_
    refine lv_bipush (v := iI 96) hx hb dX12_runsTo_25 (by decide) ?_
    refine lv_iload_n hx hb dX12_runsTo_27 rfl (lv_at hlv 2 rfl) ?_
    refine lv_iadd hx hb dX12_runsTo_28 ?_
    refine lt_e (e0 := 96 + n) (Int32.ofInt_add _ _).symm (fun z_4 hz_4 => ?_)
    refine va_iald hx hb hG.1 hP 1 0 rfl rfl (iI_in (by omega) (by decide)) dX12_runsTo_29 ?_
    refine lt_nz (i := z_4) (by omega) (fun z_5 hz_5 lz_5 uz_5 => ?_)
    refine ir_ge (tgt := 39) hx hb dX12_runsTo_30 (by decide) (by omega) (by omega) (fun c_6 => ?_) (fun c_6 => ?_)
    · refine lv_aload_n hx hb dX12_runsTo_39 rfl (lv_at hlv 1 rfl) ?_
      refine va_get (D := D) (ci := 12) (v := vR m12) (C := RX12) (T := TX12) (N := 38) hx hb hts hi12 hown hG.1 hP 0 rfl rfl 12 (by decide) lf29 (fun _ h9 => h9) rfl dX12_runsTo_40 ?_
      refine lv_bipush (v := iI 96) hx hb dX12_runsTo_43 (by decide) ?_
      refine lv_iload_n hx hb dX12_runsTo_45 rfl (lv_at hlv 2 rfl) ?_
      refine lv_iadd hx hb dX12_runsTo_46 ?_
      refine lt_e (e0 := 96 + n) (Int32.ofInt_add _ _).symm (fun z_7 hz_7 => ?_)
      refine va_iald hx hb hG.1 hP 1 0 rfl rfl (iI_in (by omega) (by decide)) dX12_runsTo_47 ?_
      refine lt_nz (i := z_7) (by omega) (fun z_8 hz_8 lz_8 uz_8 => ?_)
      refine lv_istore (lv' := [(4, vI z_8), (3, vI z_1), (0, vR mm), (1, vI n), (2, vI k)]) hx hb dX12_runsTo_48 hlv (by decide) rfl (fun ls hlv => ?_)
      refine lv_aload_n hx hb dX12_runsTo_50 rfl (lv_at hlv 2 rfl) ?_
      refine va_get (D := D) (ci := 12) (v := vR m12) (C := RX12) (T := TX12) (N := 38) hx hb hts hi12 hown hG.1 hP 0 rfl rfl 12 (by decide) lf29 (fun _ h9 => h9) rfl dX12_runsTo_51 ?_
      refine lv_bipush (v := iI 96) hx hb dX12_runsTo_54 (by decide) ?_
      refine lv_iload_n hx hb dX12_runsTo_56 rfl (lv_at hlv 3 rfl) ?_
      refine lv_iadd hx hb dX12_runsTo_57 ?_
      refine lt_e (e0 := 96 + n) (Int32.ofInt_add _ _).symm (fun z_9 hz_9 => ?_)
      refine lv_dup2_11 hx hb dX12_runsTo_58 rfl rfl ?_
      refine va_iald hx hb hG.1 hP 1 0 rfl rfl (iI_in (by omega) (by decide)) dX12_runsTo_59 ?_
      refine lt_nz (i := z_9) (by omega) (fun z_10 hz_10 lz_10 uz_10 => ?_)
      refine lv_iload hx hb dX12_runsTo_60 (lv_at hlv 0 rfl) ?_
      refine lv_isub hx hb dX12_runsTo_62 ?_
      refine lt_z (fun z_11 ez_11 lz_11 hz_11 => ?_)
      refine va_iast hx hb hG.1 hP hD hS 1 0 rfl rfl (iI_in (by omega) (by decide)) dX12_runsTo_63 (fun H locs hP hD hS => ?_)
      obtain ⟨f_12, hdf_12, hP, hD⟩ := pe9e (fun f_12 => [zO mm 12 [vI th, vR m1, vI tp, vI sz_, vI ap, vI bad, vI bk, vI opn, vI fp, vR m9, vR m10, vR m11, vR m12, vR m13, vR m14, vR m15, vI im, vI nr, vI nl, vR m19, vR m20, vR m21, vI sp_, vR m23, vR m24, vR m25, vR m26, vR m27, vR m28, vI wtc, vI wcl, vI ir, vI ip, vR m33, vI shu, vR m35, vI sfa, vI swr], zI m12 (cy 0) 389 f_12]) (upd f12 (iI z_9).toNatClampNeg (iI z_11)) hP hD
      have hif_12 : SQ qs pm f_12 := ⟨SI.wo (hf12.1) hdf_12 (by omega) (by omega) (by omega) (by omega), (SQ.fr hf12.2 hdf_12 (by omega) (by omega))⟩
      have htf_12_388 : nz f_12 388 = nz f12 388 := nz_un hdf_12 (by omega) (by omega)
      have htf_12_206 : nz f_12 206 = nz f12 206 := nz_un hdf_12 (by omega) (by omega)
      have htf_12_215 : nz f_12 215 = nz f12 215 := nz_un hdf_12 (by omega) (by omega)
      refine lv_aload_n hx hb dX12_runsTo_64 rfl (lv_at hlv 2 rfl) ?_
      refine va_get (D := D) (ci := 12) (v := vR m12) (C := RX12) (T := TX12) (N := 38) hx hb hts hi12 hown hG.1 hP 0 rfl rfl 12 (by decide) lf29 (fun _ h9 => h9) rfl dX12_runsTo_65 ?_
      refine lv_bipush (v := iI 96) hx hb dX12_runsTo_68 (by decide) ?_
      refine lv_iload_n hx hb dX12_runsTo_70 rfl (lv_at hlv 4 rfl) ?_
      refine lv_iadd hx hb dX12_runsTo_71 ?_
      refine lt_e (e0 := 96 + k) (Int32.ofInt_add _ _).symm (fun z_13 hz_13 => ?_)
      refine lv_dup2_11 hx hb dX12_runsTo_72 rfl rfl ?_
      refine va_iald hx hb hG.1 hP 1 0 rfl rfl (iI_in (by omega) (by decide)) dX12_runsTo_73 ?_
      refine lt_nz (i := z_13) (by omega) (fun z_14 hz_14 lz_14 uz_14 => ?_)
      refine lv_iload hx hb dX12_runsTo_74 (lv_at hlv 0 rfl) ?_
      refine lv_iadd hx hb dX12_runsTo_76 ?_
      refine lt_z (fun z_15 ez_15 lz_15 hz_15 => ?_)
      refine va_iast hx hb hG.1 hP hD hS 1 0 rfl rfl (iI_in (by omega) (by decide)) dX12_runsTo_77 (fun H locs hP hD hS => ?_)
      obtain ⟨f_16, hdf_16, hP, hD⟩ := pe9e (fun f_16 => [zO mm 12 [vI th, vR m1, vI tp, vI sz_, vI ap, vI bad, vI bk, vI opn, vI fp, vR m9, vR m10, vR m11, vR m12, vR m13, vR m14, vR m15, vI im, vI nr, vI nl, vR m19, vR m20, vR m21, vI sp_, vR m23, vR m24, vR m25, vR m26, vR m27, vR m28, vI wtc, vI wcl, vI ir, vI ip, vR m33, vI shu, vR m35, vI sfa, vI swr], zI m12 (cy 0) 389 f_16]) (upd f_12 (iI z_13).toNatClampNeg (iI z_15)) hP hD
      have hif_16 : SQ qs pm f_16 := ⟨SI.wo (hif_12.1) hdf_16 (by omega) (by omega) (by omega) (by omega), (SQ.fr hif_12.2 hdf_16 (by omega) (by omega))⟩
      have htf_16_388 : nz f_16 388 = nz f_12 388 := nz_un hdf_16 (by omega) (by omega)
      have htf_16_206 : nz f_16 206 = nz f_12 206 := nz_un hdf_16 (by omega) (by omega)
      have htf_16_215 : nz f_16 215 = nz f_12 215 := nz_un hdf_16 (by omega) (by omega)
      refine W.widen (k := 0) (n := 0) (Nat.le_of_ble_eq_true rfl) (Nat.le_of_ble_eq_true rfl) ?_
      exact W.vret hx hb hr (fun t ht hW => ⟨⟨((fun k => ([] : List Nat).getD k 0), (fun k => ([] : List Int).getD k 0), (fun k => ([f_16] : List (Nat → Int32)).getD k (fun _ => 0))), rfl, ⟨(by show (nz (f_16) 388 = nz f12 388); omega), hif_16⟩, at9 ht hP hD [0, 1] (by decide +kernel) rfl⟩, hS.F ht⟩) hS.2.2 dX12_runsTo_78
    · refine lv_iload_n hx hb dX12_runsTo_33 rfl (lv_at hlv 0 rfl) ?_
      refine lv_iconst (v := iI 2) hx hb dX12_runsTo_34 (by decide) ?_
      refine lv_idiv hx hb dX12_runsTo_35 (fun q => absurd ((iI_eq (a := 2) (b := 0) (by omega) (by omega)).mp q) (by omega)) ?_
      refine lt_e (e0 := z_1 / 2) (dv_eq (by omega) (by omega)) (fun z_17 hz_17 => ?_)
      refine lv_goto (tgt := 48) hx hb dX12_runsTo_36 (by decide) ?_
      refine lv_istore (lv' := [(4, vI z_17), (3, vI z_1), (0, vR mm), (1, vI n), (2, vI k)]) hx hb dX12_runsTo_48 hlv (by decide) rfl (fun ls hlv => ?_)
      refine lv_aload_n hx hb dX12_runsTo_50 rfl (lv_at hlv 2 rfl) ?_
      refine va_get (D := D) (ci := 12) (v := vR m12) (C := RX12) (T := TX12) (N := 38) hx hb hts hi12 hown hG.1 hP 0 rfl rfl 12 (by decide) lf29 (fun _ h9 => h9) rfl dX12_runsTo_51 ?_
      refine lv_bipush (v := iI 96) hx hb dX12_runsTo_54 (by decide) ?_
      refine lv_iload_n hx hb dX12_runsTo_56 rfl (lv_at hlv 3 rfl) ?_
      refine lv_iadd hx hb dX12_runsTo_57 ?_
      refine lt_e (e0 := 96 + n) (Int32.ofInt_add _ _).symm (fun z_18 hz_18 => ?_)
      refine lv_dup2_11 hx hb dX12_runsTo_58 rfl rfl ?_
      refine va_iald hx hb hG.1 hP 1 0 rfl rfl (iI_in (by omega) (by decide)) dX12_runsTo_59 ?_
      refine lt_nz (i := z_18) (by omega) (fun z_19 hz_19 lz_19 uz_19 => ?_)
      refine lv_iload hx hb dX12_runsTo_60 (lv_at hlv 0 rfl) ?_
      refine lv_isub hx hb dX12_runsTo_62 ?_
      refine lt_z (fun z_20 ez_20 lz_20 hz_20 => ?_)
      refine va_iast hx hb hG.1 hP hD hS 1 0 rfl rfl (iI_in (by omega) (by decide)) dX12_runsTo_63 (fun H locs hP hD hS => ?_)
      obtain ⟨f_21, hdf_21, hP, hD⟩ := pe9e (fun f_21 => [zO mm 12 [vI th, vR m1, vI tp, vI sz_, vI ap, vI bad, vI bk, vI opn, vI fp, vR m9, vR m10, vR m11, vR m12, vR m13, vR m14, vR m15, vI im, vI nr, vI nl, vR m19, vR m20, vR m21, vI sp_, vR m23, vR m24, vR m25, vR m26, vR m27, vR m28, vI wtc, vI wcl, vI ir, vI ip, vR m33, vI shu, vR m35, vI sfa, vI swr], zI m12 (cy 0) 389 f_21]) (upd f12 (iI z_18).toNatClampNeg (iI z_20)) hP hD
      have hif_21 : SQ qs pm f_21 := ⟨SI.wo (hf12.1) hdf_21 (by omega) (by omega) (by omega) (by omega), (SQ.fr hf12.2 hdf_21 (by omega) (by omega))⟩
      have htf_21_388 : nz f_21 388 = nz f12 388 := nz_un hdf_21 (by omega) (by omega)
      have htf_21_206 : nz f_21 206 = nz f12 206 := nz_un hdf_21 (by omega) (by omega)
      have htf_21_215 : nz f_21 215 = nz f12 215 := nz_un hdf_21 (by omega) (by omega)
      refine lv_aload_n hx hb dX12_runsTo_64 rfl (lv_at hlv 2 rfl) ?_
      refine va_get (D := D) (ci := 12) (v := vR m12) (C := RX12) (T := TX12) (N := 38) hx hb hts hi12 hown hG.1 hP 0 rfl rfl 12 (by decide) lf29 (fun _ h9 => h9) rfl dX12_runsTo_65 ?_
      refine lv_bipush (v := iI 96) hx hb dX12_runsTo_68 (by decide) ?_
      refine lv_iload_n hx hb dX12_runsTo_70 rfl (lv_at hlv 4 rfl) ?_
      refine lv_iadd hx hb dX12_runsTo_71 ?_
      refine lt_e (e0 := 96 + k) (Int32.ofInt_add _ _).symm (fun z_22 hz_22 => ?_)
      refine lv_dup2_11 hx hb dX12_runsTo_72 rfl rfl ?_
      refine va_iald hx hb hG.1 hP 1 0 rfl rfl (iI_in (by omega) (by decide)) dX12_runsTo_73 ?_
      refine lt_nz (i := z_22) (by omega) (fun z_23 hz_23 lz_23 uz_23 => ?_)
      refine lv_iload hx hb dX12_runsTo_74 (lv_at hlv 0 rfl) ?_
      refine lv_iadd hx hb dX12_runsTo_76 ?_
      refine lt_z (fun z_24 ez_24 lz_24 hz_24 => ?_)
      refine va_iast hx hb hG.1 hP hD hS 1 0 rfl rfl (iI_in (by omega) (by decide)) dX12_runsTo_77 (fun H locs hP hD hS => ?_)
      obtain ⟨f_25, hdf_25, hP, hD⟩ := pe9e (fun f_25 => [zO mm 12 [vI th, vR m1, vI tp, vI sz_, vI ap, vI bad, vI bk, vI opn, vI fp, vR m9, vR m10, vR m11, vR m12, vR m13, vR m14, vR m15, vI im, vI nr, vI nl, vR m19, vR m20, vR m21, vI sp_, vR m23, vR m24, vR m25, vR m26, vR m27, vR m28, vI wtc, vI wcl, vI ir, vI ip, vR m33, vI shu, vR m35, vI sfa, vI swr], zI m12 (cy 0) 389 f_25]) (upd f_21 (iI z_22).toNatClampNeg (iI z_24)) hP hD
      have hif_25 : SQ qs pm f_25 := ⟨SI.wo (hif_21.1) hdf_25 (by omega) (by omega) (by omega) (by omega), (SQ.fr hif_21.2 hdf_25 (by omega) (by omega))⟩
      have htf_25_388 : nz f_25 388 = nz f_21 388 := nz_un hdf_25 (by omega) (by omega)
      have htf_25_206 : nz f_25 206 = nz f_21 206 := nz_un hdf_25 (by omega) (by omega)
      have htf_25_215 : nz f_25 215 = nz f_21 215 := nz_un hdf_25 (by omega) (by omega)
      refine W.widen (k := 0) (n := 0) (Nat.le_of_ble_eq_true rfl) (Nat.le_of_ble_eq_true rfl) ?_
      exact W.vret hx hb hr (fun t ht hW => ⟨⟨((fun k => ([] : List Nat).getD k 0), (fun k => ([] : List Int).getD k 0), (fun k => ([f_25] : List (Nat → Int32)).getD k (fun _ => 0))), rfl, ⟨(by show (nz (f_25) 388 = nz f12 388); omega), hif_25⟩, at9 ht hP hD [0, 1] (by decide +kernel) rfl⟩, hS.F ht⟩) hS.2.2 dX12_runsTo_78
  · refine W.widen (k := 0) (n := 0) (Nat.le_of_ble_eq_true rfl) (Nat.le_of_ble_eq_true rfl) ?_
    exact W.vret hx hb hr (fun t ht hW => ⟨⟨((fun k => ([] : List Nat).getD k 0), (fun k => ([] : List Int).getD k 0), (fun k => ([f12] : List (Nat → Int32)).getD k (fun _ => 0))), rfl, ⟨(by show (nz (f12) 388 = nz f12 388); omega), hf12⟩, at9 ht hP hD [0, 1] (by decide +kernel) rfl⟩, hS.F ht⟩) hS.2.2 dX12_runsTo_17
def vs_m_round : List Cond := .code yX12_round cX12_round 7 none :: (([.fieldLink RX12 23 "KerbSplashModel" "b" "[I"] : List Cond) ++ ((wsX120) ++ ((va_wsS RX12 289 yX12_at vs_m_at) ++ ((wsV RX12 306 RX12 yX12_runsTo vs_m_runsTo) ++ ((va_wsS RX12 279 yX12_within vs_m_within) ++ ((wsV RX12 291 RX12 yX12_surface vs_m_surface) ++ ([])))))))
theorem gd_m_round : vs_m_round.all goodWord = true := gd_C (by decide +kernel) (gd_A (by decide +kernel) (gd_A (by decide +kernel) (gd_A (gd_S gd_m_at (by decide +kernel)) (gd_A (gd_V gd_m_runsTo (by decide +kernel)) (gd_A (gd_S gd_m_within (by decide +kernel)) (gd_A (gd_V gd_m_surface (by decide +kernel)) rfl))))))
set_option maxHeartbeats 4000000 in
set_option maxRecDepth 100000 in
theorem m_round (l : Launch) (hl : l.stackTraces = false) (D : va_G) (cy : Nat → ClassId) (sa : Nat → Nat) (mm m1 m9 m10 m11 m12 m13 m14 m15 m19 m20 m21 m23 m24 m25 m26 m27 m28 m33 m35 : Nat) (th tp sz_ ap bad bk opn fp im nr nl sp_ wtc wcl ir ip shu sfa swr : Int) (f10 f12 : Nat → Int32) (qs : Nat → Int) (pm : Int) (sz : Nat) (hr_th : (-2147483648) ≤ th ∧ th ≤ 2147483647) (hr_tp : 0 ≤ tp ∧ tp ≤ 600) (hr_sz_ : 0 ≤ sz_ ∧ sz_ ≤ 600) (hr_ap : 0 ≤ ap ∧ ap ≤ 602) (hr_bad : (-1) ≤ bad ∧ bad ≤ 602) (hr_bk : 0 ≤ bk ∧ bk ≤ 4) (hr_opn : 0 ≤ opn ∧ opn ≤ 7) (hr_fp : (-2147483648) ≤ fp ∧ fp ≤ 2147483647) (hr_im : 0 ≤ im ∧ im ≤ 3) (hr_nr : 0 ≤ nr ∧ nr ≤ 4) (hr_nl : 0 ≤ nl ∧ nl ≤ 4) (hr_sp_ : 0 ≤ sp_ ∧ sp_ ≤ 602) (hr_wtc : (-2147483648) ≤ wtc ∧ wtc ≤ 2147483647) (hr_wcl : 0 ≤ wcl ∧ wcl ≤ 95) (hr_ir : 0 ≤ ir ∧ ir ≤ 5) (hr_ip : (-2147483648) ≤ ip ∧ ip ≤ 2147483647) (hr_shu : (-2147483648) ≤ shu ∧ shu ≤ 2147483647) (hr_sfa : (-2147483648) ≤ sfa ∧ sfa ≤ 2147483647) (hr_swr : (-2147483648) ≤ swr ∧ swr ≤ 2147483647) (hr_pm : 8 ≤ pm ∧ pm ≤ 9) (hf10 : BI f10) (hf12 : SQ qs pm f12) : mV9 l yX12_round vs_m_round ({ frames := 2, cells := 0, slots := 0, locals := 45 }) D cy sa sz [vR mm] [zO mm 12 [vI th, vR m1, vI tp, vI sz_, vI ap, vI bad, vI bk, vI opn, vI fp, vR m9, vR m10, vR m11, vR m12, vR m13, vR m14, vR m15, vI im, vI nr, vI nl, vR m19, vR m20, vR m21, vI sp_, vR m23, vR m24, vR m25, vR m26, vR m27, vR m28, vI wtc, vI wcl, vI ir, vI ip, vR m33, vI shu, vR m35, vI sfa, vI swr], zI m10 (cy 0) 68 f10, zI m12 (cy 0) 389 f12] (fun u : SV => (nz (u.2.2 0) 388 = nz f12 388) ∧ BI f10 ∧ SQ qs pm (u.2.2 0)) (fun u : SV => [zO mm 12 [vI th, vR m1, vI tp, vI sz_, vI ap, vI bad, vI bk, vI opn, vI fp, vR m9, vR m10, vR m11, vR m12, vR m13, vR m14, vR m15, vI im, vI nr, vI nl, vR m19, vR m20, vR m21, vI sp_, vR m23, vR m24, vR m25, vR m26, vR m27, vR m28, vI wtc, vI wcl, vI ir, vI ip, vR m33, vI shu, vR m35, vI sfa, vI swr], zI m10 (cy 0) 68 f10, zI m12 (cy 0) 389 (u.2.2 0)]) 0 0 := by
  refine Met.ofW (cc := cX12_round) (maxL := 7) (ret := none) (by decide) rfl ?_
  intro p e s m args below meth c s₁ B hml hv
  obtain ⟨rfl, hsz, hP, hG, hD0, hT⟩ := hv
  have hx := B.exec
  have hb := B.bytes
  have hr := B.returns
  have hts := atoms_spec (ws := vs_m_round) B.pre
  have hown : s.vm.findClass RX12 = some m.cls := findClass_of_methodNamed B.named
  have hlocks := B.notSynchronized
  subst hsz
  have hD := hD0.self (sz := s.heap.size)
  generalize hAe : va_A [zO mm 12 [vI th, vR m1, vI tp, vI sz_, vI ap, vI bad, vI bk, vI opn, vI fp, vR m9, vR m10, vR m11, vR m12, vR m13, vR m14, vR m15, vI im, vI nr, vI nl, vR m19, vR m20, vR m21, vI sp_, vR m23, vR m24, vR m25, vR m26, vR m27, vR m28, vI wtc, vI wcl, vI ir, vI ip, vR m33, vI shu, vR m35, vI sfa, vI swr], zI m10 (cy 0) 68 f10, zI m12 (cy 0) 389 f12] s.heap.size = A at hD hT ⊢
  have hA : ∀ q : Nat, s.heap.size ≤ q → A q := fun q h => by rw [← hAe]; exact Or.inr h
  have hS : va_S A s.heap s.heap [] := va_S.rf
  have hl0 := lv_entry ([vR mm]) (n := 7) (Nat.le_of_ble_eq_true rfl)
  rw [lg_entry_eq]
  generalize (lg_sl ([vR mm]) ++ List.replicate (7 - (lg_sl ([vR mm])).length) Slot.unset).toArray = ls at hl0 ⊢
  have hlv : lv_has ls 7 [(0, vR mm)] := hl0
  have lf23 := hts (.fieldLink RX12 23 "KerbSplashModel" "b" "[I") (List.mem_of_getElem? (i := 1) rfl)
  have hi12 : ∀ w ∈ wsX120, w ∈ vs_m_round := fun w h => List.mem_cons_of_mem _ (List.mem_append_right _ (List.mem_append_left _ h))
  have gg_1 : GoodIn vs_m_round (va_wsS RX12 289 yX12_at vs_m_at) := goodIn_sub (fun w h => List.mem_cons_of_mem _ (List.mem_append_right _ (List.mem_append_right _ (List.mem_append_left _ h)))) (gd_S gd_m_at (by decide +kernel))
  have gg_2 : GoodIn vs_m_round (wsV RX12 306 RX12 yX12_runsTo vs_m_runsTo) := goodIn_sub (fun w h => List.mem_cons_of_mem _ (List.mem_append_right _ (List.mem_append_right _ (List.mem_append_right _ (List.mem_append_left _ h))))) (gd_V gd_m_runsTo (by decide +kernel))
  have gg_3 : GoodIn vs_m_round (va_wsS RX12 279 yX12_within vs_m_within) := goodIn_sub (fun w h => List.mem_cons_of_mem _ (List.mem_append_right _ (List.mem_append_right _ (List.mem_append_right _ (List.mem_append_right _ (List.mem_append_left _ h)))))) (gd_S gd_m_within (by decide +kernel))
  have gg_4 : GoodIn vs_m_round (wsV RX12 291 RX12 yX12_surface vs_m_surface) := goodIn_sub (fun w h => List.mem_cons_of_mem _ (List.mem_append_right _ (List.mem_append_right _ (List.mem_append_right _ (List.mem_append_right _ (List.mem_append_right _ (List.mem_append_left _ h))))))) (gd_V gd_m_surface (by decide +kernel))
  refine lv_iconst (v := iI 0) hx hb dX12_round_0 (by decide) ?_
  refine lv_istore_n (lv' := [(1, vI 0), (0, vR mm)]) hx hb dX12_round_1 rfl hlv (by decide) rfl (fun ls hlv => ?_)
  refine (?_ : ∀ (fu : Nat) (q1 : Int) (wg : Nat → Int32) (H : Heap) (locs : List Loc) (ls : Array Slot), 6 - q1 < (fu : Int) → (0 ≤ q1 ∧ q1 ≤ 6) → (nz wg 388 = nz f12 388) → SQ qs pm wg → va_P D vwCl [zO mm 12 [vI th, vR m1, vI tp, vI sz_, vI ap, vI bad, vI bk, vI opn, vI fp, vR m9, vR m10, vR m11, vR m12, vR m13, vR m14, vR m15, vI im, vI nr, vI nl, vR m19, vR m20, vR m21, vI sp_, vR m23, vR m24, vR m25, vR m26, vR m27, vR m28, vI wtc, vI wcl, vI ir, vI ip, vR m33, vI shu, vR m35, vI sfa, vI swr], zI m10 (cy 0) 68 f10, zI m12 (cy 0) 389 wg] H → va_D A [zO mm 12 [vI th, vR m1, vI tp, vI sz_, vI ap, vI bad, vI bk, vI opn, vI fp, vR m9, vR m10, vR m11, vR m12, vR m13, vR m14, vR m15, vI im, vI nr, vI nl, vR m19, vR m20, vR m21, vI sp_, vR m23, vR m24, vR m25, vR m26, vR m27, vR m28, vI wtc, vI wcl, vI ir, vI ip, vR m33, vI shu, vR m35, vI sfa, vI swr], zI m10 (cy 0) 68 f10, zI m12 (cy 0) 389 wg] → va_S A s.heap H locs → lv_has ls 7 [(1, vI q1), (0, vR mm)] → W p l e _ s m _ below meth c H locs _ _ _ (F0 m 2 ls [])) (((6 - 0) + 1 : Int)).toNat 0 f12 _ _ _ (by omega) (by show (0 : Int) ≤ 0 ∧ (0 : Int) ≤ 6; decide) (by omega) hf12 hP hD hS hlv
  clear hP hD hS hlv
  intro fu
  induction fu with
  | zero => intro q1 wg H locs ls hm2 hl2_0 hl2_1 hiwg hP hD hS hlv; omega
  | succ fu ih2 =>
    intro q1 wg H locs ls hm2 hl2_0 hl2_1 hiwg hP hD hS hlv
    refine lv_iload_n hx hb dX12_round_2 rfl (lv_at hlv 0 rfl) ?_
    refine lv_aload_n hx hb dX12_round_3 rfl (lv_at hlv 1 rfl) ?_
    refine va_get (D := D) (ci := 12) (v := vR m10) (C := RX12) (T := TX12) (N := 38) hx hb hts hi12 hown hG.1 hP 0 rfl rfl 10 (by decide) lf23 (fun _ h9 => h9) rfl dX12_round_4 ?_
    refine lv_iconst (v := iI 1) hx hb dX12_round_7 (by decide) ?_
    refine va_iald hx hb hG.1 hP 1 0 rfl rfl (iI_in (by omega) (by decide)) dX12_round_8 ?_
    refine lt_nz (i := 1) (by omega) (fun z_1 hz_1 lz_1 uz_1 => ?_)
    have hz_1 : z_1 = nz f10 1 := hz_1
    have hbz_1_7 := hf10.1.2.1
    have hbz_1_8 := hf10.2.1
    have hbz_1_9 := hf10.2.2
    refine ir_ge (tgt := 185) hx hb dX12_round_9 (by decide) (by first | exact rgw hl2_0 (by decide) (by decide) | omega) (by omega) (fun c_2 => ?_) (fun c_2 => ?_)
    · refine W.widen (k := 0) (n := 0) (Nat.le_of_ble_eq_true rfl) (Nat.le_of_ble_eq_true rfl) ?_
      exact W.vret hx hb hr (fun t ht hW => ⟨⟨((fun k => ([] : List Nat).getD k 0), (fun k => ([] : List Int).getD k 0), (fun k => ([wg] : List (Nat → Int32)).getD k (fun _ => 0))), rfl, ⟨(by show (nz (wg) 388 = nz f12 388); omega), hf10, hiwg⟩, at9 ht hP hD [0, 1, 2] (by decide +kernel) rfl⟩, hS.F ht⟩) hS.2.2 dX12_round_185
    · refine lv_iconst (v := iI 0) hx hb dX12_round_12 (by decide) ?_
      refine lv_istore_n (lv' := [(2, vI 0), (1, vI q1), (0, vR mm)]) hx hb dX12_round_13 rfl hlv (by decide) rfl (fun ls hlv => ?_)
      refine (?_ : ∀ (fu : Nat) (q2 : Int) (wh : Nat → Int32) (H : Heap) (locs : List Loc) (ls : Array Slot), 16 - q2 < (fu : Int) → (0 ≤ q2 ∧ q2 ≤ 16) → (nz wh 388 = nz f12 388) → SQ qs pm wh → va_P D vwCl [zO mm 12 [vI th, vR m1, vI tp, vI sz_, vI ap, vI bad, vI bk, vI opn, vI fp, vR m9, vR m10, vR m11, vR m12, vR m13, vR m14, vR m15, vI im, vI nr, vI nl, vR m19, vR m20, vR m21, vI sp_, vR m23, vR m24, vR m25, vR m26, vR m27, vR m28, vI wtc, vI wcl, vI ir, vI ip, vR m33, vI shu, vR m35, vI sfa, vI swr], zI m10 (cy 0) 68 f10, zI m12 (cy 0) 389 wh] H → va_D A [zO mm 12 [vI th, vR m1, vI tp, vI sz_, vI ap, vI bad, vI bk, vI opn, vI fp, vR m9, vR m10, vR m11, vR m12, vR m13, vR m14, vR m15, vI im, vI nr, vI nl, vR m19, vR m20, vR m21, vI sp_, vR m23, vR m24, vR m25, vR m26, vR m27, vR m28, vI wtc, vI wcl, vI ir, vI ip, vR m33, vI shu, vR m35, vI sfa, vI swr], zI m10 (cy 0) 68 f10, zI m12 (cy 0) 389 wh] → va_S A s.heap H locs → lv_has ls 7 [(2, vI q2), (1, vI q1), (0, vR mm)] → W p l e _ s m _ below meth c H locs _ _ _ (F0 m 14 ls [])) (((16 - 0) + 1 : Int)).toNat 0 wg _ _ _ (by omega) (by show (0 : Int) ≤ 0 ∧ (0 : Int) ≤ 16; decide) (by omega) hiwg hP hD hS hlv
      clear hP hD hS hlv
      intro fu
      induction fu with
      | zero => intro q2 wh H locs ls hm14 hl14_0 hl14_1 hiwh hP hD hS hlv; omega
      | succ fu ih14 =>
        intro q2 wh H locs ls hm14 hl14_0 hl14_1 hiwh hP hD hS hlv
        refine lv_iload_n hx hb dX12_round_14 rfl (lv_at hlv 0 rfl) ?_
        refine lv_aload_n hx hb dX12_round_15 rfl (lv_at hlv 2 rfl) ?_
        refine va_get (D := D) (ci := 12) (v := vR m10) (C := RX12) (T := TX12) (N := 38) hx hb hts hi12 hown hG.1 hP 0 rfl rfl 10 (by decide) lf23 (fun _ h9 => h9) rfl dX12_round_16 ?_
        refine lv_iconst (v := iI 0) hx hb dX12_round_19 (by decide) ?_
        refine va_iald hx hb hG.1 hP 1 0 rfl rfl (iI_in (by omega) (by decide)) dX12_round_20 ?_
        refine lt_nz (i := 0) (by omega) (fun z_3 hz_3 lz_3 uz_3 => ?_)
        have hz_3 : z_3 = nz f10 0 := hz_3
        have hbz_3_7 := hf10.1.1
        have hbz_3_8 := hf10.2.1
        have hbz_3_9 := hf10.2.2
        refine ir_ge (tgt := 179) hx hb dX12_round_21 (by decide) (by first | exact rgw hl14_0 (by decide) (by decide) | omega) (by omega) (fun c_4 => ?_) (fun c_4 => ?_)
        · obtain ⟨z_5, hz_5⟩ : ∃ z : Int, z = q1 + 1 := ⟨_, rfl⟩
          refine lv_iinc (v := iI z_5) (lv' := [(1, vI z_5), (2, vI q2), (0, vR mm)]) hx hb dX12_round_179 hlv (k := 1) rfl (by rw [hz_5]; exact (Int32.ofInt_add _ _).symm) (by decide) rfl (fun ls hlv => ?_)
          refine lv_goto (tgt := 2) hx hb dX12_round_182 (by decide) ?_
          exact ih2 z_5 wh H locs ls (by omega) (by omega) (by omega) hiwh (hP.sub [0, 1, 2] rfl) (hD.sub [0, 1, 2] (by decide) rfl) hS (lv_sub hlv [0, 2] rfl)
        · refine lv_iconst (v := iI (-1)) hx hb dX12_round_24 (by decide) ?_
          refine lv_istore_n (lv' := [(3, vI (-1)), (2, vI q2), (1, vI q1), (0, vR mm)]) hx hb dX12_round_25 rfl hlv (by decide) rfl (fun ls hlv => ?_)
          refine lv_iconst (v := iI 0) hx hb dX12_round_26 (by decide) ?_
          refine lv_istore (lv' := [(4, vI 0), (3, vI (-1)), (2, vI q2), (1, vI q1), (0, vR mm)]) hx hb dX12_round_27 hlv (by decide) rfl (fun ls hlv => ?_)
          refine (?_ : ∀ (fu : Nat) (q3 : Int) (q4 : Int) (H : Heap) (locs : List Loc) (ls : Array Slot), 4 - q4 < (fu : Int) → ((-1) ≤ q3 ∧ q3 ≤ 95) → (0 ≤ q4 ∧ q4 ≤ 4) → (1 ≤ q4 → 1 ≤ q2 → 0 ≤ q3) → (2 ≤ q4 → 0 ≤ q3) → va_P D vwCl [zO mm 12 [vI th, vR m1, vI tp, vI sz_, vI ap, vI bad, vI bk, vI opn, vI fp, vR m9, vR m10, vR m11, vR m12, vR m13, vR m14, vR m15, vI im, vI nr, vI nl, vR m19, vR m20, vR m21, vI sp_, vR m23, vR m24, vR m25, vR m26, vR m27, vR m28, vI wtc, vI wcl, vI ir, vI ip, vR m33, vI shu, vR m35, vI sfa, vI swr], zI m10 (cy 0) 68 f10, zI m12 (cy 0) 389 wh] H → va_D A [zO mm 12 [vI th, vR m1, vI tp, vI sz_, vI ap, vI bad, vI bk, vI opn, vI fp, vR m9, vR m10, vR m11, vR m12, vR m13, vR m14, vR m15, vI im, vI nr, vI nl, vR m19, vR m20, vR m21, vI sp_, vR m23, vR m24, vR m25, vR m26, vR m27, vR m28, vI wtc, vI wcl, vI ir, vI ip, vR m33, vI shu, vR m35, vI sfa, vI swr], zI m10 (cy 0) 68 f10, zI m12 (cy 0) 389 wh] → va_S A s.heap H locs → lv_has ls 7 [(4, vI q4), (3, vI q3), (2, vI q2), (1, vI q1), (0, vR mm)] → W p l e _ s m _ below meth c H locs _ _ _ (F0 m 29 ls [])) (((4 - 0) + 1 : Int)).toNat (-1) 0 _ _ _ (by omega) (by show ((-1) : Int) ≤ (-1) ∧ ((-1) : Int) ≤ 95; decide) (by show (0 : Int) ≤ 0 ∧ (0 : Int) ≤ 4; decide) (by omega) (by omega)  hP hD hS hlv
          clear hP hD hS hlv
          intro fu
          induction fu with
          | zero => intro q3 q4 H locs ls hm29 hl29_0 hl29_1 hl29_2 hl29_3  hP hD hS hlv; omega
          | succ fu ih29 =>
            intro q3 q4 H locs ls hm29 hl29_0 hl29_1 hl29_2 hl29_3  hP hD hS hlv
            refine lv_iload hx hb dX12_round_29 (lv_at hlv 0 rfl) ?_
            refine lv_iconst (v := iI 4) hx hb dX12_round_31 (by decide) ?_
            refine ir_ge (tgt := 163) hx hb dX12_round_32 (by decide) (by first | exact rgw hl29_1 (by decide) (by decide) | omega) (by show ((-2147483648) : Int) ≤ 4 ∧ (4 : Int) ≤ 2147483647; decide) (fun c_6 => ?_) (fun c_6 => ?_)
            · refine lv_aload_n hx hb dX12_round_163 rfl (lv_at hlv 4 rfl) ?_
              refine lv_iload_n hx hb dX12_round_164 rfl (lv_at hlv 2 rfl) ?_
              refine lv_iload_n hx hb dX12_round_165 rfl (lv_at hlv 3 rfl) ?_
              refine cjr_i [true, true, true] (fun pre9 => (va_runS (As := [vI q2, vI q1]) (rest := [vR mm]) ⟨hx, hb, hml, hown, hts⟩ (m_at l hl D cy sa q2 q1 H.size (by omega) (by omega)) (va_cwS 2 hts gg_1 rfl rfl rfl (by decide +kernel) ⟨Nat.le_of_ble_eq_true rfl, Nat.le_of_ble_eq_true rfl⟩) ⟨pcW.blind, pre9⟩ rfl rfl hlv.1 rfl (lv_room (Nat.le_of_ble_eq_true rfl)) dX12_round_166 ⟨Nat.le_of_ble_eq_true rfl, Nat.le_of_ble_eq_true rfl⟩)) hP hD hS hA hG hT [] rfl (by decide +kernel) (fun r1 u1 H locs hw1 hq9 hS => ?_)
              obtain ⟨rfl, hq1_1, hq1_2⟩ := hw1
              obtain ⟨hP, hD⟩ := pd9 [zO mm 12 [vI th, vR m1, vI tp, vI sz_, vI ap, vI bad, vI bk, vI opn, vI fp, vR m9, vR m10, vR m11, vR m12, vR m13, vR m14, vR m15, vI im, vI nr, vI nl, vR m19, vR m20, vR m21, vI sp_, vR m23, vR m24, vR m25, vR m26, vR m27, vR m28, vI wtc, vI wcl, vI ir, vI ip, vR m33, vI shu, vR m35, vI sfa, vI swr], zI m10 (cy 0) 68 f10, zI m12 (cy 0) 389 wh] hq9
              refine lv_iload_n hx hb dX12_round_169 rfl (lv_at hlv 1 rfl) ?_
              refine cjr_v [false, true, false] (fun pre9 => (va_runV (As := [vI (u1.2.1 0), vI q3]) (rest := []) ⟨hx, hb, hml, hown, hts⟩ (m_runsTo l hl D cy sa mm m1 m9 m10 m11 m12 m13 m14 m15 m19 m20 m21 m23 m24 m25 m26 m27 m28 m33 m35 th tp sz_ ap bad bk opn fp im nr nl sp_ wtc wcl ir ip shu sfa swr wh (u1.2.1 0) q3 qs pm H.size (by first | exact hr_th | omega) (by first | exact hr_tp | omega) (by first | exact hr_sz_ | omega) (by first | exact hr_ap | omega) (by first | exact hr_bad | omega) (by first | exact hr_bk | omega) (by first | exact hr_opn | omega) (by first | exact hr_fp | omega) (by first | exact hr_im | omega) (by first | exact hr_nr | omega) (by first | exact hr_nl | omega) (by first | exact hr_sp_ | omega) (by first | exact hr_wtc | omega) (by first | exact hr_wcl | omega) (by first | exact hr_ir | omega) (by first | exact hr_ip | omega) (by first | exact hr_shu | omega) (by first | exact hr_sfa | omega) (by first | exact hr_swr | omega) (by first | exact hq1_1 | omega) (by omega) (by first | exact hr_pm | omega) hiwh) (cwV 2 hts gg_2 rfl rfl rfl (by decide +kernel) ⟨Nat.le_of_ble_eq_true rfl, Nat.le_of_ble_eq_true rfl⟩) ⟨pcW.blind, (va_recv hG.1 hP (ci := 12) (q0 := 0) rfl rfl), pre9⟩ rfl rfl hlv.1 rfl (lv_room (Nat.le_of_ble_eq_true rfl)) dX12_round_170 ⟨Nat.le_of_ble_eq_true rfl, Nat.le_of_ble_eq_true rfl⟩)) hP hD hS hA hG hT [0, 2] rfl (by decide +kernel) (fun u2 H locs hw2 hq9 hS => ?_)
              obtain ⟨hq2_0, hq2_1⟩ := hw2
              obtain ⟨hP, hD⟩ := pd9 [zI m10 (cy 0) 68 f10, zO mm 12 [vI th, vR m1, vI tp, vI sz_, vI ap, vI bad, vI bk, vI opn, vI fp, vR m9, vR m10, vR m11, vR m12, vR m13, vR m14, vR m15, vI im, vI nr, vI nl, vR m19, vR m20, vR m21, vI sp_, vR m23, vR m24, vR m25, vR m26, vR m27, vR m28, vI wtc, vI wcl, vI ir, vI ip, vR m33, vI shu, vR m35, vI sfa, vI swr], zI m12 (cy 0) 389 (u2.2.2 0)] hq9
              obtain ⟨z_7, hz_7⟩ : ∃ z : Int, z = q2 + 1 := ⟨_, rfl⟩
              refine lv_iinc (v := iI z_7) (lv' := [(2, vI z_7), (4, vI q4), (3, vI q3), (1, vI q1), (0, vR mm)]) hx hb dX12_round_173 hlv (k := 2) rfl (by rw [hz_7]; exact (Int32.ofInt_add _ _).symm) (by decide) rfl (fun ls hlv => ?_)
              refine lv_goto (tgt := 14) hx hb dX12_round_176 (by decide) ?_
              exact ih14 z_7 (u2.2.2 0) H locs ls (by omega) (by omega) (by omega) hq2_1 (hP.sub [1, 0, 2] rfl) (hD.sub [1, 0, 2] (by decide) rfl) hS (lv_sub hlv [0, 3, 4] rfl)
            · refine lv_iload hx hb dX12_round_35 (lv_at hlv 0 rfl) ?_
              refine iz_ne (tgt := 46) hx hb dX12_round_37 (by decide) (by first | exact rgw hl29_1 (by decide) (by decide) | omega) (fun c_8 => ?_) (fun c_8 => ?_)
              · refine lv_iload hx hb dX12_round_46 (lv_at hlv 0 rfl) ?_
                refine lv_iconst (v := iI 1) hx hb dX12_round_48 (by decide) ?_
                refine ir_ne (tgt := 58) hx hb dX12_round_49 (by decide) (by first | exact rgw hl29_1 (by decide) (by decide) | omega) (by show ((-2147483648) : Int) ≤ 1 ∧ (1 : Int) ≤ 2147483647; decide) (fun c_9 => ?_) (fun c_9 => ?_)
                · refine lv_iload_n hx hb dX12_round_58 rfl (lv_at hlv 2 rfl) ?_
                  refine lv_istore (lv' := [(5, vI q2), (4, vI q4), (3, vI q3), (2, vI q2), (1, vI q1), (0, vR mm)]) hx hb dX12_round_59 hlv (by decide) rfl (fun ls hlv => ?_)
                  refine lv_iload hx hb dX12_round_61 (lv_at hlv 1 rfl) ?_
                  refine lv_iconst (v := iI 2) hx hb dX12_round_63 (by decide) ?_
                  refine ir_ne (tgt := 73) hx hb dX12_round_64 (by decide) (by first | exact rgw hl29_1 (by decide) (by decide) | omega) (by show ((-2147483648) : Int) ≤ 2 ∧ (2 : Int) ≤ 2147483647; decide) (fun c_10 => ?_) (fun c_10 => ?_)
                  · refine lv_iload hx hb dX12_round_73 (lv_at hlv 1 rfl) ?_
                    refine lv_iconst (v := iI 3) hx hb dX12_round_75 (by decide) ?_
                    refine ir_ne (tgt := 85) hx hb dX12_round_76 (by decide) (by first | exact rgw hl29_1 (by decide) (by decide) | omega) (by show ((-2147483648) : Int) ≤ 3 ∧ (3 : Int) ≤ 2147483647; decide) (fun c_11 => by exfalso; omega) (fun c_11 => ?_)
                    refine lv_iload_n hx hb dX12_round_79 rfl (lv_at hlv 4 rfl) ?_
                    refine lv_iconst (v := iI 1) hx hb dX12_round_80 (by decide) ?_
                    refine lv_iadd hx hb dX12_round_81 ?_
                    refine lt_e (e0 := q1 + 1) (Int32.ofInt_add _ _).symm (fun z_12 hz_12 => ?_)
                    refine lv_goto (tgt := 86) hx hb dX12_round_82 (by decide) ?_
                    refine lv_istore (lv' := [(6, vI z_12), (5, vI q2), (4, vI q4), (3, vI q3), (2, vI q2), (1, vI q1), (0, vR mm)]) hx hb dX12_round_86 hlv (by decide) rfl (fun ls hlv => ?_)
                    refine lv_iload hx hb dX12_round_88 (lv_at hlv 1 rfl) ?_
                    refine lv_iconst (v := iI 0) hx hb dX12_round_90 (by decide) ?_
                    refine lv_aload_n hx hb dX12_round_91 rfl (lv_at hlv 6 rfl) ?_
                    refine va_get (D := D) (ci := 12) (v := vR m10) (C := RX12) (T := TX12) (N := 38) hx hb hts hi12 hown hG.1 hP 0 rfl rfl 10 (by decide) lf23 (fun _ h9 => h9) rfl dX12_round_92 ?_
                    refine lv_iconst (v := iI 0) hx hb dX12_round_95 (by decide) ?_
                    refine va_iald hx hb hG.1 hP 1 0 rfl rfl (iI_in (by omega) (by decide)) dX12_round_96 ?_
                    refine lt_nz (i := 0) (by omega) (fun z_13 hz_13 lz_13 uz_13 => ?_)
                    have hz_13 : z_13 = nz f10 0 := hz_13
                    have hbz_13_17 := hf10.1.1
                    have hbz_13_18 := hf10.2.1
                    have hbz_13_19 := hf10.2.2
                    refine lv_iconst (v := iI 1) hx hb dX12_round_97 (by decide) ?_
                    refine lv_isub hx hb dX12_round_98 ?_
                    refine lt_e (e0 := z_13 - 1) (Int32.ofInt_sub _ _).symm (fun z_14 hz_14 => ?_)
                    refine cjr_i [true, true, true] (fun pre9 => (va_runS (As := [vI q2, vI 0, vI z_14]) (rest := []) ⟨hx, hb, hml, hown, hts⟩ (m_within l hl D cy sa q2 0 z_14 H.size (by first | exact rgw hl14_0 (by decide) (by decide) | omega) (by show ((-2147483648) : Int) ≤ 0 ∧ (0 : Int) ≤ 2147483647; decide) (by omega)) (va_cwS 3 hts gg_3 rfl rfl rfl (by decide +kernel) ⟨Nat.le_of_ble_eq_true rfl, Nat.le_of_ble_eq_true rfl⟩) ⟨pcW.blind, pre9⟩ rfl rfl hlv.1 rfl (lv_room (Nat.le_of_ble_eq_true rfl)) dX12_round_99 ⟨Nat.le_of_ble_eq_true rfl, Nat.le_of_ble_eq_true rfl⟩)) hP hD hS hA hG hT [] rfl (by decide +kernel) (fun r3 u3 H locs hw3 hq9 hS => ?_)
                    obtain ⟨rfl, hq3_1, hq3_2, hq3_3⟩ := hw3
                    obtain ⟨hP, hD⟩ := pd9 [zO mm 12 [vI th, vR m1, vI tp, vI sz_, vI ap, vI bad, vI bk, vI opn, vI fp, vR m9, vR m10, vR m11, vR m12, vR m13, vR m14, vR m15, vI im, vI nr, vI nl, vR m19, vR m20, vR m21, vI sp_, vR m23, vR m24, vR m25, vR m26, vR m27, vR m28, vI wtc, vI wcl, vI ir, vI ip, vR m33, vI shu, vR m35, vI sfa, vI swr], zI m10 (cy 0) 68 f10, zI m12 (cy 0) 389 wh] hq9
                    refine iz_eq (tgt := 157) hx hb dX12_round_102 (by decide) (by first | exact rgw hq3_1 (by decide) (by decide) | omega) (fun c_15 => ?_) (fun c_15 => ?_)
                    · obtain ⟨z_16, hz_16⟩ : ∃ z : Int, z = q4 + 1 := ⟨_, rfl⟩
                      refine lv_iinc (v := iI z_16) (lv' := [(4, vI z_16), (6, vI z_12), (5, vI q2), (3, vI q3), (2, vI q2), (1, vI q1), (0, vR mm)]) hx hb dX12_round_157 hlv (k := 2) rfl (by rw [hz_16]; exact (Int32.ofInt_add _ _).symm) (by decide) rfl (fun ls hlv => ?_)
                      refine lv_goto (tgt := 29) hx hb dX12_round_160 (by decide) ?_
                      exact ih29 q3 z_16 H locs ls (by omega) (by first | exact hl29_0 | omega) (by omega) (by omega) (by omega)  (hP.sub [0, 1, 2] rfl) (hD.sub [0, 1, 2] (by decide) rfl) hS (lv_sub hlv [0, 3, 4, 5, 6] rfl)
                    · refine lv_iload hx hb dX12_round_105 (lv_at hlv 0 rfl) ?_
                      refine lv_iconst (v := iI 0) hx hb dX12_round_107 (by decide) ?_
                      refine lv_aload_n hx hb dX12_round_108 rfl (lv_at hlv 6 rfl) ?_
                      refine va_get (D := D) (ci := 12) (v := vR m10) (C := RX12) (T := TX12) (N := 38) hx hb hts hi12 hown hG.1 hP 0 rfl rfl 10 (by decide) lf23 (fun _ h9 => h9) rfl dX12_round_109 ?_
                      refine lv_iconst (v := iI 1) hx hb dX12_round_112 (by decide) ?_
                      refine va_iald hx hb hG.1 hP 1 0 rfl rfl (iI_in (by omega) (by decide)) dX12_round_113 ?_
                      refine lt_nz (i := 1) (by omega) (fun z_17 hz_17 lz_17 uz_17 => ?_)
                      have hz_17 : z_17 = nz f10 1 := hz_17
                      have hbz_17_8 := hf10.1.2.1
                      have hbz_17_9 := hf10.2.1
                      have hbz_17_10 := hf10.2.2
                      refine lv_iconst (v := iI 1) hx hb dX12_round_114 (by decide) ?_
                      refine lv_isub hx hb dX12_round_115 ?_
                      refine lt_e (e0 := z_17 - 1) (Int32.ofInt_sub _ _).symm (fun z_18 hz_18 => ?_)
                      refine cjr_i [true, true, true] (fun pre9 => (va_runS (As := [vI z_12, vI 0, vI z_18]) (rest := []) ⟨hx, hb, hml, hown, hts⟩ (m_within l hl D cy sa z_12 0 z_18 H.size (by omega) (by show ((-2147483648) : Int) ≤ 0 ∧ (0 : Int) ≤ 2147483647; decide) (by omega)) (va_cwS 3 hts gg_3 rfl rfl rfl (by decide +kernel) ⟨Nat.le_of_ble_eq_true rfl, Nat.le_of_ble_eq_true rfl⟩) ⟨pcW.blind, pre9⟩ rfl rfl hlv.1 rfl (lv_room (Nat.le_of_ble_eq_true rfl)) dX12_round_116 ⟨Nat.le_of_ble_eq_true rfl, Nat.le_of_ble_eq_true rfl⟩)) hP hD hS hA hG hT [] rfl (by decide +kernel) (fun r4 u4 H locs hw4 hq9 hS => ?_)
                      obtain ⟨rfl, hq4_1, hq4_2, hq4_3⟩ := hw4
                      obtain ⟨hP, hD⟩ := pd9 [zO mm 12 [vI th, vR m1, vI tp, vI sz_, vI ap, vI bad, vI bk, vI opn, vI fp, vR m9, vR m10, vR m11, vR m12, vR m13, vR m14, vR m15, vI im, vI nr, vI nl, vR m19, vR m20, vR m21, vI sp_, vR m23, vR m24, vR m25, vR m26, vR m27, vR m28, vI wtc, vI wcl, vI ir, vI ip, vR m33, vI shu, vR m35, vI sfa, vI swr], zI m10 (cy 0) 68 f10, zI m12 (cy 0) 389 wh] hq9
                      refine iz_ne (tgt := 125) hx hb dX12_round_119 (by decide) (by first | exact rgw hq4_1 (by decide) (by decide) | omega) (fun c_19 => ?_) (fun c_19 => ?_)
                      · refine lv_iload_n hx hb dX12_round_125 rfl (lv_at hlv 3 rfl) ?_
                        refine lv_iconst (v := iI (-1)) hx hb dX12_round_126 (by decide) ?_
                        refine ir_eq (tgt := 149) hx hb dX12_round_127 (by decide) (by first | exact rgw hl29_0 (by decide) (by decide) | omega) (by show ((-2147483648) : Int) ≤ (-1) ∧ ((-1) : Int) ≤ 2147483647; decide) (fun c_20 => ?_) (fun c_20 => ?_)
                        · refine lv_iload hx hb dX12_round_149 (lv_at hlv 1 rfl) ?_
                          refine lv_iload hx hb dX12_round_151 (lv_at hlv 0 rfl) ?_
                          refine cjr_i [true, true, true] (fun pre9 => (va_runS (As := [vI q2, vI z_12]) (rest := []) ⟨hx, hb, hml, hown, hts⟩ (m_at l hl D cy sa q2 z_12 H.size (by omega) (by omega)) (va_cwS 2 hts gg_1 rfl rfl rfl (by decide +kernel) ⟨Nat.le_of_ble_eq_true rfl, Nat.le_of_ble_eq_true rfl⟩) ⟨pcW.blind, pre9⟩ rfl rfl hlv.1 rfl (lv_room (Nat.le_of_ble_eq_true rfl)) dX12_round_153 ⟨Nat.le_of_ble_eq_true rfl, Nat.le_of_ble_eq_true rfl⟩)) hP hD hS hA hG hT [] rfl (by decide +kernel) (fun r5 u5 H locs hw5 hq9 hS => ?_)
                          obtain ⟨rfl, hq5_1, hq5_2⟩ := hw5
                          obtain ⟨hP, hD⟩ := pd9 [zO mm 12 [vI th, vR m1, vI tp, vI sz_, vI ap, vI bad, vI bk, vI opn, vI fp, vR m9, vR m10, vR m11, vR m12, vR m13, vR m14, vR m15, vI im, vI nr, vI nl, vR m19, vR m20, vR m21, vI sp_, vR m23, vR m24, vR m25, vR m26, vR m27, vR m28, vI wtc, vI wcl, vI ir, vI ip, vR m33, vI shu, vR m35, vI sfa, vI swr], zI m10 (cy 0) 68 f10, zI m12 (cy 0) 389 wh] hq9
                          refine lv_istore_n (lv' := [(3, vI (u5.2.1 0)), (6, vI z_12), (5, vI q2), (4, vI q4), (2, vI q2), (1, vI q1), (0, vR mm)]) hx hb dX12_round_156 rfl hlv (by decide) rfl (fun ls hlv => ?_)
                          obtain ⟨z_21, hz_21⟩ : ∃ z : Int, z = q4 + 1 := ⟨_, rfl⟩
                          refine lv_iinc (v := iI z_21) (lv' := [(4, vI z_21), (3, vI (u5.2.1 0)), (6, vI z_12), (5, vI q2), (2, vI q2), (1, vI q1), (0, vR mm)]) hx hb dX12_round_157 hlv (k := 3) rfl (by rw [hz_21]; exact (Int32.ofInt_add _ _).symm) (by decide) rfl (fun ls hlv => ?_)
                          refine lv_goto (tgt := 29) hx hb dX12_round_160 (by decide) ?_
                          exact ih29 (u5.2.1 0) z_21 H locs ls (by omega) (by first | exact rgw hq5_1 (by decide) (by decide) | omega) (by omega) (by omega) (by omega)  (hP.sub [0, 1, 2] rfl) (hD.sub [0, 1, 2] (by decide) rfl) hS (lv_sub hlv [0, 1, 4, 5, 6] rfl)
                        · refine lv_aload_n hx hb dX12_round_130 rfl (lv_at hlv 6 rfl) ?_
                          refine lv_iload hx hb dX12_round_131 (lv_at hlv 1 rfl) ?_
                          refine lv_iload hx hb dX12_round_133 (lv_at hlv 0 rfl) ?_
                          refine cjr_i [true, true, true] (fun pre9 => (va_runS (As := [vI q2, vI z_12]) (rest := [vR mm]) ⟨hx, hb, hml, hown, hts⟩ (m_at l hl D cy sa q2 z_12 H.size (by omega) (by omega)) (va_cwS 2 hts gg_1 rfl rfl rfl (by decide +kernel) ⟨Nat.le_of_ble_eq_true rfl, Nat.le_of_ble_eq_true rfl⟩) ⟨pcW.blind, pre9⟩ rfl rfl hlv.1 rfl (lv_room (Nat.le_of_ble_eq_true rfl)) dX12_round_135 ⟨Nat.le_of_ble_eq_true rfl, Nat.le_of_ble_eq_true rfl⟩)) hP hD hS hA hG hT [] rfl (by decide +kernel) (fun r6 u6 H locs hw6 hq9 hS => ?_)
                          obtain ⟨rfl, hq6_1, hq6_2⟩ := hw6
                          obtain ⟨hP, hD⟩ := pd9 [zO mm 12 [vI th, vR m1, vI tp, vI sz_, vI ap, vI bad, vI bk, vI opn, vI fp, vR m9, vR m10, vR m11, vR m12, vR m13, vR m14, vR m15, vI im, vI nr, vI nl, vR m19, vR m20, vR m21, vI sp_, vR m23, vR m24, vR m25, vR m26, vR m27, vR m28, vI wtc, vI wcl, vI ir, vI ip, vR m33, vI shu, vR m35, vI sfa, vI swr], zI m10 (cy 0) 68 f10, zI m12 (cy 0) 389 wh] hq9
                          refine cjr_i [false, true, false] (fun pre9 => (va_runV (As := [vI (u6.2.1 0)]) (rest := []) ⟨hx, hb, hml, hown, hts⟩ (m_surface l hl D cy sa mm m1 m9 m10 m11 m12 m13 m14 m15 m19 m20 m21 m23 m24 m25 m26 m27 m28 m33 m35 th tp sz_ ap bad bk opn fp im nr nl sp_ wtc wcl ir ip shu sfa swr wh (u6.2.1 0) pm H.size (by first | exact hr_th | omega) (by first | exact hr_tp | omega) (by first | exact hr_sz_ | omega) (by first | exact hr_ap | omega) (by first | exact hr_bad | omega) (by first | exact hr_bk | omega) (by first | exact hr_opn | omega) (by first | exact hr_fp | omega) (by first | exact hr_im | omega) (by first | exact hr_nr | omega) (by first | exact hr_nl | omega) (by first | exact hr_sp_ | omega) (by first | exact hr_wtc | omega) (by first | exact hr_wcl | omega) (by first | exact hr_ir | omega) (by first | exact hr_ip | omega) (by first | exact hr_shu | omega) (by first | exact hr_sfa | omega) (by first | exact hr_swr | omega) (by first | exact hq6_1 | omega) (by first | exact hr_pm | omega) (hiwh.1)) (cwV 1 hts gg_4 rfl rfl rfl (by decide +kernel) ⟨Nat.le_of_ble_eq_true rfl, Nat.le_of_ble_eq_true rfl⟩) ⟨pcW.blind, (va_recv hG.1 hP (ci := 12) (q0 := 0) rfl rfl), pre9⟩ rfl rfl hlv.1 rfl (lv_room (Nat.le_of_ble_eq_true rfl)) dX12_round_138 ⟨Nat.le_of_ble_eq_true rfl, Nat.le_of_ble_eq_true rfl⟩)) hP hD hS hA hG hT [0, 2] rfl (by decide +kernel) (fun r7 u7 H locs hw7 hq9 hS => ?_)
                          obtain ⟨rfl, hq7_1, hq7_2⟩ := hw7
                          obtain ⟨hP, hD⟩ := pd9 [zI m10 (cy 0) 68 f10, zO mm 12 [vI th, vR m1, vI tp, vI sz_, vI ap, vI bad, vI bk, vI opn, vI fp, vR m9, vR m10, vR m11, vR m12, vR m13, vR m14, vR m15, vI im, vI nr, vI nl, vR m19, vR m20, vR m21, vI sp_, vR m23, vR m24, vR m25, vR m26, vR m27, vR m28, vI wtc, vI wcl, vI ir, vI ip, vR m33, vI shu, vR m35, vI sfa, vI swr], zI m12 (cy 0) 389 wh] hq9
                          refine lv_aload_n hx hb dX12_round_141 rfl (lv_at hlv 6 rfl) ?_
                          refine lv_iload_n hx hb dX12_round_142 rfl (lv_at hlv 3 rfl) ?_
                          refine cjr_i [true, false, false] (fun pre9 => (va_runV (As := [vI q3]) (rest := [vI (u7.2.1 0)]) ⟨hx, hb, hml, hown, hts⟩ (m_surface l hl D cy sa mm m1 m9 m10 m11 m12 m13 m14 m15 m19 m20 m21 m23 m24 m25 m26 m27 m28 m33 m35 th tp sz_ ap bad bk opn fp im nr nl sp_ wtc wcl ir ip shu sfa swr wh q3 pm H.size (by first | exact hr_th | omega) (by first | exact hr_tp | omega) (by first | exact hr_sz_ | omega) (by first | exact hr_ap | omega) (by first | exact hr_bad | omega) (by first | exact hr_bk | omega) (by first | exact hr_opn | omega) (by first | exact hr_fp | omega) (by first | exact hr_im | omega) (by first | exact hr_nr | omega) (by first | exact hr_nl | omega) (by first | exact hr_sp_ | omega) (by first | exact hr_wtc | omega) (by first | exact hr_wcl | omega) (by first | exact hr_ir | omega) (by first | exact hr_ip | omega) (by first | exact hr_shu | omega) (by first | exact hr_sfa | omega) (by first | exact hr_swr | omega) (by omega) (by first | exact hr_pm | omega) (hiwh.1)) (cwV 1 hts gg_4 rfl rfl rfl (by decide +kernel) ⟨Nat.le_of_ble_eq_true rfl, Nat.le_of_ble_eq_true rfl⟩) ⟨pcW.blind, (va_recv hG.1 hP (ci := 12) (q0 := 1) rfl rfl), pre9⟩ rfl rfl hlv.1 rfl (lv_room (Nat.le_of_ble_eq_true rfl)) dX12_round_143 ⟨Nat.le_of_ble_eq_true rfl, Nat.le_of_ble_eq_true rfl⟩)) hP hD hS hA hG hT [1, 2] rfl (by decide +kernel) (fun r8 u8 H locs hw8 hq9 hS => ?_)
                          obtain ⟨rfl, hq8_1, hq8_2⟩ := hw8
                          obtain ⟨hP, hD⟩ := pd9 [zI m10 (cy 0) 68 f10, zO mm 12 [vI th, vR m1, vI tp, vI sz_, vI ap, vI bad, vI bk, vI opn, vI fp, vR m9, vR m10, vR m11, vR m12, vR m13, vR m14, vR m15, vI im, vI nr, vI nl, vR m19, vR m20, vR m21, vI sp_, vR m23, vR m24, vR m25, vR m26, vR m27, vR m28, vI wtc, vI wcl, vI ir, vI ip, vR m33, vI shu, vR m35, vI sfa, vI swr], zI m12 (cy 0) 389 wh] hq9
                          refine ir_ge (tgt := 157) hx hb dX12_round_146 (by decide) (by first | exact hq7_1 | omega) (by first | exact hq8_1 | omega) (fun c_22 => ?_) (fun c_22 => ?_)
                          · obtain ⟨z_23, hz_23⟩ : ∃ z : Int, z = q4 + 1 := ⟨_, rfl⟩
                            refine lv_iinc (v := iI z_23) (lv' := [(4, vI z_23), (6, vI z_12), (5, vI q2), (3, vI q3), (2, vI q2), (1, vI q1), (0, vR mm)]) hx hb dX12_round_157 hlv (k := 2) rfl (by rw [hz_23]; exact (Int32.ofInt_add _ _).symm) (by decide) rfl (fun ls hlv => ?_)
                            refine lv_goto (tgt := 29) hx hb dX12_round_160 (by decide) ?_
                            exact ih29 q3 z_23 H locs ls (by omega) (by first | exact hl29_0 | omega) (by omega) (by omega) (by omega)  (hP.sub [1, 0, 2] rfl) (hD.sub [1, 0, 2] (by decide) rfl) hS (lv_sub hlv [0, 3, 4, 5, 6] rfl)
                          · refine lv_iload hx hb dX12_round_149 (lv_at hlv 1 rfl) ?_
                            refine lv_iload hx hb dX12_round_151 (lv_at hlv 0 rfl) ?_
                            refine cjr_i [true, true, true] (fun pre9 => (va_runS (As := [vI q2, vI z_12]) (rest := []) ⟨hx, hb, hml, hown, hts⟩ (m_at l hl D cy sa q2 z_12 H.size (by omega) (by omega)) (va_cwS 2 hts gg_1 rfl rfl rfl (by decide +kernel) ⟨Nat.le_of_ble_eq_true rfl, Nat.le_of_ble_eq_true rfl⟩) ⟨pcW.blind, pre9⟩ rfl rfl hlv.1 rfl (lv_room (Nat.le_of_ble_eq_true rfl)) dX12_round_153 ⟨Nat.le_of_ble_eq_true rfl, Nat.le_of_ble_eq_true rfl⟩)) hP hD hS hA hG hT [] rfl (by decide +kernel) (fun r9 u9 H locs hw9 hq9 hS => ?_)
                            obtain ⟨rfl, hq9_1, hq9_2⟩ := hw9
                            obtain ⟨hP, hD⟩ := pd9 [zI m10 (cy 0) 68 f10, zO mm 12 [vI th, vR m1, vI tp, vI sz_, vI ap, vI bad, vI bk, vI opn, vI fp, vR m9, vR m10, vR m11, vR m12, vR m13, vR m14, vR m15, vI im, vI nr, vI nl, vR m19, vR m20, vR m21, vI sp_, vR m23, vR m24, vR m25, vR m26, vR m27, vR m28, vI wtc, vI wcl, vI ir, vI ip, vR m33, vI shu, vR m35, vI sfa, vI swr], zI m12 (cy 0) 389 wh] hq9
                            refine lv_istore_n (lv' := [(3, vI (u9.2.1 0)), (6, vI z_12), (5, vI q2), (4, vI q4), (2, vI q2), (1, vI q1), (0, vR mm)]) hx hb dX12_round_156 rfl hlv (by decide) rfl (fun ls hlv => ?_)
                            obtain ⟨z_24, hz_24⟩ : ∃ z : Int, z = q4 + 1 := ⟨_, rfl⟩
                            refine lv_iinc (v := iI z_24) (lv' := [(4, vI z_24), (3, vI (u9.2.1 0)), (6, vI z_12), (5, vI q2), (2, vI q2), (1, vI q1), (0, vR mm)]) hx hb dX12_round_157 hlv (k := 3) rfl (by rw [hz_24]; exact (Int32.ofInt_add _ _).symm) (by decide) rfl (fun ls hlv => ?_)
                            refine lv_goto (tgt := 29) hx hb dX12_round_160 (by decide) ?_
                            exact ih29 (u9.2.1 0) z_24 H locs ls (by omega) (by first | exact rgw hq9_1 (by decide) (by decide) | omega) (by omega) (by omega) (by omega)  (hP.sub [1, 0, 2] rfl) (hD.sub [1, 0, 2] (by decide) rfl) hS (lv_sub hlv [0, 1, 4, 5, 6] rfl)
                      · refine lv_goto (tgt := 157) hx hb dX12_round_122 (by decide) ?_
                        obtain ⟨z_25, hz_25⟩ : ∃ z : Int, z = q4 + 1 := ⟨_, rfl⟩
                        refine lv_iinc (v := iI z_25) (lv' := [(4, vI z_25), (6, vI z_12), (5, vI q2), (3, vI q3), (2, vI q2), (1, vI q1), (0, vR mm)]) hx hb dX12_round_157 hlv (k := 2) rfl (by rw [hz_25]; exact (Int32.ofInt_add _ _).symm) (by decide) rfl (fun ls hlv => ?_)
                        refine lv_goto (tgt := 29) hx hb dX12_round_160 (by decide) ?_
                        exact ih29 q3 z_25 H locs ls (by omega) (by first | exact hl29_0 | omega) (by omega) (by omega) (by omega)  (hP.sub [0, 1, 2] rfl) (hD.sub [0, 1, 2] (by decide) rfl) hS (lv_sub hlv [0, 3, 4, 5, 6] rfl)
                  · refine lv_iload_n hx hb dX12_round_67 rfl (lv_at hlv 4 rfl) ?_
                    refine lv_iconst (v := iI 1) hx hb dX12_round_68 (by decide) ?_
                    refine lv_isub hx hb dX12_round_69 ?_
                    refine lt_e (e0 := q1 - 1) (Int32.ofInt_sub _ _).symm (fun z_26 hz_26 => ?_)
                    refine lv_goto (tgt := 86) hx hb dX12_round_70 (by decide) ?_
                    refine lv_istore (lv' := [(6, vI z_26), (5, vI q2), (4, vI q4), (3, vI q3), (2, vI q2), (1, vI q1), (0, vR mm)]) hx hb dX12_round_86 hlv (by decide) rfl (fun ls hlv => ?_)
                    refine lv_iload hx hb dX12_round_88 (lv_at hlv 1 rfl) ?_
                    refine lv_iconst (v := iI 0) hx hb dX12_round_90 (by decide) ?_
                    refine lv_aload_n hx hb dX12_round_91 rfl (lv_at hlv 6 rfl) ?_
                    refine va_get (D := D) (ci := 12) (v := vR m10) (C := RX12) (T := TX12) (N := 38) hx hb hts hi12 hown hG.1 hP 0 rfl rfl 10 (by decide) lf23 (fun _ h9 => h9) rfl dX12_round_92 ?_
                    refine lv_iconst (v := iI 0) hx hb dX12_round_95 (by decide) ?_
                    refine va_iald hx hb hG.1 hP 1 0 rfl rfl (iI_in (by omega) (by decide)) dX12_round_96 ?_
                    refine lt_nz (i := 0) (by omega) (fun z_27 hz_27 lz_27 uz_27 => ?_)
                    have hz_27 : z_27 = nz f10 0 := hz_27
                    have hbz_27_14 := hf10.1.1
                    have hbz_27_15 := hf10.2.1
                    have hbz_27_16 := hf10.2.2
                    refine lv_iconst (v := iI 1) hx hb dX12_round_97 (by decide) ?_
                    refine lv_isub hx hb dX12_round_98 ?_
                    refine lt_e (e0 := z_27 - 1) (Int32.ofInt_sub _ _).symm (fun z_28 hz_28 => ?_)
                    refine cjr_i [true, true, true] (fun pre9 => (va_runS (As := [vI q2, vI 0, vI z_28]) (rest := []) ⟨hx, hb, hml, hown, hts⟩ (m_within l hl D cy sa q2 0 z_28 H.size (by first | exact rgw hl14_0 (by decide) (by decide) | omega) (by show ((-2147483648) : Int) ≤ 0 ∧ (0 : Int) ≤ 2147483647; decide) (by omega)) (va_cwS 3 hts gg_3 rfl rfl rfl (by decide +kernel) ⟨Nat.le_of_ble_eq_true rfl, Nat.le_of_ble_eq_true rfl⟩) ⟨pcW.blind, pre9⟩ rfl rfl hlv.1 rfl (lv_room (Nat.le_of_ble_eq_true rfl)) dX12_round_99 ⟨Nat.le_of_ble_eq_true rfl, Nat.le_of_ble_eq_true rfl⟩)) hP hD hS hA hG hT [] rfl (by decide +kernel) (fun r10 u10 H locs hw10 hq9 hS => ?_)
                    obtain ⟨rfl, hq10_1, hq10_2, hq10_3⟩ := hw10
                    obtain ⟨hP, hD⟩ := pd9 [zO mm 12 [vI th, vR m1, vI tp, vI sz_, vI ap, vI bad, vI bk, vI opn, vI fp, vR m9, vR m10, vR m11, vR m12, vR m13, vR m14, vR m15, vI im, vI nr, vI nl, vR m19, vR m20, vR m21, vI sp_, vR m23, vR m24, vR m25, vR m26, vR m27, vR m28, vI wtc, vI wcl, vI ir, vI ip, vR m33, vI shu, vR m35, vI sfa, vI swr], zI m10 (cy 0) 68 f10, zI m12 (cy 0) 389 wh] hq9
                    refine iz_eq (tgt := 157) hx hb dX12_round_102 (by decide) (by first | exact rgw hq10_1 (by decide) (by decide) | omega) (fun c_29 => ?_) (fun c_29 => ?_)
                    · obtain ⟨z_30, hz_30⟩ : ∃ z : Int, z = q4 + 1 := ⟨_, rfl⟩
                      refine lv_iinc (v := iI z_30) (lv' := [(4, vI z_30), (6, vI z_26), (5, vI q2), (3, vI q3), (2, vI q2), (1, vI q1), (0, vR mm)]) hx hb dX12_round_157 hlv (k := 2) rfl (by rw [hz_30]; exact (Int32.ofInt_add _ _).symm) (by decide) rfl (fun ls hlv => ?_)
                      refine lv_goto (tgt := 29) hx hb dX12_round_160 (by decide) ?_
                      exact ih29 q3 z_30 H locs ls (by omega) (by first | exact hl29_0 | omega) (by omega) (by omega) (by omega)  (hP.sub [0, 1, 2] rfl) (hD.sub [0, 1, 2] (by decide) rfl) hS (lv_sub hlv [0, 3, 4, 5, 6] rfl)
                    · refine lv_iload hx hb dX12_round_105 (lv_at hlv 0 rfl) ?_
                      refine lv_iconst (v := iI 0) hx hb dX12_round_107 (by decide) ?_
                      refine lv_aload_n hx hb dX12_round_108 rfl (lv_at hlv 6 rfl) ?_
                      refine va_get (D := D) (ci := 12) (v := vR m10) (C := RX12) (T := TX12) (N := 38) hx hb hts hi12 hown hG.1 hP 0 rfl rfl 10 (by decide) lf23 (fun _ h9 => h9) rfl dX12_round_109 ?_
                      refine lv_iconst (v := iI 1) hx hb dX12_round_112 (by decide) ?_
                      refine va_iald hx hb hG.1 hP 1 0 rfl rfl (iI_in (by omega) (by decide)) dX12_round_113 ?_
                      refine lt_nz (i := 1) (by omega) (fun z_31 hz_31 lz_31 uz_31 => ?_)
                      have hz_31 : z_31 = nz f10 1 := hz_31
                      have hbz_31_8 := hf10.1.2.1
                      have hbz_31_9 := hf10.2.1
                      have hbz_31_10 := hf10.2.2
                      refine lv_iconst (v := iI 1) hx hb dX12_round_114 (by decide) ?_
                      refine lv_isub hx hb dX12_round_115 ?_
                      refine lt_e (e0 := z_31 - 1) (Int32.ofInt_sub _ _).symm (fun z_32 hz_32 => ?_)
                      refine cjr_i [true, true, true] (fun pre9 => (va_runS (As := [vI z_26, vI 0, vI z_32]) (rest := []) ⟨hx, hb, hml, hown, hts⟩ (m_within l hl D cy sa z_26 0 z_32 H.size (by omega) (by show ((-2147483648) : Int) ≤ 0 ∧ (0 : Int) ≤ 2147483647; decide) (by omega)) (va_cwS 3 hts gg_3 rfl rfl rfl (by decide +kernel) ⟨Nat.le_of_ble_eq_true rfl, Nat.le_of_ble_eq_true rfl⟩) ⟨pcW.blind, pre9⟩ rfl rfl hlv.1 rfl (lv_room (Nat.le_of_ble_eq_true rfl)) dX12_round_116 ⟨Nat.le_of_ble_eq_true rfl, Nat.le_of_ble_eq_true rfl⟩)) hP hD hS hA hG hT [] rfl (by decide +kernel) (fun r11 u11 H locs hw11 hq9 hS => ?_)
                      obtain ⟨rfl, hq11_1, hq11_2, hq11_3⟩ := hw11
                      obtain ⟨hP, hD⟩ := pd9 [zO mm 12 [vI th, vR m1, vI tp, vI sz_, vI ap, vI bad, vI bk, vI opn, vI fp, vR m9, vR m10, vR m11, vR m12, vR m13, vR m14, vR m15, vI im, vI nr, vI nl, vR m19, vR m20, vR m21, vI sp_, vR m23, vR m24, vR m25, vR m26, vR m27, vR m28, vI wtc, vI wcl, vI ir, vI ip, vR m33, vI shu, vR m35, vI sfa, vI swr], zI m10 (cy 0) 68 f10, zI m12 (cy 0) 389 wh] hq9
                      refine iz_ne (tgt := 125) hx hb dX12_round_119 (by decide) (by first | exact rgw hq11_1 (by decide) (by decide) | omega) (fun c_33 => ?_) (fun c_33 => ?_)
                      · refine lv_iload_n hx hb dX12_round_125 rfl (lv_at hlv 3 rfl) ?_
                        refine lv_iconst (v := iI (-1)) hx hb dX12_round_126 (by decide) ?_
                        refine ir_eq (tgt := 149) hx hb dX12_round_127 (by decide) (by first | exact rgw hl29_0 (by decide) (by decide) | omega) (by show ((-2147483648) : Int) ≤ (-1) ∧ ((-1) : Int) ≤ 2147483647; decide) (fun c_34 => ?_) (fun c_34 => ?_)
                        · refine lv_iload hx hb dX12_round_149 (lv_at hlv 1 rfl) ?_
                          refine lv_iload hx hb dX12_round_151 (lv_at hlv 0 rfl) ?_
                          refine cjr_i [true, true, true] (fun pre9 => (va_runS (As := [vI q2, vI z_26]) (rest := []) ⟨hx, hb, hml, hown, hts⟩ (m_at l hl D cy sa q2 z_26 H.size (by omega) (by omega)) (va_cwS 2 hts gg_1 rfl rfl rfl (by decide +kernel) ⟨Nat.le_of_ble_eq_true rfl, Nat.le_of_ble_eq_true rfl⟩) ⟨pcW.blind, pre9⟩ rfl rfl hlv.1 rfl (lv_room (Nat.le_of_ble_eq_true rfl)) dX12_round_153 ⟨Nat.le_of_ble_eq_true rfl, Nat.le_of_ble_eq_true rfl⟩)) hP hD hS hA hG hT [] rfl (by decide +kernel) (fun r12 u12 H locs hw12 hq9 hS => ?_)
                          obtain ⟨rfl, hq12_1, hq12_2⟩ := hw12
                          obtain ⟨hP, hD⟩ := pd9 [zO mm 12 [vI th, vR m1, vI tp, vI sz_, vI ap, vI bad, vI bk, vI opn, vI fp, vR m9, vR m10, vR m11, vR m12, vR m13, vR m14, vR m15, vI im, vI nr, vI nl, vR m19, vR m20, vR m21, vI sp_, vR m23, vR m24, vR m25, vR m26, vR m27, vR m28, vI wtc, vI wcl, vI ir, vI ip, vR m33, vI shu, vR m35, vI sfa, vI swr], zI m10 (cy 0) 68 f10, zI m12 (cy 0) 389 wh] hq9
                          refine lv_istore_n (lv' := [(3, vI (u12.2.1 0)), (6, vI z_26), (5, vI q2), (4, vI q4), (2, vI q2), (1, vI q1), (0, vR mm)]) hx hb dX12_round_156 rfl hlv (by decide) rfl (fun ls hlv => ?_)
                          obtain ⟨z_35, hz_35⟩ : ∃ z : Int, z = q4 + 1 := ⟨_, rfl⟩
                          refine lv_iinc (v := iI z_35) (lv' := [(4, vI z_35), (3, vI (u12.2.1 0)), (6, vI z_26), (5, vI q2), (2, vI q2), (1, vI q1), (0, vR mm)]) hx hb dX12_round_157 hlv (k := 3) rfl (by rw [hz_35]; exact (Int32.ofInt_add _ _).symm) (by decide) rfl (fun ls hlv => ?_)
                          refine lv_goto (tgt := 29) hx hb dX12_round_160 (by decide) ?_
                          exact ih29 (u12.2.1 0) z_35 H locs ls (by omega) (by first | exact rgw hq12_1 (by decide) (by decide) | omega) (by omega) (by omega) (by omega)  (hP.sub [0, 1, 2] rfl) (hD.sub [0, 1, 2] (by decide) rfl) hS (lv_sub hlv [0, 1, 4, 5, 6] rfl)
                        · refine lv_aload_n hx hb dX12_round_130 rfl (lv_at hlv 6 rfl) ?_
                          refine lv_iload hx hb dX12_round_131 (lv_at hlv 1 rfl) ?_
                          refine lv_iload hx hb dX12_round_133 (lv_at hlv 0 rfl) ?_
                          refine cjr_i [true, true, true] (fun pre9 => (va_runS (As := [vI q2, vI z_26]) (rest := [vR mm]) ⟨hx, hb, hml, hown, hts⟩ (m_at l hl D cy sa q2 z_26 H.size (by omega) (by omega)) (va_cwS 2 hts gg_1 rfl rfl rfl (by decide +kernel) ⟨Nat.le_of_ble_eq_true rfl, Nat.le_of_ble_eq_true rfl⟩) ⟨pcW.blind, pre9⟩ rfl rfl hlv.1 rfl (lv_room (Nat.le_of_ble_eq_true rfl)) dX12_round_135 ⟨Nat.le_of_ble_eq_true rfl, Nat.le_of_ble_eq_true rfl⟩)) hP hD hS hA hG hT [] rfl (by decide +kernel) (fun r13 u13 H locs hw13 hq9 hS => ?_)
                          obtain ⟨rfl, hq13_1, hq13_2⟩ := hw13
                          obtain ⟨hP, hD⟩ := pd9 [zO mm 12 [vI th, vR m1, vI tp, vI sz_, vI ap, vI bad, vI bk, vI opn, vI fp, vR m9, vR m10, vR m11, vR m12, vR m13, vR m14, vR m15, vI im, vI nr, vI nl, vR m19, vR m20, vR m21, vI sp_, vR m23, vR m24, vR m25, vR m26, vR m27, vR m28, vI wtc, vI wcl, vI ir, vI ip, vR m33, vI shu, vR m35, vI sfa, vI swr], zI m10 (cy 0) 68 f10, zI m12 (cy 0) 389 wh] hq9
                          refine cjr_i [false, true, false] (fun pre9 => (va_runV (As := [vI (u13.2.1 0)]) (rest := []) ⟨hx, hb, hml, hown, hts⟩ (m_surface l hl D cy sa mm m1 m9 m10 m11 m12 m13 m14 m15 m19 m20 m21 m23 m24 m25 m26 m27 m28 m33 m35 th tp sz_ ap bad bk opn fp im nr nl sp_ wtc wcl ir ip shu sfa swr wh (u13.2.1 0) pm H.size (by first | exact hr_th | omega) (by first | exact hr_tp | omega) (by first | exact hr_sz_ | omega) (by first | exact hr_ap | omega) (by first | exact hr_bad | omega) (by first | exact hr_bk | omega) (by first | exact hr_opn | omega) (by first | exact hr_fp | omega) (by first | exact hr_im | omega) (by first | exact hr_nr | omega) (by first | exact hr_nl | omega) (by first | exact hr_sp_ | omega) (by first | exact hr_wtc | omega) (by first | exact hr_wcl | omega) (by first | exact hr_ir | omega) (by first | exact hr_ip | omega) (by first | exact hr_shu | omega) (by first | exact hr_sfa | omega) (by first | exact hr_swr | omega) (by first | exact hq13_1 | omega) (by first | exact hr_pm | omega) (hiwh.1)) (cwV 1 hts gg_4 rfl rfl rfl (by decide +kernel) ⟨Nat.le_of_ble_eq_true rfl, Nat.le_of_ble_eq_true rfl⟩) ⟨pcW.blind, (va_recv hG.1 hP (ci := 12) (q0 := 0) rfl rfl), pre9⟩ rfl rfl hlv.1 rfl (lv_room (Nat.le_of_ble_eq_true rfl)) dX12_round_138 ⟨Nat.le_of_ble_eq_true rfl, Nat.le_of_ble_eq_true rfl⟩)) hP hD hS hA hG hT [0, 2] rfl (by decide +kernel) (fun r14 u14 H locs hw14 hq9 hS => ?_)
                          obtain ⟨rfl, hq14_1, hq14_2⟩ := hw14
                          obtain ⟨hP, hD⟩ := pd9 [zI m10 (cy 0) 68 f10, zO mm 12 [vI th, vR m1, vI tp, vI sz_, vI ap, vI bad, vI bk, vI opn, vI fp, vR m9, vR m10, vR m11, vR m12, vR m13, vR m14, vR m15, vI im, vI nr, vI nl, vR m19, vR m20, vR m21, vI sp_, vR m23, vR m24, vR m25, vR m26, vR m27, vR m28, vI wtc, vI wcl, vI ir, vI ip, vR m33, vI shu, vR m35, vI sfa, vI swr], zI m12 (cy 0) 389 wh] hq9
                          refine lv_aload_n hx hb dX12_round_141 rfl (lv_at hlv 6 rfl) ?_
                          refine lv_iload_n hx hb dX12_round_142 rfl (lv_at hlv 3 rfl) ?_
                          refine cjr_i [true, false, false] (fun pre9 => (va_runV (As := [vI q3]) (rest := [vI (u14.2.1 0)]) ⟨hx, hb, hml, hown, hts⟩ (m_surface l hl D cy sa mm m1 m9 m10 m11 m12 m13 m14 m15 m19 m20 m21 m23 m24 m25 m26 m27 m28 m33 m35 th tp sz_ ap bad bk opn fp im nr nl sp_ wtc wcl ir ip shu sfa swr wh q3 pm H.size (by first | exact hr_th | omega) (by first | exact hr_tp | omega) (by first | exact hr_sz_ | omega) (by first | exact hr_ap | omega) (by first | exact hr_bad | omega) (by first | exact hr_bk | omega) (by first | exact hr_opn | omega) (by first | exact hr_fp | omega) (by first | exact hr_im | omega) (by first | exact hr_nr | omega) (by first | exact hr_nl | omega) (by first | exact hr_sp_ | omega) (by first | exact hr_wtc | omega) (by first | exact hr_wcl | omega) (by first | exact hr_ir | omega) (by first | exact hr_ip | omega) (by first | exact hr_shu | omega) (by first | exact hr_sfa | omega) (by first | exact hr_swr | omega) (by omega) (by first | exact hr_pm | omega) (hiwh.1)) (cwV 1 hts gg_4 rfl rfl rfl (by decide +kernel) ⟨Nat.le_of_ble_eq_true rfl, Nat.le_of_ble_eq_true rfl⟩) ⟨pcW.blind, (va_recv hG.1 hP (ci := 12) (q0 := 1) rfl rfl), pre9⟩ rfl rfl hlv.1 rfl (lv_room (Nat.le_of_ble_eq_true rfl)) dX12_round_143 ⟨Nat.le_of_ble_eq_true rfl, Nat.le_of_ble_eq_true rfl⟩)) hP hD hS hA hG hT [1, 2] rfl (by decide +kernel) (fun r15 u15 H locs hw15 hq9 hS => ?_)
                          obtain ⟨rfl, hq15_1, hq15_2⟩ := hw15
                          obtain ⟨hP, hD⟩ := pd9 [zI m10 (cy 0) 68 f10, zO mm 12 [vI th, vR m1, vI tp, vI sz_, vI ap, vI bad, vI bk, vI opn, vI fp, vR m9, vR m10, vR m11, vR m12, vR m13, vR m14, vR m15, vI im, vI nr, vI nl, vR m19, vR m20, vR m21, vI sp_, vR m23, vR m24, vR m25, vR m26, vR m27, vR m28, vI wtc, vI wcl, vI ir, vI ip, vR m33, vI shu, vR m35, vI sfa, vI swr], zI m12 (cy 0) 389 wh] hq9
                          refine ir_ge (tgt := 157) hx hb dX12_round_146 (by decide) (by first | exact hq14_1 | omega) (by first | exact hq15_1 | omega) (fun c_36 => ?_) (fun c_36 => ?_)
                          · obtain ⟨z_37, hz_37⟩ : ∃ z : Int, z = q4 + 1 := ⟨_, rfl⟩
                            refine lv_iinc (v := iI z_37) (lv' := [(4, vI z_37), (6, vI z_26), (5, vI q2), (3, vI q3), (2, vI q2), (1, vI q1), (0, vR mm)]) hx hb dX12_round_157 hlv (k := 2) rfl (by rw [hz_37]; exact (Int32.ofInt_add _ _).symm) (by decide) rfl (fun ls hlv => ?_)
                            refine lv_goto (tgt := 29) hx hb dX12_round_160 (by decide) ?_
                            exact ih29 q3 z_37 H locs ls (by omega) (by first | exact hl29_0 | omega) (by omega) (by omega) (by omega)  (hP.sub [1, 0, 2] rfl) (hD.sub [1, 0, 2] (by decide) rfl) hS (lv_sub hlv [0, 3, 4, 5, 6] rfl)
                          · refine lv_iload hx hb dX12_round_149 (lv_at hlv 1 rfl) ?_
                            refine lv_iload hx hb dX12_round_151 (lv_at hlv 0 rfl) ?_
                            refine cjr_i [true, true, true] (fun pre9 => (va_runS (As := [vI q2, vI z_26]) (rest := []) ⟨hx, hb, hml, hown, hts⟩ (m_at l hl D cy sa q2 z_26 H.size (by omega) (by omega)) (va_cwS 2 hts gg_1 rfl rfl rfl (by decide +kernel) ⟨Nat.le_of_ble_eq_true rfl, Nat.le_of_ble_eq_true rfl⟩) ⟨pcW.blind, pre9⟩ rfl rfl hlv.1 rfl (lv_room (Nat.le_of_ble_eq_true rfl)) dX12_round_153 ⟨Nat.le_of_ble_eq_true rfl, Nat.le_of_ble_eq_true rfl⟩)) hP hD hS hA hG hT [] rfl (by decide +kernel) (fun r16 u16 H locs hw16 hq9 hS => ?_)
                            obtain ⟨rfl, hq16_1, hq16_2⟩ := hw16
                            obtain ⟨hP, hD⟩ := pd9 [zI m10 (cy 0) 68 f10, zO mm 12 [vI th, vR m1, vI tp, vI sz_, vI ap, vI bad, vI bk, vI opn, vI fp, vR m9, vR m10, vR m11, vR m12, vR m13, vR m14, vR m15, vI im, vI nr, vI nl, vR m19, vR m20, vR m21, vI sp_, vR m23, vR m24, vR m25, vR m26, vR m27, vR m28, vI wtc, vI wcl, vI ir, vI ip, vR m33, vI shu, vR m35, vI sfa, vI swr], zI m12 (cy 0) 389 wh] hq9
                            refine lv_istore_n (lv' := [(3, vI (u16.2.1 0)), (6, vI z_26), (5, vI q2), (4, vI q4), (2, vI q2), (1, vI q1), (0, vR mm)]) hx hb dX12_round_156 rfl hlv (by decide) rfl (fun ls hlv => ?_)
                            obtain ⟨z_38, hz_38⟩ : ∃ z : Int, z = q4 + 1 := ⟨_, rfl⟩
                            refine lv_iinc (v := iI z_38) (lv' := [(4, vI z_38), (3, vI (u16.2.1 0)), (6, vI z_26), (5, vI q2), (2, vI q2), (1, vI q1), (0, vR mm)]) hx hb dX12_round_157 hlv (k := 3) rfl (by rw [hz_38]; exact (Int32.ofInt_add _ _).symm) (by decide) rfl (fun ls hlv => ?_)
                            refine lv_goto (tgt := 29) hx hb dX12_round_160 (by decide) ?_
                            exact ih29 (u16.2.1 0) z_38 H locs ls (by omega) (by first | exact rgw hq16_1 (by decide) (by decide) | omega) (by omega) (by omega) (by omega)  (hP.sub [1, 0, 2] rfl) (hD.sub [1, 0, 2] (by decide) rfl) hS (lv_sub hlv [0, 1, 4, 5, 6] rfl)
                      · refine lv_goto (tgt := 157) hx hb dX12_round_122 (by decide) ?_
                        obtain ⟨z_39, hz_39⟩ : ∃ z : Int, z = q4 + 1 := ⟨_, rfl⟩
                        refine lv_iinc (v := iI z_39) (lv' := [(4, vI z_39), (6, vI z_26), (5, vI q2), (3, vI q3), (2, vI q2), (1, vI q1), (0, vR mm)]) hx hb dX12_round_157 hlv (k := 2) rfl (by rw [hz_39]; exact (Int32.ofInt_add _ _).symm) (by decide) rfl (fun ls hlv => ?_)
                        refine lv_goto (tgt := 29) hx hb dX12_round_160 (by decide) ?_
                        exact ih29 q3 z_39 H locs ls (by omega) (by first | exact hl29_0 | omega) (by omega) (by omega) (by omega)  (hP.sub [0, 1, 2] rfl) (hD.sub [0, 1, 2] (by decide) rfl) hS (lv_sub hlv [0, 3, 4, 5, 6] rfl)
                · refine lv_iload_n hx hb dX12_round_52 rfl (lv_at hlv 2 rfl) ?_
                  refine lv_iconst (v := iI 1) hx hb dX12_round_53 (by decide) ?_
                  refine lv_iadd hx hb dX12_round_54 ?_
                  refine lt_e (e0 := q2 + 1) (Int32.ofInt_add _ _).symm (fun z_40 hz_40 => ?_)
                  refine lv_goto (tgt := 59) hx hb dX12_round_55 (by decide) ?_
                  refine lv_istore (lv' := [(5, vI z_40), (4, vI q4), (3, vI q3), (2, vI q2), (1, vI q1), (0, vR mm)]) hx hb dX12_round_59 hlv (by decide) rfl (fun ls hlv => ?_)
                  refine lv_iload hx hb dX12_round_61 (lv_at hlv 1 rfl) ?_
                  refine lv_iconst (v := iI 2) hx hb dX12_round_63 (by decide) ?_
                  refine ir_ne (tgt := 73) hx hb dX12_round_64 (by decide) (by first | exact rgw hl29_1 (by decide) (by decide) | omega) (by show ((-2147483648) : Int) ≤ 2 ∧ (2 : Int) ≤ 2147483647; decide) (fun c_41 => ?_) (fun c_41 => by exfalso; omega)
                  refine lv_iload hx hb dX12_round_73 (lv_at hlv 1 rfl) ?_
                  refine lv_iconst (v := iI 3) hx hb dX12_round_75 (by decide) ?_
                  refine ir_ne (tgt := 85) hx hb dX12_round_76 (by decide) (by first | exact rgw hl29_1 (by decide) (by decide) | omega) (by show ((-2147483648) : Int) ≤ 3 ∧ (3 : Int) ≤ 2147483647; decide) (fun c_42 => ?_) (fun c_42 => by exfalso; omega)
                  refine lv_iload_n hx hb dX12_round_85 rfl (lv_at hlv 4 rfl) ?_
                  refine lv_istore (lv' := [(6, vI q1), (5, vI z_40), (4, vI q4), (3, vI q3), (2, vI q2), (1, vI q1), (0, vR mm)]) hx hb dX12_round_86 hlv (by decide) rfl (fun ls hlv => ?_)
                  refine lv_iload hx hb dX12_round_88 (lv_at hlv 1 rfl) ?_
                  refine lv_iconst (v := iI 0) hx hb dX12_round_90 (by decide) ?_
                  refine lv_aload_n hx hb dX12_round_91 rfl (lv_at hlv 6 rfl) ?_
                  refine va_get (D := D) (ci := 12) (v := vR m10) (C := RX12) (T := TX12) (N := 38) hx hb hts hi12 hown hG.1 hP 0 rfl rfl 10 (by decide) lf23 (fun _ h9 => h9) rfl dX12_round_92 ?_
                  refine lv_iconst (v := iI 0) hx hb dX12_round_95 (by decide) ?_
                  refine va_iald hx hb hG.1 hP 1 0 rfl rfl (iI_in (by omega) (by decide)) dX12_round_96 ?_
                  refine lt_nz (i := 0) (by omega) (fun z_43 hz_43 lz_43 uz_43 => ?_)
                  have hz_43 : z_43 = nz f10 0 := hz_43
                  have hbz_43_22 := hf10.1.1
                  have hbz_43_23 := hf10.2.1
                  have hbz_43_24 := hf10.2.2
                  refine lv_iconst (v := iI 1) hx hb dX12_round_97 (by decide) ?_
                  refine lv_isub hx hb dX12_round_98 ?_
                  refine lt_e (e0 := z_43 - 1) (Int32.ofInt_sub _ _).symm (fun z_44 hz_44 => ?_)
                  refine cjr_i [true, true, true] (fun pre9 => (va_runS (As := [vI z_40, vI 0, vI z_44]) (rest := []) ⟨hx, hb, hml, hown, hts⟩ (m_within l hl D cy sa z_40 0 z_44 H.size (by omega) (by show ((-2147483648) : Int) ≤ 0 ∧ (0 : Int) ≤ 2147483647; decide) (by omega)) (va_cwS 3 hts gg_3 rfl rfl rfl (by decide +kernel) ⟨Nat.le_of_ble_eq_true rfl, Nat.le_of_ble_eq_true rfl⟩) ⟨pcW.blind, pre9⟩ rfl rfl hlv.1 rfl (lv_room (Nat.le_of_ble_eq_true rfl)) dX12_round_99 ⟨Nat.le_of_ble_eq_true rfl, Nat.le_of_ble_eq_true rfl⟩)) hP hD hS hA hG hT [] rfl (by decide +kernel) (fun r17 u17 H locs hw17 hq9 hS => ?_)
                  obtain ⟨rfl, hq17_1, hq17_2, hq17_3⟩ := hw17
                  obtain ⟨hP, hD⟩ := pd9 [zO mm 12 [vI th, vR m1, vI tp, vI sz_, vI ap, vI bad, vI bk, vI opn, vI fp, vR m9, vR m10, vR m11, vR m12, vR m13, vR m14, vR m15, vI im, vI nr, vI nl, vR m19, vR m20, vR m21, vI sp_, vR m23, vR m24, vR m25, vR m26, vR m27, vR m28, vI wtc, vI wcl, vI ir, vI ip, vR m33, vI shu, vR m35, vI sfa, vI swr], zI m10 (cy 0) 68 f10, zI m12 (cy 0) 389 wh] hq9
                  refine iz_eq (tgt := 157) hx hb dX12_round_102 (by decide) (by first | exact rgw hq17_1 (by decide) (by decide) | omega) (fun c_45 => ?_) (fun c_45 => ?_)
                  · obtain ⟨z_46, hz_46⟩ : ∃ z : Int, z = q4 + 1 := ⟨_, rfl⟩
                    refine lv_iinc (v := iI z_46) (lv' := [(4, vI z_46), (6, vI q1), (5, vI z_40), (3, vI q3), (2, vI q2), (1, vI q1), (0, vR mm)]) hx hb dX12_round_157 hlv (k := 2) rfl (by rw [hz_46]; exact (Int32.ofInt_add _ _).symm) (by decide) rfl (fun ls hlv => ?_)
                    refine lv_goto (tgt := 29) hx hb dX12_round_160 (by decide) ?_
                    exact ih29 q3 z_46 H locs ls (by omega) (by first | exact hl29_0 | omega) (by omega) (by omega) (by omega)  (hP.sub [0, 1, 2] rfl) (hD.sub [0, 1, 2] (by decide) rfl) hS (lv_sub hlv [0, 3, 4, 5, 6] rfl)
                  · refine lv_iload hx hb dX12_round_105 (lv_at hlv 0 rfl) ?_
                    refine lv_iconst (v := iI 0) hx hb dX12_round_107 (by decide) ?_
                    refine lv_aload_n hx hb dX12_round_108 rfl (lv_at hlv 6 rfl) ?_
                    refine va_get (D := D) (ci := 12) (v := vR m10) (C := RX12) (T := TX12) (N := 38) hx hb hts hi12 hown hG.1 hP 0 rfl rfl 10 (by decide) lf23 (fun _ h9 => h9) rfl dX12_round_109 ?_
                    refine lv_iconst (v := iI 1) hx hb dX12_round_112 (by decide) ?_
                    refine va_iald hx hb hG.1 hP 1 0 rfl rfl (iI_in (by omega) (by decide)) dX12_round_113 ?_
                    refine lt_nz (i := 1) (by omega) (fun z_47 hz_47 lz_47 uz_47 => ?_)
                    have hz_47 : z_47 = nz f10 1 := hz_47
                    have hbz_47_8 := hf10.1.2.1
                    have hbz_47_9 := hf10.2.1
                    have hbz_47_10 := hf10.2.2
                    refine lv_iconst (v := iI 1) hx hb dX12_round_114 (by decide) ?_
                    refine lv_isub hx hb dX12_round_115 ?_
                    refine lt_e (e0 := z_47 - 1) (Int32.ofInt_sub _ _).symm (fun z_48 hz_48 => ?_)
                    refine cjr_i [true, true, true] (fun pre9 => (va_runS (As := [vI q1, vI 0, vI z_48]) (rest := []) ⟨hx, hb, hml, hown, hts⟩ (m_within l hl D cy sa q1 0 z_48 H.size (by first | exact rgw hl2_0 (by decide) (by decide) | omega) (by show ((-2147483648) : Int) ≤ 0 ∧ (0 : Int) ≤ 2147483647; decide) (by omega)) (va_cwS 3 hts gg_3 rfl rfl rfl (by decide +kernel) ⟨Nat.le_of_ble_eq_true rfl, Nat.le_of_ble_eq_true rfl⟩) ⟨pcW.blind, pre9⟩ rfl rfl hlv.1 rfl (lv_room (Nat.le_of_ble_eq_true rfl)) dX12_round_116 ⟨Nat.le_of_ble_eq_true rfl, Nat.le_of_ble_eq_true rfl⟩)) hP hD hS hA hG hT [] rfl (by decide +kernel) (fun r18 u18 H locs hw18 hq9 hS => ?_)
                    obtain ⟨rfl, hq18_1, hq18_2, hq18_3⟩ := hw18
                    obtain ⟨hP, hD⟩ := pd9 [zO mm 12 [vI th, vR m1, vI tp, vI sz_, vI ap, vI bad, vI bk, vI opn, vI fp, vR m9, vR m10, vR m11, vR m12, vR m13, vR m14, vR m15, vI im, vI nr, vI nl, vR m19, vR m20, vR m21, vI sp_, vR m23, vR m24, vR m25, vR m26, vR m27, vR m28, vI wtc, vI wcl, vI ir, vI ip, vR m33, vI shu, vR m35, vI sfa, vI swr], zI m10 (cy 0) 68 f10, zI m12 (cy 0) 389 wh] hq9
                    refine iz_ne (tgt := 125) hx hb dX12_round_119 (by decide) (by first | exact rgw hq18_1 (by decide) (by decide) | omega) (fun c_49 => ?_) (fun c_49 => ?_)
                    · refine lv_iload_n hx hb dX12_round_125 rfl (lv_at hlv 3 rfl) ?_
                      refine lv_iconst (v := iI (-1)) hx hb dX12_round_126 (by decide) ?_
                      refine ir_eq (tgt := 149) hx hb dX12_round_127 (by decide) (by first | exact rgw hl29_0 (by decide) (by decide) | omega) (by show ((-2147483648) : Int) ≤ (-1) ∧ ((-1) : Int) ≤ 2147483647; decide) (fun c_50 => ?_) (fun c_50 => ?_)
                      · refine lv_iload hx hb dX12_round_149 (lv_at hlv 1 rfl) ?_
                        refine lv_iload hx hb dX12_round_151 (lv_at hlv 0 rfl) ?_
                        refine cjr_i [true, true, true] (fun pre9 => (va_runS (As := [vI z_40, vI q1]) (rest := []) ⟨hx, hb, hml, hown, hts⟩ (m_at l hl D cy sa z_40 q1 H.size (by omega) (by omega)) (va_cwS 2 hts gg_1 rfl rfl rfl (by decide +kernel) ⟨Nat.le_of_ble_eq_true rfl, Nat.le_of_ble_eq_true rfl⟩) ⟨pcW.blind, pre9⟩ rfl rfl hlv.1 rfl (lv_room (Nat.le_of_ble_eq_true rfl)) dX12_round_153 ⟨Nat.le_of_ble_eq_true rfl, Nat.le_of_ble_eq_true rfl⟩)) hP hD hS hA hG hT [] rfl (by decide +kernel) (fun r19 u19 H locs hw19 hq9 hS => ?_)
                        obtain ⟨rfl, hq19_1, hq19_2⟩ := hw19
                        obtain ⟨hP, hD⟩ := pd9 [zO mm 12 [vI th, vR m1, vI tp, vI sz_, vI ap, vI bad, vI bk, vI opn, vI fp, vR m9, vR m10, vR m11, vR m12, vR m13, vR m14, vR m15, vI im, vI nr, vI nl, vR m19, vR m20, vR m21, vI sp_, vR m23, vR m24, vR m25, vR m26, vR m27, vR m28, vI wtc, vI wcl, vI ir, vI ip, vR m33, vI shu, vR m35, vI sfa, vI swr], zI m10 (cy 0) 68 f10, zI m12 (cy 0) 389 wh] hq9
                        refine lv_istore_n (lv' := [(3, vI (u19.2.1 0)), (6, vI q1), (5, vI z_40), (4, vI q4), (2, vI q2), (1, vI q1), (0, vR mm)]) hx hb dX12_round_156 rfl hlv (by decide) rfl (fun ls hlv => ?_)
                        obtain ⟨z_51, hz_51⟩ : ∃ z : Int, z = q4 + 1 := ⟨_, rfl⟩
                        refine lv_iinc (v := iI z_51) (lv' := [(4, vI z_51), (3, vI (u19.2.1 0)), (6, vI q1), (5, vI z_40), (2, vI q2), (1, vI q1), (0, vR mm)]) hx hb dX12_round_157 hlv (k := 3) rfl (by rw [hz_51]; exact (Int32.ofInt_add _ _).symm) (by decide) rfl (fun ls hlv => ?_)
                        refine lv_goto (tgt := 29) hx hb dX12_round_160 (by decide) ?_
                        exact ih29 (u19.2.1 0) z_51 H locs ls (by omega) (by first | exact rgw hq19_1 (by decide) (by decide) | omega) (by omega) (by omega) (by omega)  (hP.sub [0, 1, 2] rfl) (hD.sub [0, 1, 2] (by decide) rfl) hS (lv_sub hlv [0, 1, 4, 5, 6] rfl)
                      · refine lv_aload_n hx hb dX12_round_130 rfl (lv_at hlv 6 rfl) ?_
                        refine lv_iload hx hb dX12_round_131 (lv_at hlv 1 rfl) ?_
                        refine lv_iload hx hb dX12_round_133 (lv_at hlv 0 rfl) ?_
                        refine cjr_i [true, true, true] (fun pre9 => (va_runS (As := [vI z_40, vI q1]) (rest := [vR mm]) ⟨hx, hb, hml, hown, hts⟩ (m_at l hl D cy sa z_40 q1 H.size (by omega) (by omega)) (va_cwS 2 hts gg_1 rfl rfl rfl (by decide +kernel) ⟨Nat.le_of_ble_eq_true rfl, Nat.le_of_ble_eq_true rfl⟩) ⟨pcW.blind, pre9⟩ rfl rfl hlv.1 rfl (lv_room (Nat.le_of_ble_eq_true rfl)) dX12_round_135 ⟨Nat.le_of_ble_eq_true rfl, Nat.le_of_ble_eq_true rfl⟩)) hP hD hS hA hG hT [] rfl (by decide +kernel) (fun r20 u20 H locs hw20 hq9 hS => ?_)
                        obtain ⟨rfl, hq20_1, hq20_2⟩ := hw20
                        obtain ⟨hP, hD⟩ := pd9 [zO mm 12 [vI th, vR m1, vI tp, vI sz_, vI ap, vI bad, vI bk, vI opn, vI fp, vR m9, vR m10, vR m11, vR m12, vR m13, vR m14, vR m15, vI im, vI nr, vI nl, vR m19, vR m20, vR m21, vI sp_, vR m23, vR m24, vR m25, vR m26, vR m27, vR m28, vI wtc, vI wcl, vI ir, vI ip, vR m33, vI shu, vR m35, vI sfa, vI swr], zI m10 (cy 0) 68 f10, zI m12 (cy 0) 389 wh] hq9
                        refine cjr_i [false, true, false] (fun pre9 => (va_runV (As := [vI (u20.2.1 0)]) (rest := []) ⟨hx, hb, hml, hown, hts⟩ (m_surface l hl D cy sa mm m1 m9 m10 m11 m12 m13 m14 m15 m19 m20 m21 m23 m24 m25 m26 m27 m28 m33 m35 th tp sz_ ap bad bk opn fp im nr nl sp_ wtc wcl ir ip shu sfa swr wh (u20.2.1 0) pm H.size (by first | exact hr_th | omega) (by first | exact hr_tp | omega) (by first | exact hr_sz_ | omega) (by first | exact hr_ap | omega) (by first | exact hr_bad | omega) (by first | exact hr_bk | omega) (by first | exact hr_opn | omega) (by first | exact hr_fp | omega) (by first | exact hr_im | omega) (by first | exact hr_nr | omega) (by first | exact hr_nl | omega) (by first | exact hr_sp_ | omega) (by first | exact hr_wtc | omega) (by first | exact hr_wcl | omega) (by first | exact hr_ir | omega) (by first | exact hr_ip | omega) (by first | exact hr_shu | omega) (by first | exact hr_sfa | omega) (by first | exact hr_swr | omega) (by first | exact hq20_1 | omega) (by first | exact hr_pm | omega) (hiwh.1)) (cwV 1 hts gg_4 rfl rfl rfl (by decide +kernel) ⟨Nat.le_of_ble_eq_true rfl, Nat.le_of_ble_eq_true rfl⟩) ⟨pcW.blind, (va_recv hG.1 hP (ci := 12) (q0 := 0) rfl rfl), pre9⟩ rfl rfl hlv.1 rfl (lv_room (Nat.le_of_ble_eq_true rfl)) dX12_round_138 ⟨Nat.le_of_ble_eq_true rfl, Nat.le_of_ble_eq_true rfl⟩)) hP hD hS hA hG hT [0, 2] rfl (by decide +kernel) (fun r21 u21 H locs hw21 hq9 hS => ?_)
                        obtain ⟨rfl, hq21_1, hq21_2⟩ := hw21
                        obtain ⟨hP, hD⟩ := pd9 [zI m10 (cy 0) 68 f10, zO mm 12 [vI th, vR m1, vI tp, vI sz_, vI ap, vI bad, vI bk, vI opn, vI fp, vR m9, vR m10, vR m11, vR m12, vR m13, vR m14, vR m15, vI im, vI nr, vI nl, vR m19, vR m20, vR m21, vI sp_, vR m23, vR m24, vR m25, vR m26, vR m27, vR m28, vI wtc, vI wcl, vI ir, vI ip, vR m33, vI shu, vR m35, vI sfa, vI swr], zI m12 (cy 0) 389 wh] hq9
                        refine lv_aload_n hx hb dX12_round_141 rfl (lv_at hlv 6 rfl) ?_
                        refine lv_iload_n hx hb dX12_round_142 rfl (lv_at hlv 3 rfl) ?_
                        refine cjr_i [true, false, false] (fun pre9 => (va_runV (As := [vI q3]) (rest := [vI (u21.2.1 0)]) ⟨hx, hb, hml, hown, hts⟩ (m_surface l hl D cy sa mm m1 m9 m10 m11 m12 m13 m14 m15 m19 m20 m21 m23 m24 m25 m26 m27 m28 m33 m35 th tp sz_ ap bad bk opn fp im nr nl sp_ wtc wcl ir ip shu sfa swr wh q3 pm H.size (by first | exact hr_th | omega) (by first | exact hr_tp | omega) (by first | exact hr_sz_ | omega) (by first | exact hr_ap | omega) (by first | exact hr_bad | omega) (by first | exact hr_bk | omega) (by first | exact hr_opn | omega) (by first | exact hr_fp | omega) (by first | exact hr_im | omega) (by first | exact hr_nr | omega) (by first | exact hr_nl | omega) (by first | exact hr_sp_ | omega) (by first | exact hr_wtc | omega) (by first | exact hr_wcl | omega) (by first | exact hr_ir | omega) (by first | exact hr_ip | omega) (by first | exact hr_shu | omega) (by first | exact hr_sfa | omega) (by first | exact hr_swr | omega) (by omega) (by first | exact hr_pm | omega) (hiwh.1)) (cwV 1 hts gg_4 rfl rfl rfl (by decide +kernel) ⟨Nat.le_of_ble_eq_true rfl, Nat.le_of_ble_eq_true rfl⟩) ⟨pcW.blind, (va_recv hG.1 hP (ci := 12) (q0 := 1) rfl rfl), pre9⟩ rfl rfl hlv.1 rfl (lv_room (Nat.le_of_ble_eq_true rfl)) dX12_round_143 ⟨Nat.le_of_ble_eq_true rfl, Nat.le_of_ble_eq_true rfl⟩)) hP hD hS hA hG hT [1, 2] rfl (by decide +kernel) (fun r22 u22 H locs hw22 hq9 hS => ?_)
                        obtain ⟨rfl, hq22_1, hq22_2⟩ := hw22
                        obtain ⟨hP, hD⟩ := pd9 [zI m10 (cy 0) 68 f10, zO mm 12 [vI th, vR m1, vI tp, vI sz_, vI ap, vI bad, vI bk, vI opn, vI fp, vR m9, vR m10, vR m11, vR m12, vR m13, vR m14, vR m15, vI im, vI nr, vI nl, vR m19, vR m20, vR m21, vI sp_, vR m23, vR m24, vR m25, vR m26, vR m27, vR m28, vI wtc, vI wcl, vI ir, vI ip, vR m33, vI shu, vR m35, vI sfa, vI swr], zI m12 (cy 0) 389 wh] hq9
                        refine ir_ge (tgt := 157) hx hb dX12_round_146 (by decide) (by first | exact hq21_1 | omega) (by first | exact hq22_1 | omega) (fun c_52 => ?_) (fun c_52 => ?_)
                        · obtain ⟨z_53, hz_53⟩ : ∃ z : Int, z = q4 + 1 := ⟨_, rfl⟩
                          refine lv_iinc (v := iI z_53) (lv' := [(4, vI z_53), (6, vI q1), (5, vI z_40), (3, vI q3), (2, vI q2), (1, vI q1), (0, vR mm)]) hx hb dX12_round_157 hlv (k := 2) rfl (by rw [hz_53]; exact (Int32.ofInt_add _ _).symm) (by decide) rfl (fun ls hlv => ?_)
                          refine lv_goto (tgt := 29) hx hb dX12_round_160 (by decide) ?_
                          exact ih29 q3 z_53 H locs ls (by omega) (by first | exact hl29_0 | omega) (by omega) (by omega) (by omega)  (hP.sub [1, 0, 2] rfl) (hD.sub [1, 0, 2] (by decide) rfl) hS (lv_sub hlv [0, 3, 4, 5, 6] rfl)
                        · refine lv_iload hx hb dX12_round_149 (lv_at hlv 1 rfl) ?_
                          refine lv_iload hx hb dX12_round_151 (lv_at hlv 0 rfl) ?_
                          refine cjr_i [true, true, true] (fun pre9 => (va_runS (As := [vI z_40, vI q1]) (rest := []) ⟨hx, hb, hml, hown, hts⟩ (m_at l hl D cy sa z_40 q1 H.size (by omega) (by omega)) (va_cwS 2 hts gg_1 rfl rfl rfl (by decide +kernel) ⟨Nat.le_of_ble_eq_true rfl, Nat.le_of_ble_eq_true rfl⟩) ⟨pcW.blind, pre9⟩ rfl rfl hlv.1 rfl (lv_room (Nat.le_of_ble_eq_true rfl)) dX12_round_153 ⟨Nat.le_of_ble_eq_true rfl, Nat.le_of_ble_eq_true rfl⟩)) hP hD hS hA hG hT [] rfl (by decide +kernel) (fun r23 u23 H locs hw23 hq9 hS => ?_)
                          obtain ⟨rfl, hq23_1, hq23_2⟩ := hw23
                          obtain ⟨hP, hD⟩ := pd9 [zI m10 (cy 0) 68 f10, zO mm 12 [vI th, vR m1, vI tp, vI sz_, vI ap, vI bad, vI bk, vI opn, vI fp, vR m9, vR m10, vR m11, vR m12, vR m13, vR m14, vR m15, vI im, vI nr, vI nl, vR m19, vR m20, vR m21, vI sp_, vR m23, vR m24, vR m25, vR m26, vR m27, vR m28, vI wtc, vI wcl, vI ir, vI ip, vR m33, vI shu, vR m35, vI sfa, vI swr], zI m12 (cy 0) 389 wh] hq9
                          refine lv_istore_n (lv' := [(3, vI (u23.2.1 0)), (6, vI q1), (5, vI z_40), (4, vI q4), (2, vI q2), (1, vI q1), (0, vR mm)]) hx hb dX12_round_156 rfl hlv (by decide) rfl (fun ls hlv => ?_)
                          obtain ⟨z_54, hz_54⟩ : ∃ z : Int, z = q4 + 1 := ⟨_, rfl⟩
                          refine lv_iinc (v := iI z_54) (lv' := [(4, vI z_54), (3, vI (u23.2.1 0)), (6, vI q1), (5, vI z_40), (2, vI q2), (1, vI q1), (0, vR mm)]) hx hb dX12_round_157 hlv (k := 3) rfl (by rw [hz_54]; exact (Int32.ofInt_add _ _).symm) (by decide) rfl (fun ls hlv => ?_)
                          refine lv_goto (tgt := 29) hx hb dX12_round_160 (by decide) ?_
                          exact ih29 (u23.2.1 0) z_54 H locs ls (by omega) (by first | exact rgw hq23_1 (by decide) (by decide) | omega) (by omega) (by omega) (by omega)  (hP.sub [1, 0, 2] rfl) (hD.sub [1, 0, 2] (by decide) rfl) hS (lv_sub hlv [0, 1, 4, 5, 6] rfl)
                    · refine lv_goto (tgt := 157) hx hb dX12_round_122 (by decide) ?_
                      obtain ⟨z_55, hz_55⟩ : ∃ z : Int, z = q4 + 1 := ⟨_, rfl⟩
                      refine lv_iinc (v := iI z_55) (lv' := [(4, vI z_55), (6, vI q1), (5, vI z_40), (3, vI q3), (2, vI q2), (1, vI q1), (0, vR mm)]) hx hb dX12_round_157 hlv (k := 2) rfl (by rw [hz_55]; exact (Int32.ofInt_add _ _).symm) (by decide) rfl (fun ls hlv => ?_)
                      refine lv_goto (tgt := 29) hx hb dX12_round_160 (by decide) ?_
                      exact ih29 q3 z_55 H locs ls (by omega) (by first | exact hl29_0 | omega) (by omega) (by omega) (by omega)  (hP.sub [0, 1, 2] rfl) (hD.sub [0, 1, 2] (by decide) rfl) hS (lv_sub hlv [0, 3, 4, 5, 6] rfl)
              · refine lv_iload_n hx hb dX12_round_40 rfl (lv_at hlv 2 rfl) ?_
                refine lv_iconst (v := iI 1) hx hb dX12_round_41 (by decide) ?_
                refine lv_isub hx hb dX12_round_42 ?_
                refine lt_e (e0 := q2 - 1) (Int32.ofInt_sub _ _).symm (fun z_56 hz_56 => ?_)
                refine lv_goto (tgt := 59) hx hb dX12_round_43 (by decide) ?_
                refine lv_istore (lv' := [(5, vI z_56), (4, vI q4), (3, vI q3), (2, vI q2), (1, vI q1), (0, vR mm)]) hx hb dX12_round_59 hlv (by decide) rfl (fun ls hlv => ?_)
                refine lv_iload hx hb dX12_round_61 (lv_at hlv 1 rfl) ?_
                refine lv_iconst (v := iI 2) hx hb dX12_round_63 (by decide) ?_
                refine ir_ne (tgt := 73) hx hb dX12_round_64 (by decide) (by first | exact rgw hl29_1 (by decide) (by decide) | omega) (by show ((-2147483648) : Int) ≤ 2 ∧ (2 : Int) ≤ 2147483647; decide) (fun c_57 => ?_) (fun c_57 => by exfalso; omega)
                refine lv_iload hx hb dX12_round_73 (lv_at hlv 1 rfl) ?_
                refine lv_iconst (v := iI 3) hx hb dX12_round_75 (by decide) ?_
                refine ir_ne (tgt := 85) hx hb dX12_round_76 (by decide) (by first | exact rgw hl29_1 (by decide) (by decide) | omega) (by show ((-2147483648) : Int) ≤ 3 ∧ (3 : Int) ≤ 2147483647; decide) (fun c_58 => ?_) (fun c_58 => by exfalso; omega)
                refine lv_iload_n hx hb dX12_round_85 rfl (lv_at hlv 4 rfl) ?_
                refine lv_istore (lv' := [(6, vI q1), (5, vI z_56), (4, vI q4), (3, vI q3), (2, vI q2), (1, vI q1), (0, vR mm)]) hx hb dX12_round_86 hlv (by decide) rfl (fun ls hlv => ?_)
                refine lv_iload hx hb dX12_round_88 (lv_at hlv 1 rfl) ?_
                refine lv_iconst (v := iI 0) hx hb dX12_round_90 (by decide) ?_
                refine lv_aload_n hx hb dX12_round_91 rfl (lv_at hlv 6 rfl) ?_
                refine va_get (D := D) (ci := 12) (v := vR m10) (C := RX12) (T := TX12) (N := 38) hx hb hts hi12 hown hG.1 hP 0 rfl rfl 10 (by decide) lf23 (fun _ h9 => h9) rfl dX12_round_92 ?_
                refine lv_iconst (v := iI 0) hx hb dX12_round_95 (by decide) ?_
                refine va_iald hx hb hG.1 hP 1 0 rfl rfl (iI_in (by omega) (by decide)) dX12_round_96 ?_
                refine lt_nz (i := 0) (by omega) (fun z_59 hz_59 lz_59 uz_59 => ?_)
                have hz_59 : z_59 = nz f10 0 := hz_59
                have hbz_59_22 := hf10.1.1
                have hbz_59_23 := hf10.2.1
                have hbz_59_24 := hf10.2.2
                refine lv_iconst (v := iI 1) hx hb dX12_round_97 (by decide) ?_
                refine lv_isub hx hb dX12_round_98 ?_
                refine lt_e (e0 := z_59 - 1) (Int32.ofInt_sub _ _).symm (fun z_60 hz_60 => ?_)
                refine cjr_i [true, true, true] (fun pre9 => (va_runS (As := [vI z_56, vI 0, vI z_60]) (rest := []) ⟨hx, hb, hml, hown, hts⟩ (m_within l hl D cy sa z_56 0 z_60 H.size (by omega) (by show ((-2147483648) : Int) ≤ 0 ∧ (0 : Int) ≤ 2147483647; decide) (by omega)) (va_cwS 3 hts gg_3 rfl rfl rfl (by decide +kernel) ⟨Nat.le_of_ble_eq_true rfl, Nat.le_of_ble_eq_true rfl⟩) ⟨pcW.blind, pre9⟩ rfl rfl hlv.1 rfl (lv_room (Nat.le_of_ble_eq_true rfl)) dX12_round_99 ⟨Nat.le_of_ble_eq_true rfl, Nat.le_of_ble_eq_true rfl⟩)) hP hD hS hA hG hT [] rfl (by decide +kernel) (fun r24 u24 H locs hw24 hq9 hS => ?_)
                obtain ⟨rfl, hq24_1, hq24_2, hq24_3⟩ := hw24
                obtain ⟨hP, hD⟩ := pd9 [zO mm 12 [vI th, vR m1, vI tp, vI sz_, vI ap, vI bad, vI bk, vI opn, vI fp, vR m9, vR m10, vR m11, vR m12, vR m13, vR m14, vR m15, vI im, vI nr, vI nl, vR m19, vR m20, vR m21, vI sp_, vR m23, vR m24, vR m25, vR m26, vR m27, vR m28, vI wtc, vI wcl, vI ir, vI ip, vR m33, vI shu, vR m35, vI sfa, vI swr], zI m10 (cy 0) 68 f10, zI m12 (cy 0) 389 wh] hq9
                refine iz_eq (tgt := 157) hx hb dX12_round_102 (by decide) (by first | exact rgw hq24_1 (by decide) (by decide) | omega) (fun c_61 => ?_) (fun c_61 => ?_)
                · obtain ⟨z_62, hz_62⟩ : ∃ z : Int, z = q4 + 1 := ⟨_, rfl⟩
                  refine lv_iinc (v := iI z_62) (lv' := [(4, vI z_62), (6, vI q1), (5, vI z_56), (3, vI q3), (2, vI q2), (1, vI q1), (0, vR mm)]) hx hb dX12_round_157 hlv (k := 2) rfl (by rw [hz_62]; exact (Int32.ofInt_add _ _).symm) (by decide) rfl (fun ls hlv => ?_)
                  refine lv_goto (tgt := 29) hx hb dX12_round_160 (by decide) ?_
                  exact ih29 q3 z_62 H locs ls (by omega) (by first | exact hl29_0 | omega) (by omega) (by omega) (by omega)  (hP.sub [0, 1, 2] rfl) (hD.sub [0, 1, 2] (by decide) rfl) hS (lv_sub hlv [0, 3, 4, 5, 6] rfl)
                · refine lv_iload hx hb dX12_round_105 (lv_at hlv 0 rfl) ?_
                  refine lv_iconst (v := iI 0) hx hb dX12_round_107 (by decide) ?_
                  refine lv_aload_n hx hb dX12_round_108 rfl (lv_at hlv 6 rfl) ?_
                  refine va_get (D := D) (ci := 12) (v := vR m10) (C := RX12) (T := TX12) (N := 38) hx hb hts hi12 hown hG.1 hP 0 rfl rfl 10 (by decide) lf23 (fun _ h9 => h9) rfl dX12_round_109 ?_
                  refine lv_iconst (v := iI 1) hx hb dX12_round_112 (by decide) ?_
                  refine va_iald hx hb hG.1 hP 1 0 rfl rfl (iI_in (by omega) (by decide)) dX12_round_113 ?_
                  refine lt_nz (i := 1) (by omega) (fun z_63 hz_63 lz_63 uz_63 => ?_)
                  have hz_63 : z_63 = nz f10 1 := hz_63
                  have hbz_63_8 := hf10.1.2.1
                  have hbz_63_9 := hf10.2.1
                  have hbz_63_10 := hf10.2.2
                  refine lv_iconst (v := iI 1) hx hb dX12_round_114 (by decide) ?_
                  refine lv_isub hx hb dX12_round_115 ?_
                  refine lt_e (e0 := z_63 - 1) (Int32.ofInt_sub _ _).symm (fun z_64 hz_64 => ?_)
                  refine cjr_i [true, true, true] (fun pre9 => (va_runS (As := [vI q1, vI 0, vI z_64]) (rest := []) ⟨hx, hb, hml, hown, hts⟩ (m_within l hl D cy sa q1 0 z_64 H.size (by first | exact rgw hl2_0 (by decide) (by decide) | omega) (by show ((-2147483648) : Int) ≤ 0 ∧ (0 : Int) ≤ 2147483647; decide) (by omega)) (va_cwS 3 hts gg_3 rfl rfl rfl (by decide +kernel) ⟨Nat.le_of_ble_eq_true rfl, Nat.le_of_ble_eq_true rfl⟩) ⟨pcW.blind, pre9⟩ rfl rfl hlv.1 rfl (lv_room (Nat.le_of_ble_eq_true rfl)) dX12_round_116 ⟨Nat.le_of_ble_eq_true rfl, Nat.le_of_ble_eq_true rfl⟩)) hP hD hS hA hG hT [] rfl (by decide +kernel) (fun r25 u25 H locs hw25 hq9 hS => ?_)
                  obtain ⟨rfl, hq25_1, hq25_2, hq25_3⟩ := hw25
                  obtain ⟨hP, hD⟩ := pd9 [zO mm 12 [vI th, vR m1, vI tp, vI sz_, vI ap, vI bad, vI bk, vI opn, vI fp, vR m9, vR m10, vR m11, vR m12, vR m13, vR m14, vR m15, vI im, vI nr, vI nl, vR m19, vR m20, vR m21, vI sp_, vR m23, vR m24, vR m25, vR m26, vR m27, vR m28, vI wtc, vI wcl, vI ir, vI ip, vR m33, vI shu, vR m35, vI sfa, vI swr], zI m10 (cy 0) 68 f10, zI m12 (cy 0) 389 wh] hq9
                  refine iz_ne (tgt := 125) hx hb dX12_round_119 (by decide) (by first | exact rgw hq25_1 (by decide) (by decide) | omega) (fun c_65 => ?_) (fun c_65 => ?_)
                  · refine lv_iload_n hx hb dX12_round_125 rfl (lv_at hlv 3 rfl) ?_
                    refine lv_iconst (v := iI (-1)) hx hb dX12_round_126 (by decide) ?_
                    refine ir_eq (tgt := 149) hx hb dX12_round_127 (by decide) (by first | exact rgw hl29_0 (by decide) (by decide) | omega) (by show ((-2147483648) : Int) ≤ (-1) ∧ ((-1) : Int) ≤ 2147483647; decide) (fun c_66 => ?_) (fun c_66 => ?_)
                    · refine lv_iload hx hb dX12_round_149 (lv_at hlv 1 rfl) ?_
                      refine lv_iload hx hb dX12_round_151 (lv_at hlv 0 rfl) ?_
                      refine cjr_i [true, true, true] (fun pre9 => (va_runS (As := [vI z_56, vI q1]) (rest := []) ⟨hx, hb, hml, hown, hts⟩ (m_at l hl D cy sa z_56 q1 H.size (by omega) (by omega)) (va_cwS 2 hts gg_1 rfl rfl rfl (by decide +kernel) ⟨Nat.le_of_ble_eq_true rfl, Nat.le_of_ble_eq_true rfl⟩) ⟨pcW.blind, pre9⟩ rfl rfl hlv.1 rfl (lv_room (Nat.le_of_ble_eq_true rfl)) dX12_round_153 ⟨Nat.le_of_ble_eq_true rfl, Nat.le_of_ble_eq_true rfl⟩)) hP hD hS hA hG hT [] rfl (by decide +kernel) (fun r26 u26 H locs hw26 hq9 hS => ?_)
                      obtain ⟨rfl, hq26_1, hq26_2⟩ := hw26
                      obtain ⟨hP, hD⟩ := pd9 [zO mm 12 [vI th, vR m1, vI tp, vI sz_, vI ap, vI bad, vI bk, vI opn, vI fp, vR m9, vR m10, vR m11, vR m12, vR m13, vR m14, vR m15, vI im, vI nr, vI nl, vR m19, vR m20, vR m21, vI sp_, vR m23, vR m24, vR m25, vR m26, vR m27, vR m28, vI wtc, vI wcl, vI ir, vI ip, vR m33, vI shu, vR m35, vI sfa, vI swr], zI m10 (cy 0) 68 f10, zI m12 (cy 0) 389 wh] hq9
                      refine lv_istore_n (lv' := [(3, vI (u26.2.1 0)), (6, vI q1), (5, vI z_56), (4, vI q4), (2, vI q2), (1, vI q1), (0, vR mm)]) hx hb dX12_round_156 rfl hlv (by decide) rfl (fun ls hlv => ?_)
                      obtain ⟨z_67, hz_67⟩ : ∃ z : Int, z = q4 + 1 := ⟨_, rfl⟩
                      refine lv_iinc (v := iI z_67) (lv' := [(4, vI z_67), (3, vI (u26.2.1 0)), (6, vI q1), (5, vI z_56), (2, vI q2), (1, vI q1), (0, vR mm)]) hx hb dX12_round_157 hlv (k := 3) rfl (by rw [hz_67]; exact (Int32.ofInt_add _ _).symm) (by decide) rfl (fun ls hlv => ?_)
                      refine lv_goto (tgt := 29) hx hb dX12_round_160 (by decide) ?_
                      exact ih29 (u26.2.1 0) z_67 H locs ls (by omega) (by first | exact rgw hq26_1 (by decide) (by decide) | omega) (by omega) (by omega) (by omega)  (hP.sub [0, 1, 2] rfl) (hD.sub [0, 1, 2] (by decide) rfl) hS (lv_sub hlv [0, 1, 4, 5, 6] rfl)
                    · refine lv_aload_n hx hb dX12_round_130 rfl (lv_at hlv 6 rfl) ?_
                      refine lv_iload hx hb dX12_round_131 (lv_at hlv 1 rfl) ?_
                      refine lv_iload hx hb dX12_round_133 (lv_at hlv 0 rfl) ?_
                      refine cjr_i [true, true, true] (fun pre9 => (va_runS (As := [vI z_56, vI q1]) (rest := [vR mm]) ⟨hx, hb, hml, hown, hts⟩ (m_at l hl D cy sa z_56 q1 H.size (by omega) (by omega)) (va_cwS 2 hts gg_1 rfl rfl rfl (by decide +kernel) ⟨Nat.le_of_ble_eq_true rfl, Nat.le_of_ble_eq_true rfl⟩) ⟨pcW.blind, pre9⟩ rfl rfl hlv.1 rfl (lv_room (Nat.le_of_ble_eq_true rfl)) dX12_round_135 ⟨Nat.le_of_ble_eq_true rfl, Nat.le_of_ble_eq_true rfl⟩)) hP hD hS hA hG hT [] rfl (by decide +kernel) (fun r27 u27 H locs hw27 hq9 hS => ?_)
                      obtain ⟨rfl, hq27_1, hq27_2⟩ := hw27
                      obtain ⟨hP, hD⟩ := pd9 [zO mm 12 [vI th, vR m1, vI tp, vI sz_, vI ap, vI bad, vI bk, vI opn, vI fp, vR m9, vR m10, vR m11, vR m12, vR m13, vR m14, vR m15, vI im, vI nr, vI nl, vR m19, vR m20, vR m21, vI sp_, vR m23, vR m24, vR m25, vR m26, vR m27, vR m28, vI wtc, vI wcl, vI ir, vI ip, vR m33, vI shu, vR m35, vI sfa, vI swr], zI m10 (cy 0) 68 f10, zI m12 (cy 0) 389 wh] hq9
                      refine cjr_i [false, true, false] (fun pre9 => (va_runV (As := [vI (u27.2.1 0)]) (rest := []) ⟨hx, hb, hml, hown, hts⟩ (m_surface l hl D cy sa mm m1 m9 m10 m11 m12 m13 m14 m15 m19 m20 m21 m23 m24 m25 m26 m27 m28 m33 m35 th tp sz_ ap bad bk opn fp im nr nl sp_ wtc wcl ir ip shu sfa swr wh (u27.2.1 0) pm H.size (by first | exact hr_th | omega) (by first | exact hr_tp | omega) (by first | exact hr_sz_ | omega) (by first | exact hr_ap | omega) (by first | exact hr_bad | omega) (by first | exact hr_bk | omega) (by first | exact hr_opn | omega) (by first | exact hr_fp | omega) (by first | exact hr_im | omega) (by first | exact hr_nr | omega) (by first | exact hr_nl | omega) (by first | exact hr_sp_ | omega) (by first | exact hr_wtc | omega) (by first | exact hr_wcl | omega) (by first | exact hr_ir | omega) (by first | exact hr_ip | omega) (by first | exact hr_shu | omega) (by first | exact hr_sfa | omega) (by first | exact hr_swr | omega) (by first | exact hq27_1 | omega) (by first | exact hr_pm | omega) (hiwh.1)) (cwV 1 hts gg_4 rfl rfl rfl (by decide +kernel) ⟨Nat.le_of_ble_eq_true rfl, Nat.le_of_ble_eq_true rfl⟩) ⟨pcW.blind, (va_recv hG.1 hP (ci := 12) (q0 := 0) rfl rfl), pre9⟩ rfl rfl hlv.1 rfl (lv_room (Nat.le_of_ble_eq_true rfl)) dX12_round_138 ⟨Nat.le_of_ble_eq_true rfl, Nat.le_of_ble_eq_true rfl⟩)) hP hD hS hA hG hT [0, 2] rfl (by decide +kernel) (fun r28 u28 H locs hw28 hq9 hS => ?_)
                      obtain ⟨rfl, hq28_1, hq28_2⟩ := hw28
                      obtain ⟨hP, hD⟩ := pd9 [zI m10 (cy 0) 68 f10, zO mm 12 [vI th, vR m1, vI tp, vI sz_, vI ap, vI bad, vI bk, vI opn, vI fp, vR m9, vR m10, vR m11, vR m12, vR m13, vR m14, vR m15, vI im, vI nr, vI nl, vR m19, vR m20, vR m21, vI sp_, vR m23, vR m24, vR m25, vR m26, vR m27, vR m28, vI wtc, vI wcl, vI ir, vI ip, vR m33, vI shu, vR m35, vI sfa, vI swr], zI m12 (cy 0) 389 wh] hq9
                      refine lv_aload_n hx hb dX12_round_141 rfl (lv_at hlv 6 rfl) ?_
                      refine lv_iload_n hx hb dX12_round_142 rfl (lv_at hlv 3 rfl) ?_
                      refine cjr_i [true, false, false] (fun pre9 => (va_runV (As := [vI q3]) (rest := [vI (u28.2.1 0)]) ⟨hx, hb, hml, hown, hts⟩ (m_surface l hl D cy sa mm m1 m9 m10 m11 m12 m13 m14 m15 m19 m20 m21 m23 m24 m25 m26 m27 m28 m33 m35 th tp sz_ ap bad bk opn fp im nr nl sp_ wtc wcl ir ip shu sfa swr wh q3 pm H.size (by first | exact hr_th | omega) (by first | exact hr_tp | omega) (by first | exact hr_sz_ | omega) (by first | exact hr_ap | omega) (by first | exact hr_bad | omega) (by first | exact hr_bk | omega) (by first | exact hr_opn | omega) (by first | exact hr_fp | omega) (by first | exact hr_im | omega) (by first | exact hr_nr | omega) (by first | exact hr_nl | omega) (by first | exact hr_sp_ | omega) (by first | exact hr_wtc | omega) (by first | exact hr_wcl | omega) (by first | exact hr_ir | omega) (by first | exact hr_ip | omega) (by first | exact hr_shu | omega) (by first | exact hr_sfa | omega) (by first | exact hr_swr | omega) (by omega) (by first | exact hr_pm | omega) (hiwh.1)) (cwV 1 hts gg_4 rfl rfl rfl (by decide +kernel) ⟨Nat.le_of_ble_eq_true rfl, Nat.le_of_ble_eq_true rfl⟩) ⟨pcW.blind, (va_recv hG.1 hP (ci := 12) (q0 := 1) rfl rfl), pre9⟩ rfl rfl hlv.1 rfl (lv_room (Nat.le_of_ble_eq_true rfl)) dX12_round_143 ⟨Nat.le_of_ble_eq_true rfl, Nat.le_of_ble_eq_true rfl⟩)) hP hD hS hA hG hT [1, 2] rfl (by decide +kernel) (fun r29 u29 H locs hw29 hq9 hS => ?_)
                      obtain ⟨rfl, hq29_1, hq29_2⟩ := hw29
                      obtain ⟨hP, hD⟩ := pd9 [zI m10 (cy 0) 68 f10, zO mm 12 [vI th, vR m1, vI tp, vI sz_, vI ap, vI bad, vI bk, vI opn, vI fp, vR m9, vR m10, vR m11, vR m12, vR m13, vR m14, vR m15, vI im, vI nr, vI nl, vR m19, vR m20, vR m21, vI sp_, vR m23, vR m24, vR m25, vR m26, vR m27, vR m28, vI wtc, vI wcl, vI ir, vI ip, vR m33, vI shu, vR m35, vI sfa, vI swr], zI m12 (cy 0) 389 wh] hq9
                      refine ir_ge (tgt := 157) hx hb dX12_round_146 (by decide) (by first | exact hq28_1 | omega) (by first | exact hq29_1 | omega) (fun c_68 => ?_) (fun c_68 => ?_)
                      · obtain ⟨z_69, hz_69⟩ : ∃ z : Int, z = q4 + 1 := ⟨_, rfl⟩
                        refine lv_iinc (v := iI z_69) (lv' := [(4, vI z_69), (6, vI q1), (5, vI z_56), (3, vI q3), (2, vI q2), (1, vI q1), (0, vR mm)]) hx hb dX12_round_157 hlv (k := 2) rfl (by rw [hz_69]; exact (Int32.ofInt_add _ _).symm) (by decide) rfl (fun ls hlv => ?_)
                        refine lv_goto (tgt := 29) hx hb dX12_round_160 (by decide) ?_
                        exact ih29 q3 z_69 H locs ls (by omega) (by first | exact hl29_0 | omega) (by omega) (by omega) (by omega)  (hP.sub [1, 0, 2] rfl) (hD.sub [1, 0, 2] (by decide) rfl) hS (lv_sub hlv [0, 3, 4, 5, 6] rfl)
                      · refine lv_iload hx hb dX12_round_149 (lv_at hlv 1 rfl) ?_
                        refine lv_iload hx hb dX12_round_151 (lv_at hlv 0 rfl) ?_
                        refine cjr_i [true, true, true] (fun pre9 => (va_runS (As := [vI z_56, vI q1]) (rest := []) ⟨hx, hb, hml, hown, hts⟩ (m_at l hl D cy sa z_56 q1 H.size (by omega) (by omega)) (va_cwS 2 hts gg_1 rfl rfl rfl (by decide +kernel) ⟨Nat.le_of_ble_eq_true rfl, Nat.le_of_ble_eq_true rfl⟩) ⟨pcW.blind, pre9⟩ rfl rfl hlv.1 rfl (lv_room (Nat.le_of_ble_eq_true rfl)) dX12_round_153 ⟨Nat.le_of_ble_eq_true rfl, Nat.le_of_ble_eq_true rfl⟩)) hP hD hS hA hG hT [] rfl (by decide +kernel) (fun r30 u30 H locs hw30 hq9 hS => ?_)
                        obtain ⟨rfl, hq30_1, hq30_2⟩ := hw30
                        obtain ⟨hP, hD⟩ := pd9 [zI m10 (cy 0) 68 f10, zO mm 12 [vI th, vR m1, vI tp, vI sz_, vI ap, vI bad, vI bk, vI opn, vI fp, vR m9, vR m10, vR m11, vR m12, vR m13, vR m14, vR m15, vI im, vI nr, vI nl, vR m19, vR m20, vR m21, vI sp_, vR m23, vR m24, vR m25, vR m26, vR m27, vR m28, vI wtc, vI wcl, vI ir, vI ip, vR m33, vI shu, vR m35, vI sfa, vI swr], zI m12 (cy 0) 389 wh] hq9
                        refine lv_istore_n (lv' := [(3, vI (u30.2.1 0)), (6, vI q1), (5, vI z_56), (4, vI q4), (2, vI q2), (1, vI q1), (0, vR mm)]) hx hb dX12_round_156 rfl hlv (by decide) rfl (fun ls hlv => ?_)
                        obtain ⟨z_70, hz_70⟩ : ∃ z : Int, z = q4 + 1 := ⟨_, rfl⟩
                        refine lv_iinc (v := iI z_70) (lv' := [(4, vI z_70), (3, vI (u30.2.1 0)), (6, vI q1), (5, vI z_56), (2, vI q2), (1, vI q1), (0, vR mm)]) hx hb dX12_round_157 hlv (k := 3) rfl (by rw [hz_70]; exact (Int32.ofInt_add _ _).symm) (by decide) rfl (fun ls hlv => ?_)
                        refine lv_goto (tgt := 29) hx hb dX12_round_160 (by decide) ?_
                        exact ih29 (u30.2.1 0) z_70 H locs ls (by omega) (by first | exact rgw hq30_1 (by decide) (by decide) | omega) (by omega) (by omega) (by omega)  (hP.sub [1, 0, 2] rfl) (hD.sub [1, 0, 2] (by decide) rfl) hS (lv_sub hlv [0, 1, 4, 5, 6] rfl)
                  · refine lv_goto (tgt := 157) hx hb dX12_round_122 (by decide) ?_
                    obtain ⟨z_71, hz_71⟩ : ∃ z : Int, z = q4 + 1 := ⟨_, rfl⟩
                    refine lv_iinc (v := iI z_71) (lv' := [(4, vI z_71), (6, vI q1), (5, vI z_56), (3, vI q3), (2, vI q2), (1, vI q1), (0, vR mm)]) hx hb dX12_round_157 hlv (k := 2) rfl (by rw [hz_71]; exact (Int32.ofInt_add _ _).symm) (by decide) rfl (fun ls hlv => ?_)
                    refine lv_goto (tgt := 29) hx hb dX12_round_160 (by decide) ?_
                    exact ih29 q3 z_71 H locs ls (by omega) (by first | exact hl29_0 | omega) (by omega) (by omega) (by omega)  (hP.sub [0, 1, 2] rfl) (hD.sub [0, 1, 2] (by decide) rfl) hS (lv_sub hlv [0, 3, 4, 5, 6] rfl)
def vs_m_minute : List Cond := .code yX12_minute cX12_minute 5 none :: (([.fieldLink RX12 23 "KerbSplashModel" "b" "[I", .fieldLink RX12 29 "KerbSplashModel" "s" "[I"] : List Cond) ++ ((wsX120) ++ ((wsV RX12 283 RX12 yX12_drains vs_m_drains) ++ ((wsV RX12 297 RX12 yX12_drainTold vs_m_drainTold0) ++ ((wsV RX12 297 RX12 yX12_drainTold vs_m_drainTold1) ++ ((va_wsS RX12 289 yX12_at vs_m_at) ++ ((wsV RX12 297 RX12 yX12_drainTold vs_m_drainTold2) ++ ((wsV RX12 294 RX12 yX12_leavesOf vs_m_leavesOf) ++ ((wsV RX12 309 RX12 yX12_round vs_m_round) ++ ([]))))))))))
theorem gd_m_minute : vs_m_minute.all goodWord = true := gd_C (by decide +kernel) (gd_A (by decide +kernel) (gd_A (by decide +kernel) (gd_A (gd_V gd_m_drains (by decide +kernel)) (gd_A (gd_V gd_m_drainTold0 (by decide +kernel)) (gd_A (gd_V gd_m_drainTold1 (by decide +kernel)) (gd_A (gd_S gd_m_at (by decide +kernel)) (gd_A (gd_V gd_m_drainTold2 (by decide +kernel)) (gd_A (gd_V gd_m_leavesOf (by decide +kernel)) (gd_A (gd_V gd_m_round (by decide +kernel)) rfl)))))))))
set_option maxHeartbeats 4000000 in
set_option maxRecDepth 100000 in
theorem m_minute (l : Launch) (hl : l.stackTraces = false) (D : va_G) (cy : Nat → ClassId) (sa : Nat → Nat) (mm m1 m9 m10 m11 m12 m13 m14 m15 m19 m20 m21 m23 m24 m25 m26 m27 m28 m33 m35 : Nat) (th tp sz_ ap bad bk opn fp im nr nl sp_ wtc wcl ir ip shu sfa swr : Int) (f10 f12 : Nat → Int32) (n : Int) (qs : Nat → Int) (pm : Int) (sz : Nat) (hr_th : (-2147483648) ≤ th ∧ th ≤ 2147483647) (hr_tp : 0 ≤ tp ∧ tp ≤ 600) (hr_sz_ : 0 ≤ sz_ ∧ sz_ ≤ 600) (hr_ap : 0 ≤ ap ∧ ap ≤ 602) (hr_bad : (-1) ≤ bad ∧ bad ≤ 602) (hr_bk : 0 ≤ bk ∧ bk ≤ 4) (hr_opn : 0 ≤ opn ∧ opn ≤ 7) (hr_fp : (-2147483648) ≤ fp ∧ fp ≤ 2147483647) (hr_im : 0 ≤ im ∧ im ≤ 3) (hr_nr : 0 ≤ nr ∧ nr ≤ 4) (hr_nl : 0 ≤ nl ∧ nl ≤ 4) (hr_sp_ : 0 ≤ sp_ ∧ sp_ ≤ 602) (hr_wtc : (-2147483648) ≤ wtc ∧ wtc ≤ 2147483647) (hr_wcl : 0 ≤ wcl ∧ wcl ≤ 95) (hr_ir : 0 ≤ ir ∧ ir ≤ 5) (hr_ip : (-2147483648) ≤ ip ∧ ip ≤ 2147483647) (hr_shu : (-2147483648) ≤ shu ∧ shu ≤ 2147483647) (hr_sfa : (-2147483648) ≤ sfa ∧ sfa ≤ 2147483647) (hr_swr : (-2147483648) ≤ swr ∧ swr ≤ 2147483647) (hr_n : (-2147483648) ≤ n ∧ n ≤ 2147483647) (hr_pm : 8 ≤ pm ∧ pm ≤ 9) (hp0 : nz f12 388 < 600) (hf10 : BI f10) (hf12 : SQ qs pm f12) : mV9 l yX12_minute vs_m_minute ({ frames := 3, cells := 0, slots := 0, locals := 71 }) D cy sa sz [vR mm, vI n] [zO mm 12 [vI th, vR m1, vI tp, vI sz_, vI ap, vI bad, vI bk, vI opn, vI fp, vR m9, vR m10, vR m11, vR m12, vR m13, vR m14, vR m15, vI im, vI nr, vI nl, vR m19, vR m20, vR m21, vI sp_, vR m23, vR m24, vR m25, vR m26, vR m27, vR m28, vI wtc, vI wcl, vI ir, vI ip, vR m33, vI shu, vR m35, vI sfa, vI swr], zI m10 (cy 0) 68 f10, zI m12 (cy 0) 389 f12] (fun u : SV => (nz (u.2.2 0) 388 = nz f12 388 + 1) ∧ BI f10 ∧ SQ qs pm (u.2.2 0)) (fun u : SV => [zO mm 12 [vI th, vR m1, vI tp, vI sz_, vI ap, vI bad, vI bk, vI opn, vI fp, vR m9, vR m10, vR m11, vR m12, vR m13, vR m14, vR m15, vI im, vI nr, vI nl, vR m19, vR m20, vR m21, vI sp_, vR m23, vR m24, vR m25, vR m26, vR m27, vR m28, vI wtc, vI wcl, vI ir, vI ip, vR m33, vI shu, vR m35, vI sfa, vI swr], zI m10 (cy 0) 68 f10, zI m12 (cy 0) 389 (u.2.2 0)]) 0 0 := by
  refine Met.ofW (cc := cX12_minute) (maxL := 5) (ret := none) (by decide) rfl ?_
  intro p e s m args below meth c s₁ B hml hv
  obtain ⟨rfl, hsz, hP, hG, hD0, hT⟩ := hv
  have hx := B.exec
  have hb := B.bytes
  have hr := B.returns
  have hts := atoms_spec (ws := vs_m_minute) B.pre
  have hown : s.vm.findClass RX12 = some m.cls := findClass_of_methodNamed B.named
  have hlocks := B.notSynchronized
  subst hsz
  have hD := hD0.self (sz := s.heap.size)
  generalize hAe : va_A [zO mm 12 [vI th, vR m1, vI tp, vI sz_, vI ap, vI bad, vI bk, vI opn, vI fp, vR m9, vR m10, vR m11, vR m12, vR m13, vR m14, vR m15, vI im, vI nr, vI nl, vR m19, vR m20, vR m21, vI sp_, vR m23, vR m24, vR m25, vR m26, vR m27, vR m28, vI wtc, vI wcl, vI ir, vI ip, vR m33, vI shu, vR m35, vI sfa, vI swr], zI m10 (cy 0) 68 f10, zI m12 (cy 0) 389 f12] s.heap.size = A at hD hT ⊢
  have hA : ∀ q : Nat, s.heap.size ≤ q → A q := fun q h => by rw [← hAe]; exact Or.inr h
  have hS : va_S A s.heap s.heap [] := va_S.rf
  have hl0 := lv_entry ([vR mm, vI n]) (n := 5) (Nat.le_of_ble_eq_true rfl)
  rw [lg_entry_eq]
  generalize (lg_sl ([vR mm, vI n]) ++ List.replicate (5 - (lg_sl ([vR mm, vI n])).length) Slot.unset).toArray = ls at hl0 ⊢
  have hlv : lv_has ls 5 [(0, vR mm), (1, vI n)] := hl0
  have lf23 := hts (.fieldLink RX12 23 "KerbSplashModel" "b" "[I") (List.mem_of_getElem? (i := 1) rfl)
  have hi12 : ∀ w ∈ wsX120, w ∈ vs_m_minute := fun w h => List.mem_cons_of_mem _ (List.mem_append_right _ (List.mem_append_left _ h))
  have lf29 := hts (.fieldLink RX12 29 "KerbSplashModel" "s" "[I") (List.mem_of_getElem? (i := 2) rfl)
  have gg_1 : GoodIn vs_m_minute (wsV RX12 283 RX12 yX12_drains vs_m_drains) := goodIn_sub (fun w h => List.mem_cons_of_mem _ (List.mem_append_right _ (List.mem_append_right _ (List.mem_append_left _ h)))) (gd_V gd_m_drains (by decide +kernel))
  have gg_2 : GoodIn vs_m_minute (wsV RX12 297 RX12 yX12_drainTold vs_m_drainTold0) := goodIn_sub (fun w h => List.mem_cons_of_mem _ (List.mem_append_right _ (List.mem_append_right _ (List.mem_append_right _ (List.mem_append_left _ h))))) (gd_V gd_m_drainTold0 (by decide +kernel))
  have gg_3 : GoodIn vs_m_minute (wsV RX12 297 RX12 yX12_drainTold vs_m_drainTold1) := goodIn_sub (fun w h => List.mem_cons_of_mem _ (List.mem_append_right _ (List.mem_append_right _ (List.mem_append_right _ (List.mem_append_right _ (List.mem_append_left _ h)))))) (gd_V gd_m_drainTold1 (by decide +kernel))
  have gg_4 : GoodIn vs_m_minute (va_wsS RX12 289 yX12_at vs_m_at) := goodIn_sub (fun w h => List.mem_cons_of_mem _ (List.mem_append_right _ (List.mem_append_right _ (List.mem_append_right _ (List.mem_append_right _ (List.mem_append_right _ (List.mem_append_left _ h))))))) (gd_S gd_m_at (by decide +kernel))
  have gg_5 : GoodIn vs_m_minute (wsV RX12 297 RX12 yX12_drainTold vs_m_drainTold2) := goodIn_sub (fun w h => List.mem_cons_of_mem _ (List.mem_append_right _ (List.mem_append_right _ (List.mem_append_right _ (List.mem_append_right _ (List.mem_append_right _ (List.mem_append_right _ (List.mem_append_left _ h)))))))) (gd_V gd_m_drainTold2 (by decide +kernel))
  have gg_6 : GoodIn vs_m_minute (wsV RX12 294 RX12 yX12_leavesOf vs_m_leavesOf) := goodIn_sub (fun w h => List.mem_cons_of_mem _ (List.mem_append_right _ (List.mem_append_right _ (List.mem_append_right _ (List.mem_append_right _ (List.mem_append_right _ (List.mem_append_right _ (List.mem_append_right _ (List.mem_append_left _ h))))))))) (gd_V gd_m_leavesOf (by decide +kernel))
  have gg_7 : GoodIn vs_m_minute (wsV RX12 309 RX12 yX12_round vs_m_round) := goodIn_sub (fun w h => List.mem_cons_of_mem _ (List.mem_append_right _ (List.mem_append_right _ (List.mem_append_right _ (List.mem_append_right _ (List.mem_append_right _ (List.mem_append_right _ (List.mem_append_right _ (List.mem_append_right _ (List.mem_append_left _ h)))))))))) (gd_V gd_m_round (by decide +kernel))
  refine lv_iconst (v := iI 0) hx hb dX12_minute_0 (by decide) ?_
  refine lv_istore_n (lv' := [(2, vI 0), (0, vR mm), (1, vI n)]) hx hb dX12_minute_1 rfl hlv (by decide) rfl (fun ls hlv => ?_)
  refine (?_ : ∀ (fu : Nat) (q2 : Int) (wg : Nat → Int32) (H : Heap) (locs : List Loc) (ls : Array Slot), 6 - q2 < (fu : Int) → (0 ≤ q2 ∧ q2 ≤ 6) → (nz wg 388 = nz f12 388) → SQ qs pm wg → va_P D vwCl [zO mm 12 [vI th, vR m1, vI tp, vI sz_, vI ap, vI bad, vI bk, vI opn, vI fp, vR m9, vR m10, vR m11, vR m12, vR m13, vR m14, vR m15, vI im, vI nr, vI nl, vR m19, vR m20, vR m21, vI sp_, vR m23, vR m24, vR m25, vR m26, vR m27, vR m28, vI wtc, vI wcl, vI ir, vI ip, vR m33, vI shu, vR m35, vI sfa, vI swr], zI m10 (cy 0) 68 f10, zI m12 (cy 0) 389 wg] H → va_D A [zO mm 12 [vI th, vR m1, vI tp, vI sz_, vI ap, vI bad, vI bk, vI opn, vI fp, vR m9, vR m10, vR m11, vR m12, vR m13, vR m14, vR m15, vI im, vI nr, vI nl, vR m19, vR m20, vR m21, vI sp_, vR m23, vR m24, vR m25, vR m26, vR m27, vR m28, vI wtc, vI wcl, vI ir, vI ip, vR m33, vI shu, vR m35, vI sfa, vI swr], zI m10 (cy 0) 68 f10, zI m12 (cy 0) 389 wg] → va_S A s.heap H locs → lv_has ls 5 [(2, vI q2), (0, vR mm), (1, vI n)] → W p l e _ s m _ below meth c H locs _ _ _ (F0 m 2 ls [])) (((6 - 0) + 1 : Int)).toNat 0 f12 _ _ _ (by omega) (by show (0 : Int) ≤ 0 ∧ (0 : Int) ≤ 6; decide) (by omega) hf12 hP hD hS hlv
  clear hP hD hS hlv
  intro fu
  induction fu with
  | zero => intro q2 wg H locs ls hm2 hl2_0 hl2_1 hiwg hP hD hS hlv; omega
  | succ fu ih2 =>
    intro q2 wg H locs ls hm2 hl2_0 hl2_1 hiwg hP hD hS hlv
    refine lv_iload_n hx hb dX12_minute_2 rfl (lv_at hlv 0 rfl) ?_
    refine lv_aload_n hx hb dX12_minute_3 rfl (lv_at hlv 1 rfl) ?_
    refine va_get (D := D) (ci := 12) (v := vR m10) (C := RX12) (T := TX12) (N := 38) hx hb hts hi12 hown hG.1 hP 0 rfl rfl 10 (by decide) lf23 (fun _ h9 => h9) rfl dX12_minute_4 ?_
    refine lv_iconst (v := iI 1) hx hb dX12_minute_7 (by decide) ?_
    refine va_iald hx hb hG.1 hP 1 0 rfl rfl (iI_in (by omega) (by decide)) dX12_minute_8 ?_
    refine lt_nz (i := 1) (by omega) (fun z_1 hz_1 lz_1 uz_1 => ?_)
    have hz_1 : z_1 = nz f10 1 := hz_1
    have hbz_1_7 := hf10.1.2.1
    have hbz_1_8 := hf10.2.1
    have hbz_1_9 := hf10.2.2
    refine ir_ge (tgt := 53) hx hb dX12_minute_9 (by decide) (by first | exact rgw hl2_0 (by decide) (by decide) | omega) (by omega) (fun c_2 => ?_) (fun c_2 => ?_)
    · refine lv_aload_n hx hb dX12_minute_53 rfl (lv_at hlv 1 rfl) ?_
      refine va_get (D := D) (ci := 12) (v := vR m12) (C := RX12) (T := TX12) (N := 38) hx hb hts hi12 hown hG.1 hP 0 rfl rfl 12 (by decide) lf29 (fun _ h9 => h9) rfl dX12_minute_54 ?_
      refine lv_sipush (v := iI 385) hx hb dX12_minute_57 (by decide) ?_
      refine lv_dup2_11 hx hb dX12_minute_60 rfl rfl ?_
      refine va_iald hx hb hG.1 hP 2 0 rfl rfl (iI_in (by omega) (by decide)) dX12_minute_61 ?_
      refine lt_nz (i := 385) (by omega) (fun z_3 hz_3 lz_3 uz_3 => ?_)
      have hz_3 : z_3 = nz wg 385 := hz_3
      refine lv_iload_n hx hb dX12_minute_62 rfl (lv_at hlv 2 rfl) ?_
      refine lv_aload_n hx hb dX12_minute_63 rfl (lv_at hlv 1 rfl) ?_
      refine va_get (D := D) (ci := 12) (v := vR m10) (C := RX12) (T := TX12) (N := 38) hx hb hts hi12 hown hG.1 hP 0 rfl rfl 10 (by decide) lf23 (fun _ h9 => h9) rfl dX12_minute_64 ?_
      refine lv_iconst (v := iI 0) hx hb dX12_minute_67 (by decide) ?_
      refine va_iald hx hb hG.1 hP 1 0 rfl rfl (iI_in (by omega) (by decide)) dX12_minute_68 ?_
      refine lt_nz (i := 0) (by omega) (fun z_4 hz_4 lz_4 uz_4 => ?_)
      have hz_4 : z_4 = nz f10 0 := hz_4
      have hbz_4_14 := hf10.1.1
      have hbz_4_15 := hf10.2.1
      have hbz_4_16 := hf10.2.2
      refine lv_imul hx hb dX12_minute_69 ?_
      refine lt_z (fun z_5 ez_5 lz_5 hz_5 => ?_)
      refine lv_aload_n hx hb dX12_minute_70 rfl (lv_at hlv 1 rfl) ?_
      refine va_get (D := D) (ci := 12) (v := vR m10) (C := RX12) (T := TX12) (N := 38) hx hb hts hi12 hown hG.1 hP 0 rfl rfl 10 (by decide) lf23 (fun _ h9 => h9) rfl dX12_minute_71 ?_
      refine lv_iconst (v := iI 1) hx hb dX12_minute_74 (by decide) ?_
      refine va_iald hx hb hG.1 hP 1 0 rfl rfl (iI_in (by omega) (by decide)) dX12_minute_75 ?_
      refine lt_nz (i := 1) (by omega) (fun z_6 hz_6 lz_6 uz_6 => ?_)
      have hz_6 : z_6 = nz f10 1 := hz_6
      have hbz_6_25 := hf10.1.2.1
      have hbz_6_26 := hf10.2.1
      have hbz_6_27 := hf10.2.2
      refine lv_imul hx hb dX12_minute_76 ?_
      refine lt_z (fun z_7 ez_7 lz_7 hz_7 => ?_)
      refine lv_iadd hx hb dX12_minute_77 ?_
      refine lt_z (fun z_8 ez_8 lz_8 hz_8 => ?_)
      refine va_iast hx hb hG.1 hP hD hS 2 0 rfl rfl (iI_in (by omega) (by decide)) dX12_minute_78 (fun H locs hP hD hS => ?_)
      obtain ⟨f_9, hdf_9, hP, hD⟩ := pe9e (fun f_9 => [zO mm 12 [vI th, vR m1, vI tp, vI sz_, vI ap, vI bad, vI bk, vI opn, vI fp, vR m9, vR m10, vR m11, vR m12, vR m13, vR m14, vR m15, vI im, vI nr, vI nl, vR m19, vR m20, vR m21, vI sp_, vR m23, vR m24, vR m25, vR m26, vR m27, vR m28, vI wtc, vI wcl, vI ir, vI ip, vR m33, vI shu, vR m35, vI sfa, vI swr], zI m10 (cy 0) 68 f10, zI m12 (cy 0) 389 f_9]) (upd wg (iI 385).toNatClampNeg (iI z_8)) hP hD
      have hif_9 : SQ qs pm f_9 := ⟨SI.wo (hiwg.1) hdf_9 (by omega) (by omega) (by omega) (by omega), (SQ.fr hiwg.2 hdf_9 (by omega) (by omega))⟩
      have htf_9_388 : nz f_9 388 = nz wg 388 := nz_un hdf_9 (by omega) (by omega)
      have htf_9_206 : nz f_9 206 = nz wg 206 := nz_un hdf_9 (by omega) (by omega)
      have htf_9_215 : nz f_9 215 = nz wg 215 := nz_un hdf_9 (by omega) (by omega)
      refine lv_iconst (v := iI 0) hx hb dX12_minute_79 (by decide) ?_
      refine lv_istore_n (lv' := [(2, vI 0), (0, vR mm), (1, vI n)]) hx hb dX12_minute_80 rfl hlv (by decide) rfl (fun ls hlv => ?_)
      refine (?_ : ∀ (fu : Nat) (r2 : Int) (wi_ : Nat → Int32) (H : Heap) (locs : List Loc) (ls : Array Slot), 8 - r2 < (fu : Int) → (0 ≤ r2 ∧ r2 ≤ 8) → (nz wi_ 388 = nz f12 388) → SQ qs pm wi_ → va_P D vwCl [zO mm 12 [vI th, vR m1, vI tp, vI sz_, vI ap, vI bad, vI bk, vI opn, vI fp, vR m9, vR m10, vR m11, vR m12, vR m13, vR m14, vR m15, vI im, vI nr, vI nl, vR m19, vR m20, vR m21, vI sp_, vR m23, vR m24, vR m25, vR m26, vR m27, vR m28, vI wtc, vI wcl, vI ir, vI ip, vR m33, vI shu, vR m35, vI sfa, vI swr], zI m10 (cy 0) 68 f10, zI m12 (cy 0) 389 wi_] H → va_D A [zO mm 12 [vI th, vR m1, vI tp, vI sz_, vI ap, vI bad, vI bk, vI opn, vI fp, vR m9, vR m10, vR m11, vR m12, vR m13, vR m14, vR m15, vI im, vI nr, vI nl, vR m19, vR m20, vR m21, vI sp_, vR m23, vR m24, vR m25, vR m26, vR m27, vR m28, vI wtc, vI wcl, vI ir, vI ip, vR m33, vI shu, vR m35, vI sfa, vI swr], zI m10 (cy 0) 68 f10, zI m12 (cy 0) 389 wi_] → va_S A s.heap H locs → lv_has ls 5 [(2, vI r2), (0, vR mm), (1, vI n)] → W p l e _ s m _ below meth c H locs _ _ _ (F0 m 81 ls [])) (((8 - 0) + 1 : Int)).toNat 0 f_9 _ _ _ (by omega) (by show (0 : Int) ≤ 0 ∧ (0 : Int) ≤ 8; decide) (by omega) hif_9 hP hD hS hlv
      clear hP hD hS hlv
      intro fu
      induction fu with
      | zero => intro r2 wi_ H locs ls hm81 hl81_0 hl81_1 hiwi_ hP hD hS hlv; omega
      | succ fu ih81 =>
        intro r2 wi_ H locs ls hm81 hl81_0 hl81_1 hiwi_ hP hD hS hlv
        refine lv_iload_n hx hb dX12_minute_81 rfl (lv_at hlv 0 rfl) ?_
        refine lv_bipush (v := iI 8) hx hb dX12_minute_82 (by decide) ?_
        refine ir_ge (tgt := 97) hx hb dX12_minute_84 (by decide) (by first | exact rgw hl81_0 (by decide) (by decide) | omega) (by show ((-2147483648) : Int) ≤ 8 ∧ (8 : Int) ≤ 2147483647; decide) (fun c_10 => ?_) (fun c_10 => ?_)
        · refine lv_iconst (v := iI 0) hx hb dX12_minute_97 (by decide) ?_
          refine lv_istore_n (lv' := [(2, vI 0), (0, vR mm), (1, vI n)]) hx hb dX12_minute_98 rfl hlv (by decide) rfl (fun ls hlv => ?_)
          refine (?_ : ∀ (fu : Nat) (t2 : Int) (wj : Nat → Int32) (H : Heap) (locs : List Loc) (ls : Array Slot), 14 - t2 < (fu : Int) → (0 ≤ t2 ∧ t2 ≤ 14) → (nz wj 388 = nz f12 388) → SQ qs pm wj → va_P D vwCl [zO mm 12 [vI th, vR m1, vI tp, vI sz_, vI ap, vI bad, vI bk, vI opn, vI fp, vR m9, vR m10, vR m11, vR m12, vR m13, vR m14, vR m15, vI im, vI nr, vI nl, vR m19, vR m20, vR m21, vI sp_, vR m23, vR m24, vR m25, vR m26, vR m27, vR m28, vI wtc, vI wcl, vI ir, vI ip, vR m33, vI shu, vR m35, vI sfa, vI swr], zI m10 (cy 0) 68 f10, zI m12 (cy 0) 389 wj] H → va_D A [zO mm 12 [vI th, vR m1, vI tp, vI sz_, vI ap, vI bad, vI bk, vI opn, vI fp, vR m9, vR m10, vR m11, vR m12, vR m13, vR m14, vR m15, vI im, vI nr, vI nl, vR m19, vR m20, vR m21, vI sp_, vR m23, vR m24, vR m25, vR m26, vR m27, vR m28, vI wtc, vI wcl, vI ir, vI ip, vR m33, vI shu, vR m35, vI sfa, vI swr], zI m10 (cy 0) 68 f10, zI m12 (cy 0) 389 wj] → va_S A s.heap H locs → lv_has ls 5 [(2, vI t2), (0, vR mm), (1, vI n)] → W p l e _ s m _ below meth c H locs _ _ _ (F0 m 99 ls [])) (((14 - 0) + 1 : Int)).toNat 0 wi_ _ _ _ (by omega) (by show (0 : Int) ≤ 0 ∧ (0 : Int) ≤ 14; decide) (by omega) hiwi_ hP hD hS hlv
          clear hP hD hS hlv
          intro fu
          induction fu with
          | zero => intro t2 wj H locs ls hm99 hl99_0 hl99_1 hiwj hP hD hS hlv; omega
          | succ fu ih99 =>
            intro t2 wj H locs ls hm99 hl99_0 hl99_1 hiwj hP hD hS hlv
            refine lv_iload_n hx hb dX12_minute_99 rfl (lv_at hlv 0 rfl) ?_
            refine lv_aload_n hx hb dX12_minute_100 rfl (lv_at hlv 1 rfl) ?_
            refine cjr_i [false, false, false] (fun pre9 => (va_runV (As := []) (rest := [vI t2]) ⟨hx, hb, hml, hown, hts⟩ (m_drains l hl D cy sa mm m1 m9 m10 m11 m12 m13 m14 m15 m19 m20 m21 m23 m24 m25 m26 m27 m28 m33 m35 th tp sz_ ap bad bk opn fp im nr nl sp_ wtc wcl ir ip shu sfa swr f10 wj pm H.size (by first | exact hr_th | omega) (by first | exact hr_tp | omega) (by first | exact hr_sz_ | omega) (by first | exact hr_ap | omega) (by first | exact hr_bad | omega) (by first | exact hr_bk | omega) (by first | exact hr_opn | omega) (by first | exact hr_fp | omega) (by first | exact hr_im | omega) (by first | exact hr_nr | omega) (by first | exact hr_nl | omega) (by first | exact hr_sp_ | omega) (by first | exact hr_wtc | omega) (by first | exact hr_wcl | omega) (by first | exact hr_ir | omega) (by first | exact hr_ip | omega) (by first | exact hr_shu | omega) (by first | exact hr_sfa | omega) (by first | exact hr_swr | omega) (by first | exact hr_pm | omega) hf10 (hiwj.1)) (cwV 0 hts gg_1 rfl rfl rfl (by decide +kernel) ⟨Nat.le_of_ble_eq_true rfl, Nat.le_of_ble_eq_true rfl⟩) ⟨pcW.blind, (va_recv hG.1 hP (ci := 12) (q0 := 0) rfl rfl), pre9⟩ rfl rfl hlv.1 rfl (lv_room (Nat.le_of_ble_eq_true rfl)) dX12_minute_101 ⟨Nat.le_of_ble_eq_true rfl, Nat.le_of_ble_eq_true rfl⟩)) hP hD hS hA hG hT [0, 1, 2] rfl (by decide +kernel) (fun r1 u1 H locs hw1 hq9 hS => ?_)
            obtain ⟨rfl, hq1_1, hq1_2, hq1_3, hq1_4⟩ := hw1
            obtain ⟨hP, hD⟩ := pd9 [zO mm 12 [vI th, vR m1, vI tp, vI sz_, vI ap, vI bad, vI bk, vI opn, vI fp, vR m9, vR m10, vR m11, vR m12, vR m13, vR m14, vR m15, vI im, vI nr, vI nl, vR m19, vR m20, vR m21, vI sp_, vR m23, vR m24, vR m25, vR m26, vR m27, vR m28, vI wtc, vI wcl, vI ir, vI ip, vR m33, vI shu, vR m35, vI sfa, vI swr], zI m10 (cy 0) 68 f10, zI m12 (cy 0) 389 wj] hq9
            refine ir_ge (tgt := 200) hx hb dX12_minute_104 (by decide) (by first | exact rgw hl99_0 (by decide) (by decide) | omega) (by first | exact rgw hq1_1 (by decide) (by decide) | omega) (fun c_11 => ?_) (fun c_11 => ?_)
            · refine lv_aload_n hx hb dX12_minute_200 rfl (lv_at hlv 1 rfl) ?_
              refine va_get (D := D) (ci := 12) (v := vR m12) (C := RX12) (T := TX12) (N := 38) hx hb hts hi12 hown hG.1 hP 0 rfl rfl 12 (by decide) lf29 (fun _ h9 => h9) rfl dX12_minute_201 ?_
              refine lv_sipush (v := iI 388) hx hb dX12_minute_204 (by decide) ?_
              refine lv_dup2_11 hx hb dX12_minute_207 rfl rfl ?_
              refine va_iald hx hb hG.1 hP 2 0 rfl rfl (iI_in (by omega) (by decide)) dX12_minute_208 ?_
              refine lt_nz (i := 388) (by omega) (fun z_12 hz_12 lz_12 uz_12 => ?_)
              have hz_12 : z_12 = nz wj 388 := hz_12
              have hbz_12_7 := (hiwj.1).2.2.2.2.2.2
              refine lv_iconst (v := iI 1) hx hb dX12_minute_209 (by decide) ?_
              refine lv_iadd hx hb dX12_minute_210 ?_
              refine lt_e (e0 := z_12 + 1) (Int32.ofInt_add _ _).symm (fun z_13 hz_13 => ?_)
              refine va_iast hx hb hG.1 hP hD hS 2 0 rfl rfl (iI_in (by omega) (by decide)) dX12_minute_211 (fun H locs hP hD hS => ?_)
              obtain ⟨f_14, hdf_14, hP, hD⟩ := pe9e (fun f_14 => [zO mm 12 [vI th, vR m1, vI tp, vI sz_, vI ap, vI bad, vI bk, vI opn, vI fp, vR m9, vR m10, vR m11, vR m12, vR m13, vR m14, vR m15, vI im, vI nr, vI nl, vR m19, vR m20, vR m21, vI sp_, vR m23, vR m24, vR m25, vR m26, vR m27, vR m28, vI wtc, vI wcl, vI ir, vI ip, vR m33, vI shu, vR m35, vI sfa, vI swr], zI m10 (cy 0) 68 f10, zI m12 (cy 0) 389 f_14]) (upd wj (iI 388).toNatClampNeg (iI z_13)) hP hD
              have hif_14 : SQ qs pm f_14 := ⟨SI.wk (pm := pm) (hiwj.1) hdf_14 (by omega) (by omega), (SQ.fr hiwj.2 hdf_14 (by omega) (by omega))⟩
              have htf_14_388 : nz f_14 388 = z_13 := nz_us hdf_14 (by omega) (by omega) (by omega)
              have htf_14_206 : nz f_14 206 = nz wj 206 := nz_un hdf_14 (by omega) (by omega)
              have htf_14_215 : nz f_14 215 = nz wj 215 := nz_un hdf_14 (by omega) (by omega)
              refine W.widen (k := 0) (n := 0) (Nat.le_of_ble_eq_true rfl) (Nat.le_of_ble_eq_true rfl) ?_
              exact W.vret hx hb hr (fun t ht hW => ⟨⟨((fun k => ([] : List Nat).getD k 0), (fun k => ([] : List Int).getD k 0), (fun k => ([f_14] : List (Nat → Int32)).getD k (fun _ => 0))), rfl, ⟨(by show (nz (f_14) 388 = nz f12 388 + 1); omega), hq1_3, hif_14⟩, at9 ht hP hD [0, 1, 2] (by decide +kernel) rfl⟩, hS.F ht⟩) hS.2.2 dX12_minute_212
            · refine lv_bipush (v := iI 96) hx hb dX12_minute_107 (by decide) ?_
              refine lv_aload_n hx hb dX12_minute_109 rfl (lv_at hlv 1 rfl) ?_
              refine lv_iload_n hx hb dX12_minute_110 rfl (lv_at hlv 0 rfl) ?_
              refine lv_iconst (v := iI 0) hx hb dX12_minute_111 (by decide) ?_
              refine cjr_i [false, false, false] (fun pre9 => (va_runV (As := [vI t2, vI 0]) (rest := [vI 96]) ⟨hx, hb, hml, hown, hts⟩ (m_drainTold0 l hl D cy sa mm m1 m9 m10 m11 m12 m13 m14 m15 m19 m20 m21 m23 m24 m25 m26 m27 m28 m33 m35 th tp sz_ ap bad bk opn fp im nr nl sp_ wtc wcl ir ip shu sfa swr f10 wj t2 pm H.size (by first | exact hr_th | omega) (by first | exact hr_tp | omega) (by first | exact hr_sz_ | omega) (by first | exact hr_ap | omega) (by first | exact hr_bad | omega) (by first | exact hr_bk | omega) (by first | exact hr_opn | omega) (by first | exact hr_fp | omega) (by first | exact hr_im | omega) (by first | exact hr_nr | omega) (by first | exact hr_nl | omega) (by first | exact hr_sp_ | omega) (by first | exact hr_wtc | omega) (by first | exact hr_wcl | omega) (by first | exact hr_ir | omega) (by first | exact hr_ip | omega) (by first | exact hr_shu | omega) (by first | exact hr_sfa | omega) (by first | exact hr_swr | omega) (by omega) (by first | exact hr_pm | omega) (by omega) hq1_3 (hiwj.1)) (cwV 2 hts gg_2 rfl rfl rfl (by decide +kernel) ⟨Nat.le_of_ble_eq_true rfl, Nat.le_of_ble_eq_true rfl⟩) ⟨pcW.blind, (va_recv hG.1 hP (ci := 12) (q0 := 0) rfl rfl), pre9⟩ rfl rfl hlv.1 rfl (lv_room (Nat.le_of_ble_eq_true rfl)) dX12_minute_112 ⟨Nat.le_of_ble_eq_true rfl, Nat.le_of_ble_eq_true rfl⟩)) hP hD hS hA hG hT [0, 1, 2] rfl (by decide +kernel) (fun r2 u2 H locs hw2 hq9 hS => ?_)
              obtain ⟨rfl, hq2_1, hq2_2, hq2_3⟩ := hw2
              obtain ⟨hP, hD⟩ := pd9 [zO mm 12 [vI th, vR m1, vI tp, vI sz_, vI ap, vI bad, vI bk, vI opn, vI fp, vR m9, vR m10, vR m11, vR m12, vR m13, vR m14, vR m15, vI im, vI nr, vI nl, vR m19, vR m20, vR m21, vI sp_, vR m23, vR m24, vR m25, vR m26, vR m27, vR m28, vI wtc, vI wcl, vI ir, vI ip, vR m33, vI shu, vR m35, vI sfa, vI swr], zI m10 (cy 0) 68 f10, zI m12 (cy 0) 389 wj] hq9
              refine lv_aload_n hx hb dX12_minute_115 rfl (lv_at hlv 1 rfl) ?_
              refine lv_iload_n hx hb dX12_minute_116 rfl (lv_at hlv 0 rfl) ?_
              refine lv_iconst (v := iI 1) hx hb dX12_minute_117 (by decide) ?_
              refine cjr_i [false, false, false] (fun pre9 => (va_runV (As := [vI t2, vI 1]) (rest := [vI (u2.2.1 0), vI 96]) ⟨hx, hb, hml, hown, hts⟩ (m_drainTold1 l hl D cy sa mm m1 m9 m10 m11 m12 m13 m14 m15 m19 m20 m21 m23 m24 m25 m26 m27 m28 m33 m35 th tp sz_ ap bad bk opn fp im nr nl sp_ wtc wcl ir ip shu sfa swr f10 wj t2 pm H.size (by first | exact hr_th | omega) (by first | exact hr_tp | omega) (by first | exact hr_sz_ | omega) (by first | exact hr_ap | omega) (by first | exact hr_bad | omega) (by first | exact hr_bk | omega) (by first | exact hr_opn | omega) (by first | exact hr_fp | omega) (by first | exact hr_im | omega) (by first | exact hr_nr | omega) (by first | exact hr_nl | omega) (by first | exact hr_sp_ | omega) (by first | exact hr_wtc | omega) (by first | exact hr_wcl | omega) (by first | exact hr_ir | omega) (by first | exact hr_ip | omega) (by first | exact hr_shu | omega) (by first | exact hr_sfa | omega) (by first | exact hr_swr | omega) (by omega) (by first | exact hr_pm | omega) (by omega) hq2_2 (hiwj.1)) (cwV 2 hts gg_3 rfl rfl rfl (by decide +kernel) ⟨Nat.le_of_ble_eq_true rfl, Nat.le_of_ble_eq_true rfl⟩) ⟨pcW.blind, (va_recv hG.1 hP (ci := 12) (q0 := 0) rfl rfl), pre9⟩ rfl rfl hlv.1 rfl (lv_room (Nat.le_of_ble_eq_true rfl)) dX12_minute_118 ⟨Nat.le_of_ble_eq_true rfl, Nat.le_of_ble_eq_true rfl⟩)) hP hD hS hA hG hT [0, 1, 2] rfl (by decide +kernel) (fun r3 u3 H locs hw3 hq9 hS => ?_)
              obtain ⟨rfl, hq3_1, hq3_2, hq3_3⟩ := hw3
              obtain ⟨hP, hD⟩ := pd9 [zO mm 12 [vI th, vR m1, vI tp, vI sz_, vI ap, vI bad, vI bk, vI opn, vI fp, vR m9, vR m10, vR m11, vR m12, vR m13, vR m14, vR m15, vI im, vI nr, vI nl, vR m19, vR m20, vR m21, vI sp_, vR m23, vR m24, vR m25, vR m26, vR m27, vR m28, vI wtc, vI wcl, vI ir, vI ip, vR m33, vI shu, vR m35, vI sfa, vI swr], zI m10 (cy 0) 68 f10, zI m12 (cy 0) 389 wj] hq9
              refine cjr_i [true, true, true] (fun pre9 => (va_runS (As := [vI (u2.2.1 0), vI (u3.2.1 0)]) (rest := [vI 96]) ⟨hx, hb, hml, hown, hts⟩ (m_at l hl D cy sa (u2.2.1 0) (u3.2.1 0) H.size (by first | exact hq2_1 | omega) (by first | exact hq3_1 | omega)) (va_cwS 2 hts gg_4 rfl rfl rfl (by decide +kernel) ⟨Nat.le_of_ble_eq_true rfl, Nat.le_of_ble_eq_true rfl⟩) ⟨pcW.blind, pre9⟩ rfl rfl hlv.1 rfl (lv_room (Nat.le_of_ble_eq_true rfl)) dX12_minute_121 ⟨Nat.le_of_ble_eq_true rfl, Nat.le_of_ble_eq_true rfl⟩)) hP hD hS hA hG hT [] rfl (by decide +kernel) (fun r4 u4 H locs hw4 hq9 hS => ?_)
              obtain ⟨rfl, hq4_1, hq4_2⟩ := hw4
              obtain ⟨hP, hD⟩ := pd9 [zO mm 12 [vI th, vR m1, vI tp, vI sz_, vI ap, vI bad, vI bk, vI opn, vI fp, vR m9, vR m10, vR m11, vR m12, vR m13, vR m14, vR m15, vI im, vI nr, vI nl, vR m19, vR m20, vR m21, vI sp_, vR m23, vR m24, vR m25, vR m26, vR m27, vR m28, vI wtc, vI wcl, vI ir, vI ip, vR m33, vI shu, vR m35, vI sfa, vI swr], zI m10 (cy 0) 68 f10, zI m12 (cy 0) 389 wj] hq9
              refine lv_iadd hx hb dX12_minute_124 ?_
              refine lt_e (e0 := 96 + (u4.2.1 0)) (Int32.ofInt_add _ _).symm (fun z_15 hz_15 => ?_)
              refine lv_istore_n (lv' := [(3, vI z_15), (2, vI t2), (0, vR mm), (1, vI n)]) hx hb dX12_minute_125 rfl hlv (by decide) rfl (fun ls hlv => ?_)
              refine lv_aload_n hx hb dX12_minute_126 rfl (lv_at hlv 2 rfl) ?_
              refine lv_iload_n hx hb dX12_minute_127 rfl (lv_at hlv 1 rfl) ?_
              refine lv_iconst (v := iI 2) hx hb dX12_minute_128 (by decide) ?_
              refine cjr_i [false, false, false] (fun pre9 => (va_runV (As := [vI t2, vI 2]) (rest := []) ⟨hx, hb, hml, hown, hts⟩ (m_drainTold2 l hl D cy sa mm m1 m9 m10 m11 m12 m13 m14 m15 m19 m20 m21 m23 m24 m25 m26 m27 m28 m33 m35 th tp sz_ ap bad bk opn fp im nr nl sp_ wtc wcl ir ip shu sfa swr f10 wj t2 pm H.size (by first | exact hr_th | omega) (by first | exact hr_tp | omega) (by first | exact hr_sz_ | omega) (by first | exact hr_ap | omega) (by first | exact hr_bad | omega) (by first | exact hr_bk | omega) (by first | exact hr_opn | omega) (by first | exact hr_fp | omega) (by first | exact hr_im | omega) (by first | exact hr_nr | omega) (by first | exact hr_nl | omega) (by first | exact hr_sp_ | omega) (by first | exact hr_wtc | omega) (by first | exact hr_wcl | omega) (by first | exact hr_ir | omega) (by first | exact hr_ip | omega) (by first | exact hr_shu | omega) (by first | exact hr_sfa | omega) (by first | exact hr_swr | omega) (by omega) (by first | exact hr_pm | omega) (by omega) hq3_2 (hiwj.1)) (cwV 2 hts gg_5 rfl rfl rfl (by decide +kernel) ⟨Nat.le_of_ble_eq_true rfl, Nat.le_of_ble_eq_true rfl⟩) ⟨pcW.blind, (va_recv hG.1 hP (ci := 12) (q0 := 0) rfl rfl), pre9⟩ rfl rfl hlv.1 rfl (lv_room (Nat.le_of_ble_eq_true rfl)) dX12_minute_129 ⟨Nat.le_of_ble_eq_true rfl, Nat.le_of_ble_eq_true rfl⟩)) hP hD hS hA hG hT [0, 1, 2] rfl (by decide +kernel) (fun r5 u5 H locs hw5 hq9 hS => ?_)
              obtain ⟨rfl, hq5_1, hq5_2, hq5_3⟩ := hw5
              obtain ⟨hP, hD⟩ := pd9 [zO mm 12 [vI th, vR m1, vI tp, vI sz_, vI ap, vI bad, vI bk, vI opn, vI fp, vR m9, vR m10, vR m11, vR m12, vR m13, vR m14, vR m15, vI im, vI nr, vI nl, vR m19, vR m20, vR m21, vI sp_, vR m23, vR m24, vR m25, vR m26, vR m27, vR m28, vI wtc, vI wcl, vI ir, vI ip, vR m33, vI shu, vR m35, vI sfa, vI swr], zI m10 (cy 0) 68 f10, zI m12 (cy 0) 389 wj] hq9
              refine lv_bipush (v := iI 16) hx hb dX12_minute_132 (by decide) ?_
              refine lv_aload_n hx hb dX12_minute_134 rfl (lv_at hlv 2 rfl) ?_
              refine lv_iload_n hx hb dX12_minute_135 rfl (lv_at hlv 1 rfl) ?_
              refine cjr_i [false, false, false] (fun pre9 => (va_runV (As := [vI t2]) (rest := [vI 16, vI (u5.2.1 0)]) ⟨hx, hb, hml, hown, hts⟩ (m_leavesOf l hl D cy sa mm m1 m9 m10 m11 m12 m13 m14 m15 m19 m20 m21 m23 m24 m25 m26 m27 m28 m33 m35 th tp sz_ ap bad bk opn fp im nr nl sp_ wtc wcl ir ip shu sfa swr f10 wj t2 pm H.size (by first | exact hr_th | omega) (by first | exact hr_tp | omega) (by first | exact hr_sz_ | omega) (by first | exact hr_ap | omega) (by first | exact hr_bad | omega) (by first | exact hr_bk | omega) (by first | exact hr_opn | omega) (by first | exact hr_fp | omega) (by first | exact hr_im | omega) (by first | exact hr_nr | omega) (by first | exact hr_nl | omega) (by first | exact hr_sp_ | omega) (by first | exact hr_wtc | omega) (by first | exact hr_wcl | omega) (by first | exact hr_ir | omega) (by first | exact hr_ip | omega) (by first | exact hr_shu | omega) (by first | exact hr_sfa | omega) (by first | exact hr_swr | omega) (by omega) (by first | exact hr_pm | omega) hq5_2 (hiwj.1)) (cwV 1 hts gg_6 rfl rfl rfl (by decide +kernel) ⟨Nat.le_of_ble_eq_true rfl, Nat.le_of_ble_eq_true rfl⟩) ⟨pcW.blind, (va_recv hG.1 hP (ci := 12) (q0 := 0) rfl rfl), pre9⟩ rfl rfl hlv.1 rfl (lv_room (Nat.le_of_ble_eq_true rfl)) dX12_minute_136 ⟨Nat.le_of_ble_eq_true rfl, Nat.le_of_ble_eq_true rfl⟩)) hP hD hS hA hG hT [0, 1, 2] rfl (by decide +kernel) (fun r6 u6 H locs hw6 hq9 hS => ?_)
              obtain ⟨rfl, hq6_1, hq6_2, hq6_3⟩ := hw6
              obtain ⟨hP, hD⟩ := pd9 [zO mm 12 [vI th, vR m1, vI tp, vI sz_, vI ap, vI bad, vI bk, vI opn, vI fp, vR m9, vR m10, vR m11, vR m12, vR m13, vR m14, vR m15, vI im, vI nr, vI nl, vR m19, vR m20, vR m21, vI sp_, vR m23, vR m24, vR m25, vR m26, vR m27, vR m28, vI wtc, vI wcl, vI ir, vI ip, vR m33, vI shu, vR m35, vI sfa, vI swr], zI m10 (cy 0) 68 f10, zI m12 (cy 0) 389 wj] hq9
              refine lv_isub hx hb dX12_minute_139 ?_
              refine lt_z (fun z_16 ez_16 lz_16 hz_16 => ?_)
              refine lv_imul hx hb dX12_minute_140 ?_
              refine lt_z (fun z_17 ez_17 lz_17 hz_17 => ?_)
              refine lv_bipush (v := iI 16) hx hb dX12_minute_141 (by decide) ?_
              refine lv_idiv hx hb dX12_minute_143 (fun q => absurd ((iI_eq (a := 16) (b := 0) (by omega) (by omega)).mp q) (by omega)) ?_
              refine lt_z (fun z_18 ez_18 lz_18 hz_18 => ?_)
              refine lv_istore (lv' := [(4, vI z_18), (3, vI z_15), (2, vI t2), (0, vR mm), (1, vI n)]) hx hb dX12_minute_144 hlv (by decide) rfl (fun ls hlv => ?_)
              refine lv_iload hx hb dX12_minute_146 (lv_at hlv 0 rfl) ?_
              refine lv_aload_n hx hb dX12_minute_148 rfl (lv_at hlv 3 rfl) ?_
              refine va_get (D := D) (ci := 12) (v := vR m12) (C := RX12) (T := TX12) (N := 38) hx hb hts hi12 hown hG.1 hP 0 rfl rfl 12 (by decide) lf29 (fun _ h9 => h9) rfl dX12_minute_149 ?_
              refine lv_iload_n hx hb dX12_minute_152 rfl (lv_at hlv 1 rfl) ?_
              refine va_iald hx hb hG.1 hP 2 0 rfl rfl (iI_in (by omega) (by decide)) dX12_minute_153 ?_
              refine lt_nz (i := z_15) (by omega) (fun z_19 hz_19 lz_19 uz_19 => ?_)
              refine ir_ge (tgt := 162) hx hb dX12_minute_154 (by decide) (by omega) (by omega) (fun c_20 => ?_) (fun c_20 => ?_)
              · refine lv_aload_n hx hb dX12_minute_162 rfl (lv_at hlv 3 rfl) ?_
                refine va_get (D := D) (ci := 12) (v := vR m12) (C := RX12) (T := TX12) (N := 38) hx hb hts hi12 hown hG.1 hP 0 rfl rfl 12 (by decide) lf29 (fun _ h9 => h9) rfl dX12_minute_163 ?_
                refine lv_iload_n hx hb dX12_minute_166 rfl (lv_at hlv 1 rfl) ?_
                refine va_iald hx hb hG.1 hP 2 0 rfl rfl (iI_in (by omega) (by decide)) dX12_minute_167 ?_
                refine lt_nz (i := z_15) (by omega) (fun z_21 hz_21 lz_21 uz_21 => ?_)
                refine lv_istore (lv' := [(4, vI z_21), (3, vI z_15), (2, vI t2), (0, vR mm), (1, vI n)]) hx hb dX12_minute_168 hlv (by decide) rfl (fun ls hlv => ?_)
                refine lv_aload_n hx hb dX12_minute_170 rfl (lv_at hlv 3 rfl) ?_
                refine va_get (D := D) (ci := 12) (v := vR m12) (C := RX12) (T := TX12) (N := 38) hx hb hts hi12 hown hG.1 hP 0 rfl rfl 12 (by decide) lf29 (fun _ h9 => h9) rfl dX12_minute_171 ?_
                refine lv_iload_n hx hb dX12_minute_174 rfl (lv_at hlv 1 rfl) ?_
                refine lv_dup2_11 hx hb dX12_minute_175 rfl rfl ?_
                refine va_iald hx hb hG.1 hP 2 0 rfl rfl (iI_in (by omega) (by decide)) dX12_minute_176 ?_
                refine lt_nz (i := z_15) (by omega) (fun z_22 hz_22 lz_22 uz_22 => ?_)
                refine lv_iload hx hb dX12_minute_177 (lv_at hlv 0 rfl) ?_
                refine lv_isub hx hb dX12_minute_179 ?_
                refine lt_z (fun z_23 ez_23 lz_23 hz_23 => ?_)
                refine va_iast hx hb hG.1 hP hD hS 2 0 rfl rfl (iI_in (by omega) (by decide)) dX12_minute_180 (fun H locs hP hD hS => ?_)
                obtain ⟨f_24, hdf_24, hP, hD⟩ := pe9e (fun f_24 => [zO mm 12 [vI th, vR m1, vI tp, vI sz_, vI ap, vI bad, vI bk, vI opn, vI fp, vR m9, vR m10, vR m11, vR m12, vR m13, vR m14, vR m15, vI im, vI nr, vI nl, vR m19, vR m20, vR m21, vI sp_, vR m23, vR m24, vR m25, vR m26, vR m27, vR m28, vI wtc, vI wcl, vI ir, vI ip, vR m33, vI shu, vR m35, vI sfa, vI swr], zI m10 (cy 0) 68 f10, zI m12 (cy 0) 389 f_24]) (upd wj (iI z_15).toNatClampNeg (iI z_23)) hP hD
                have hif_24 : SQ qs pm f_24 := ⟨SI.wo (hiwj.1) hdf_24 (by omega) (by omega) (by omega) (by omega), (SQ.fr hiwj.2 hdf_24 (by omega) (by omega))⟩
                have htf_24_388 : nz f_24 388 = nz wj 388 := nz_un hdf_24 (by omega) (by omega)
                have htf_24_206 : nz f_24 206 = nz wj 206 := nz_un hdf_24 (by omega) (by omega)
                have htf_24_215 : nz f_24 215 = nz wj 215 := nz_un hdf_24 (by omega) (by omega)
                refine lv_aload_n hx hb dX12_minute_181 rfl (lv_at hlv 3 rfl) ?_
                refine va_get (D := D) (ci := 12) (v := vR m12) (C := RX12) (T := TX12) (N := 38) hx hb hts hi12 hown hG.1 hP 0 rfl rfl 12 (by decide) lf29 (fun _ h9 => h9) rfl dX12_minute_182 ?_
                refine lv_sipush (v := iI 386) hx hb dX12_minute_185 (by decide) ?_
                refine lv_dup2_11 hx hb dX12_minute_188 rfl rfl ?_
                refine va_iald hx hb hG.1 hP 2 0 rfl rfl (iI_in (by omega) (by decide)) dX12_minute_189 ?_
                refine lt_nz (i := 386) (by omega) (fun z_25 hz_25 lz_25 uz_25 => ?_)
                have hz_25 : z_25 = nz f_24 386 := hz_25
                refine lv_iload hx hb dX12_minute_190 (lv_at hlv 0 rfl) ?_
                refine lv_iadd hx hb dX12_minute_192 ?_
                refine lt_z (fun z_26 ez_26 lz_26 hz_26 => ?_)
                refine va_iast hx hb hG.1 hP hD hS 2 0 rfl rfl (iI_in (by omega) (by decide)) dX12_minute_193 (fun H locs hP hD hS => ?_)
                obtain ⟨f_27, hdf_27, hP, hD⟩ := pe9e (fun f_27 => [zO mm 12 [vI th, vR m1, vI tp, vI sz_, vI ap, vI bad, vI bk, vI opn, vI fp, vR m9, vR m10, vR m11, vR m12, vR m13, vR m14, vR m15, vI im, vI nr, vI nl, vR m19, vR m20, vR m21, vI sp_, vR m23, vR m24, vR m25, vR m26, vR m27, vR m28, vI wtc, vI wcl, vI ir, vI ip, vR m33, vI shu, vR m35, vI sfa, vI swr], zI m10 (cy 0) 68 f10, zI m12 (cy 0) 389 f_27]) (upd f_24 (iI 386).toNatClampNeg (iI z_26)) hP hD
                have hif_27 : SQ qs pm f_27 := ⟨SI.wo (hif_24.1) hdf_27 (by omega) (by omega) (by omega) (by omega), (SQ.fr hif_24.2 hdf_27 (by omega) (by omega))⟩
                have htf_27_388 : nz f_27 388 = nz f_24 388 := nz_un hdf_27 (by omega) (by omega)
                have htf_27_206 : nz f_27 206 = nz f_24 206 := nz_un hdf_27 (by omega) (by omega)
                have htf_27_215 : nz f_27 215 = nz f_24 215 := nz_un hdf_27 (by omega) (by omega)
                obtain ⟨z_28, hz_28⟩ : ∃ z : Int, z = t2 + 1 := ⟨_, rfl⟩
                refine lv_iinc (v := iI z_28) (lv' := [(2, vI z_28), (4, vI z_21), (3, vI z_15), (0, vR mm), (1, vI n)]) hx hb dX12_minute_194 hlv (k := 2) rfl (by rw [hz_28]; exact (Int32.ofInt_add _ _).symm) (by decide) rfl (fun ls hlv => ?_)
                refine lv_goto (tgt := 99) hx hb dX12_minute_197 (by decide) ?_
                exact ih99 z_28 f_27 H locs ls (by omega) (by omega) (by omega) hif_27 (hP.sub [0, 1, 2] rfl) (hD.sub [0, 1, 2] (by decide) rfl) hS (lv_sub hlv [0, 3, 4] rfl)
              · refine lv_iload hx hb dX12_minute_157 (lv_at hlv 0 rfl) ?_
                refine lv_goto (tgt := 168) hx hb dX12_minute_159 (by decide) ?_
                refine lv_istore (lv' := [(4, vI z_18), (3, vI z_15), (2, vI t2), (0, vR mm), (1, vI n)]) hx hb dX12_minute_168 hlv (by decide) rfl (fun ls hlv => ?_)
                refine lv_aload_n hx hb dX12_minute_170 rfl (lv_at hlv 3 rfl) ?_
                refine va_get (D := D) (ci := 12) (v := vR m12) (C := RX12) (T := TX12) (N := 38) hx hb hts hi12 hown hG.1 hP 0 rfl rfl 12 (by decide) lf29 (fun _ h9 => h9) rfl dX12_minute_171 ?_
                refine lv_iload_n hx hb dX12_minute_174 rfl (lv_at hlv 1 rfl) ?_
                refine lv_dup2_11 hx hb dX12_minute_175 rfl rfl ?_
                refine va_iald hx hb hG.1 hP 2 0 rfl rfl (iI_in (by omega) (by decide)) dX12_minute_176 ?_
                refine lt_nz (i := z_15) (by omega) (fun z_29 hz_29 lz_29 uz_29 => ?_)
                refine lv_iload hx hb dX12_minute_177 (lv_at hlv 0 rfl) ?_
                refine lv_isub hx hb dX12_minute_179 ?_
                refine lt_z (fun z_30 ez_30 lz_30 hz_30 => ?_)
                refine va_iast hx hb hG.1 hP hD hS 2 0 rfl rfl (iI_in (by omega) (by decide)) dX12_minute_180 (fun H locs hP hD hS => ?_)
                obtain ⟨f_31, hdf_31, hP, hD⟩ := pe9e (fun f_31 => [zO mm 12 [vI th, vR m1, vI tp, vI sz_, vI ap, vI bad, vI bk, vI opn, vI fp, vR m9, vR m10, vR m11, vR m12, vR m13, vR m14, vR m15, vI im, vI nr, vI nl, vR m19, vR m20, vR m21, vI sp_, vR m23, vR m24, vR m25, vR m26, vR m27, vR m28, vI wtc, vI wcl, vI ir, vI ip, vR m33, vI shu, vR m35, vI sfa, vI swr], zI m10 (cy 0) 68 f10, zI m12 (cy 0) 389 f_31]) (upd wj (iI z_15).toNatClampNeg (iI z_30)) hP hD
                have hif_31 : SQ qs pm f_31 := ⟨SI.wo (hiwj.1) hdf_31 (by omega) (by omega) (by omega) (by omega), (SQ.fr hiwj.2 hdf_31 (by omega) (by omega))⟩
                have htf_31_388 : nz f_31 388 = nz wj 388 := nz_un hdf_31 (by omega) (by omega)
                have htf_31_206 : nz f_31 206 = nz wj 206 := nz_un hdf_31 (by omega) (by omega)
                have htf_31_215 : nz f_31 215 = nz wj 215 := nz_un hdf_31 (by omega) (by omega)
                refine lv_aload_n hx hb dX12_minute_181 rfl (lv_at hlv 3 rfl) ?_
                refine va_get (D := D) (ci := 12) (v := vR m12) (C := RX12) (T := TX12) (N := 38) hx hb hts hi12 hown hG.1 hP 0 rfl rfl 12 (by decide) lf29 (fun _ h9 => h9) rfl dX12_minute_182 ?_
                refine lv_sipush (v := iI 386) hx hb dX12_minute_185 (by decide) ?_
                refine lv_dup2_11 hx hb dX12_minute_188 rfl rfl ?_
                refine va_iald hx hb hG.1 hP 2 0 rfl rfl (iI_in (by omega) (by decide)) dX12_minute_189 ?_
                refine lt_nz (i := 386) (by omega) (fun z_32 hz_32 lz_32 uz_32 => ?_)
                have hz_32 : z_32 = nz f_31 386 := hz_32
                refine lv_iload hx hb dX12_minute_190 (lv_at hlv 0 rfl) ?_
                refine lv_iadd hx hb dX12_minute_192 ?_
                refine lt_z (fun z_33 ez_33 lz_33 hz_33 => ?_)
                refine va_iast hx hb hG.1 hP hD hS 2 0 rfl rfl (iI_in (by omega) (by decide)) dX12_minute_193 (fun H locs hP hD hS => ?_)
                obtain ⟨f_34, hdf_34, hP, hD⟩ := pe9e (fun f_34 => [zO mm 12 [vI th, vR m1, vI tp, vI sz_, vI ap, vI bad, vI bk, vI opn, vI fp, vR m9, vR m10, vR m11, vR m12, vR m13, vR m14, vR m15, vI im, vI nr, vI nl, vR m19, vR m20, vR m21, vI sp_, vR m23, vR m24, vR m25, vR m26, vR m27, vR m28, vI wtc, vI wcl, vI ir, vI ip, vR m33, vI shu, vR m35, vI sfa, vI swr], zI m10 (cy 0) 68 f10, zI m12 (cy 0) 389 f_34]) (upd f_31 (iI 386).toNatClampNeg (iI z_33)) hP hD
                have hif_34 : SQ qs pm f_34 := ⟨SI.wo (hif_31.1) hdf_34 (by omega) (by omega) (by omega) (by omega), (SQ.fr hif_31.2 hdf_34 (by omega) (by omega))⟩
                have htf_34_388 : nz f_34 388 = nz f_31 388 := nz_un hdf_34 (by omega) (by omega)
                have htf_34_206 : nz f_34 206 = nz f_31 206 := nz_un hdf_34 (by omega) (by omega)
                have htf_34_215 : nz f_34 215 = nz f_31 215 := nz_un hdf_34 (by omega) (by omega)
                obtain ⟨z_35, hz_35⟩ : ∃ z : Int, z = t2 + 1 := ⟨_, rfl⟩
                refine lv_iinc (v := iI z_35) (lv' := [(2, vI z_35), (4, vI z_18), (3, vI z_15), (0, vR mm), (1, vI n)]) hx hb dX12_minute_194 hlv (k := 2) rfl (by rw [hz_35]; exact (Int32.ofInt_add _ _).symm) (by decide) rfl (fun ls hlv => ?_)
                refine lv_goto (tgt := 99) hx hb dX12_minute_197 (by decide) ?_
                exact ih99 z_35 f_34 H locs ls (by omega) (by omega) (by omega) hif_34 (hP.sub [0, 1, 2] rfl) (hD.sub [0, 1, 2] (by decide) rfl) hS (lv_sub hlv [0, 3, 4] rfl)
        · refine lv_aload_n hx hb dX12_minute_87 rfl (lv_at hlv 1 rfl) ?_
          refine cjr_v [false, false, false] (fun pre9 => (va_runV (As := []) (rest := []) ⟨hx, hb, hml, hown, hts⟩ (m_round l hl D cy sa mm m1 m9 m10 m11 m12 m13 m14 m15 m19 m20 m21 m23 m24 m25 m26 m27 m28 m33 m35 th tp sz_ ap bad bk opn fp im nr nl sp_ wtc wcl ir ip shu sfa swr f10 wi_ qs pm H.size (by first | exact hr_th | omega) (by first | exact hr_tp | omega) (by first | exact hr_sz_ | omega) (by first | exact hr_ap | omega) (by first | exact hr_bad | omega) (by first | exact hr_bk | omega) (by first | exact hr_opn | omega) (by first | exact hr_fp | omega) (by first | exact hr_im | omega) (by first | exact hr_nr | omega) (by first | exact hr_nl | omega) (by first | exact hr_sp_ | omega) (by first | exact hr_wtc | omega) (by first | exact hr_wcl | omega) (by first | exact hr_ir | omega) (by first | exact hr_ip | omega) (by first | exact hr_shu | omega) (by first | exact hr_sfa | omega) (by first | exact hr_swr | omega) (by first | exact hr_pm | omega) hf10 hiwi_) (cwV 0 hts gg_7 rfl rfl rfl (by decide +kernel) ⟨Nat.le_of_ble_eq_true rfl, Nat.le_of_ble_eq_true rfl⟩) ⟨pcW.blind, (va_recv hG.1 hP (ci := 12) (q0 := 0) rfl rfl), pre9⟩ rfl rfl hlv.1 rfl (lv_room (Nat.le_of_ble_eq_true rfl)) dX12_minute_88 ⟨Nat.le_of_ble_eq_true rfl, Nat.le_of_ble_eq_true rfl⟩)) hP hD hS hA hG hT [0, 1, 2] rfl (by decide +kernel) (fun u7 H locs hw7 hq9 hS => ?_)
          obtain ⟨hq7_0, hq7_1, hq7_2⟩ := hw7
          obtain ⟨hP, hD⟩ := pd9 [zO mm 12 [vI th, vR m1, vI tp, vI sz_, vI ap, vI bad, vI bk, vI opn, vI fp, vR m9, vR m10, vR m11, vR m12, vR m13, vR m14, vR m15, vI im, vI nr, vI nl, vR m19, vR m20, vR m21, vI sp_, vR m23, vR m24, vR m25, vR m26, vR m27, vR m28, vI wtc, vI wcl, vI ir, vI ip, vR m33, vI shu, vR m35, vI sfa, vI swr], zI m10 (cy 0) 68 f10, zI m12 (cy 0) 389 (u7.2.2 0)] hq9
          obtain ⟨z_36, hz_36⟩ : ∃ z : Int, z = r2 + 1 := ⟨_, rfl⟩
          refine lv_iinc (v := iI z_36) (lv' := [(2, vI z_36), (0, vR mm), (1, vI n)]) hx hb dX12_minute_91 hlv (k := 0) rfl (by rw [hz_36]; exact (Int32.ofInt_add _ _).symm) (by decide) rfl (fun ls hlv => ?_)
          refine lv_goto (tgt := 81) hx hb dX12_minute_94 (by decide) ?_
          exact ih81 z_36 (u7.2.2 0) H locs ls (by omega) (by omega) (by omega) hq7_2 (hP.sub [0, 1, 2] rfl) (hD.sub [0, 1, 2] (by decide) rfl) hS (lv_sub hlv [0, 1, 2] rfl)
    · refine lv_iconst (v := iI 0) hx hb dX12_minute_12 (by decide) ?_
      refine lv_istore_n (lv' := [(3, vI 0), (2, vI q2), (0, vR mm), (1, vI n)]) hx hb dX12_minute_13 rfl hlv (by decide) rfl (fun ls hlv => ?_)
      refine (?_ : ∀ (fu : Nat) (q3 : Int) (wh : Nat → Int32) (H : Heap) (locs : List Loc) (ls : Array Slot), 16 - q3 < (fu : Int) → (0 ≤ q3 ∧ q3 ≤ 16) → (nz wh 388 = nz f12 388) → SQ qs pm wh → va_P D vwCl [zO mm 12 [vI th, vR m1, vI tp, vI sz_, vI ap, vI bad, vI bk, vI opn, vI fp, vR m9, vR m10, vR m11, vR m12, vR m13, vR m14, vR m15, vI im, vI nr, vI nl, vR m19, vR m20, vR m21, vI sp_, vR m23, vR m24, vR m25, vR m26, vR m27, vR m28, vI wtc, vI wcl, vI ir, vI ip, vR m33, vI shu, vR m35, vI sfa, vI swr], zI m10 (cy 0) 68 f10, zI m12 (cy 0) 389 wh] H → va_D A [zO mm 12 [vI th, vR m1, vI tp, vI sz_, vI ap, vI bad, vI bk, vI opn, vI fp, vR m9, vR m10, vR m11, vR m12, vR m13, vR m14, vR m15, vI im, vI nr, vI nl, vR m19, vR m20, vR m21, vI sp_, vR m23, vR m24, vR m25, vR m26, vR m27, vR m28, vI wtc, vI wcl, vI ir, vI ip, vR m33, vI shu, vR m35, vI sfa, vI swr], zI m10 (cy 0) 68 f10, zI m12 (cy 0) 389 wh] → va_S A s.heap H locs → lv_has ls 5 [(3, vI q3), (2, vI q2), (0, vR mm), (1, vI n)] → W p l e _ s m _ below meth c H locs _ _ _ (F0 m 14 ls [])) (((16 - 0) + 1 : Int)).toNat 0 wg _ _ _ (by omega) (by show (0 : Int) ≤ 0 ∧ (0 : Int) ≤ 16; decide) (by omega) hiwg hP hD hS hlv
      clear hP hD hS hlv
      intro fu
      induction fu with
      | zero => intro q3 wh H locs ls hm14 hl14_0 hl14_1 hiwh hP hD hS hlv; omega
      | succ fu ih14 =>
        intro q3 wh H locs ls hm14 hl14_0 hl14_1 hiwh hP hD hS hlv
        refine lv_iload_n hx hb dX12_minute_14 rfl (lv_at hlv 0 rfl) ?_
        refine lv_aload_n hx hb dX12_minute_15 rfl (lv_at hlv 2 rfl) ?_
        refine va_get (D := D) (ci := 12) (v := vR m10) (C := RX12) (T := TX12) (N := 38) hx hb hts hi12 hown hG.1 hP 0 rfl rfl 10 (by decide) lf23 (fun _ h9 => h9) rfl dX12_minute_16 ?_
        refine lv_iconst (v := iI 0) hx hb dX12_minute_19 (by decide) ?_
        refine va_iald hx hb hG.1 hP 1 0 rfl rfl (iI_in (by omega) (by decide)) dX12_minute_20 ?_
        refine lt_nz (i := 0) (by omega) (fun z_37 hz_37 lz_37 uz_37 => ?_)
        have hz_37 : z_37 = nz f10 0 := hz_37
        have hbz_37_7 := hf10.1.1
        have hbz_37_8 := hf10.2.1
        have hbz_37_9 := hf10.2.2
        refine ir_ge (tgt := 47) hx hb dX12_minute_21 (by decide) (by first | exact rgw hl14_0 (by decide) (by decide) | omega) (by omega) (fun c_38 => ?_) (fun c_38 => ?_)
        · obtain ⟨z_39, hz_39⟩ : ∃ z : Int, z = q2 + 1 := ⟨_, rfl⟩
          refine lv_iinc (v := iI z_39) (lv' := [(2, vI z_39), (3, vI q3), (0, vR mm), (1, vI n)]) hx hb dX12_minute_47 hlv (k := 1) rfl (by rw [hz_39]; exact (Int32.ofInt_add _ _).symm) (by decide) rfl (fun ls hlv => ?_)
          refine lv_goto (tgt := 2) hx hb dX12_minute_50 (by decide) ?_
          exact ih2 z_39 wh H locs ls (by omega) (by omega) (by omega) hiwh (hP.sub [0, 1, 2] rfl) (hD.sub [0, 1, 2] (by decide) rfl) hS (lv_sub hlv [0, 2, 3] rfl)
        · refine lv_aload_n hx hb dX12_minute_24 rfl (lv_at hlv 2 rfl) ?_
          refine va_get (D := D) (ci := 12) (v := vR m12) (C := RX12) (T := TX12) (N := 38) hx hb hts hi12 hown hG.1 hP 0 rfl rfl 12 (by decide) lf29 (fun _ h9 => h9) rfl dX12_minute_25 ?_
          refine lv_bipush (v := iI 96) hx hb dX12_minute_28 (by decide) ?_
          refine lv_iload_n hx hb dX12_minute_30 rfl (lv_at hlv 0 rfl) ?_
          refine lv_iload_n hx hb dX12_minute_31 rfl (lv_at hlv 1 rfl) ?_
          refine cjr_i [true, true, true] (fun pre9 => (va_runS (As := [vI q3, vI q2]) (rest := [vI 96, vR m12]) ⟨hx, hb, hml, hown, hts⟩ (m_at l hl D cy sa q3 q2 H.size (by omega) (by omega)) (va_cwS 2 hts gg_4 rfl rfl rfl (by decide +kernel) ⟨Nat.le_of_ble_eq_true rfl, Nat.le_of_ble_eq_true rfl⟩) ⟨pcW.blind, pre9⟩ rfl rfl hlv.1 rfl (lv_room (Nat.le_of_ble_eq_true rfl)) dX12_minute_32 ⟨Nat.le_of_ble_eq_true rfl, Nat.le_of_ble_eq_true rfl⟩)) hP hD hS hA hG hT [] rfl (by decide +kernel) (fun r8 u8 H locs hw8 hq9 hS => ?_)
          obtain ⟨rfl, hq8_1, hq8_2⟩ := hw8
          obtain ⟨hP, hD⟩ := pd9 [zO mm 12 [vI th, vR m1, vI tp, vI sz_, vI ap, vI bad, vI bk, vI opn, vI fp, vR m9, vR m10, vR m11, vR m12, vR m13, vR m14, vR m15, vI im, vI nr, vI nl, vR m19, vR m20, vR m21, vI sp_, vR m23, vR m24, vR m25, vR m26, vR m27, vR m28, vI wtc, vI wcl, vI ir, vI ip, vR m33, vI shu, vR m35, vI sfa, vI swr], zI m10 (cy 0) 68 f10, zI m12 (cy 0) 389 wh] hq9
          refine lv_iadd hx hb dX12_minute_35 ?_
          refine lt_e (e0 := 96 + (u8.2.1 0)) (Int32.ofInt_add _ _).symm (fun z_40 hz_40 => ?_)
          refine lv_dup2_11 hx hb dX12_minute_36 rfl rfl ?_
          refine va_iald hx hb hG.1 hP 2 0 rfl rfl (iI_in (by omega) (by decide)) dX12_minute_37 ?_
          refine lt_nz (i := z_40) (by omega) (fun z_41 hz_41 lz_41 uz_41 => ?_)
          refine lv_iload_n hx hb dX12_minute_38 rfl (lv_at hlv 3 rfl) ?_
          refine lv_iadd hx hb dX12_minute_39 ?_
          refine lt_z (fun z_42 ez_42 lz_42 hz_42 => ?_)
          refine va_iast hx hb hG.1 hP hD hS 2 0 rfl rfl (iI_in (by omega) (by decide)) dX12_minute_40 (fun H locs hP hD hS => ?_)
          obtain ⟨f_43, hdf_43, hP, hD⟩ := pe9e (fun f_43 => [zO mm 12 [vI th, vR m1, vI tp, vI sz_, vI ap, vI bad, vI bk, vI opn, vI fp, vR m9, vR m10, vR m11, vR m12, vR m13, vR m14, vR m15, vI im, vI nr, vI nl, vR m19, vR m20, vR m21, vI sp_, vR m23, vR m24, vR m25, vR m26, vR m27, vR m28, vI wtc, vI wcl, vI ir, vI ip, vR m33, vI shu, vR m35, vI sfa, vI swr], zI m10 (cy 0) 68 f10, zI m12 (cy 0) 389 f_43]) (upd wh (iI z_40).toNatClampNeg (iI z_42)) hP hD
          have hif_43 : SQ qs pm f_43 := ⟨SI.wo (hiwh.1) hdf_43 (by omega) (by omega) (by omega) (by omega), (SQ.fr hiwh.2 hdf_43 (by omega) (by omega))⟩
          have htf_43_388 : nz f_43 388 = nz wh 388 := nz_un hdf_43 (by omega) (by omega)
          have htf_43_206 : nz f_43 206 = nz wh 206 := nz_un hdf_43 (by omega) (by omega)
          have htf_43_215 : nz f_43 215 = nz wh 215 := nz_un hdf_43 (by omega) (by omega)
          obtain ⟨z_44, hz_44⟩ : ∃ z : Int, z = q3 + 1 := ⟨_, rfl⟩
          refine lv_iinc (v := iI z_44) (lv' := [(3, vI z_44), (2, vI q2), (0, vR mm), (1, vI n)]) hx hb dX12_minute_41 hlv (k := 0) rfl (by rw [hz_44]; exact (Int32.ofInt_add _ _).symm) (by decide) rfl (fun ls hlv => ?_)
          refine lv_goto (tgt := 14) hx hb dX12_minute_44 (by decide) ?_
          exact ih14 z_44 f_43 H locs ls (by omega) (by omega) (by omega) hif_43 (hP.sub [0, 1, 2] rfl) (hD.sub [0, 1, 2] (by decide) rfl) hS (lv_sub hlv [0, 1, 2, 3] rfl)
