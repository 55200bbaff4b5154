theorem dX12_mayStep_0 : decode cX12_mayStep 0 = .ok (.iconst 0, 1) := by decide +kernel
theorem dX12_mayStep_1 : decode cX12_mayStep 1 = .ok (.istore_n 2, 1) := by decide +kernel
theorem dX12_mayStep_10 : decode cX12_mayStep 10 = .ok (.iaload, 1) := by decide +kernel
theorem dX12_mayStep_11 : decode cX12_mayStep 11 = .ok (.if_icmp .ge 38, 3) := by decide +kernel
theorem dX12_mayStep_14 : decode cX12_mayStep 14 = .ok (.aload_n 0, 1) := by decide +kernel
theorem dX12_mayStep_15 : decode cX12_mayStep 15 = .ok (.getfield 29, 3) := by decide +kernel
theorem dX12_mayStep_18 : decode cX12_mayStep 18 = .ok (.sipush 216, 3) := by decide +kernel
theorem dX12_mayStep_2 : decode cX12_mayStep 2 = .ok (.iload_n 2, 1) := by decide +kernel
theorem dX12_mayStep_21 : decode cX12_mayStep 21 = .ok (.iload_n 2, 1) := by decide +kernel
theorem dX12_mayStep_22 : decode cX12_mayStep 22 = .ok (.iadd, 1) := by decide +kernel
theorem dX12_mayStep_23 : decode cX12_mayStep 23 = .ok (.iaload, 1) := by decide +kernel
theorem dX12_mayStep_24 : decode cX12_mayStep 24 = .ok (.iload_n 1, 1) := by decide +kernel
theorem dX12_mayStep_25 : decode cX12_mayStep 25 = .ok (.iadd, 1) := by decide +kernel
theorem dX12_mayStep_26 : decode cX12_mayStep 26 = .ok (.iconst 0, 1) := by decide +kernel
theorem dX12_mayStep_27 : decode cX12_mayStep 27 = .ok (.aload_n 0, 1) := by decide +kernel
theorem dX12_mayStep_28 : decode cX12_mayStep 28 = .ok (.getfield 23, 3) := by decide +kernel
theorem dX12_mayStep_3 : decode cX12_mayStep 3 = .ok (.aload_n 0, 1) := by decide +kernel
theorem dX12_mayStep_31 : decode cX12_mayStep 31 = .ok (.iconst 0, 1) := by decide +kernel
theorem dX12_mayStep_32 : decode cX12_mayStep 32 = .ok (.iaload, 1) := by decide +kernel
theorem dX12_mayStep_33 : decode cX12_mayStep 33 = .ok (.iconst 1, 1) := by decide +kernel
theorem dX12_mayStep_34 : decode cX12_mayStep 34 = .ok (.isub, 1) := by decide +kernel
theorem dX12_mayStep_35 : decode cX12_mayStep 35 = .ok (.invokestatic 279, 3) := by decide +kernel
theorem dX12_mayStep_38 : decode cX12_mayStep 38 = .ok (.ifCond .ne 5, 3) := by decide +kernel
theorem dX12_mayStep_4 : decode cX12_mayStep 4 = .ok (.getfield 29, 3) := by decide +kernel
theorem dX12_mayStep_41 : decode cX12_mayStep 41 = .ok (.iconst 0, 1) := by decide +kernel
theorem dX12_mayStep_42 : decode cX12_mayStep 42 = .ok (.ireturn, 1) := by decide +kernel
theorem dX12_mayStep_43 : decode cX12_mayStep 43 = .ok (.iinc 2 1, 3) := by decide +kernel
theorem dX12_mayStep_46 : decode cX12_mayStep 46 = .ok (.goto (-44), 3) := by decide +kernel
theorem dX12_mayStep_49 : decode cX12_mayStep 49 = .ok (.iconst 1, 1) := by decide +kernel
theorem dX12_mayStep_50 : decode cX12_mayStep 50 = .ok (.ireturn, 1) := by decide +kernel
theorem dX12_mayStep_7 : decode cX12_mayStep 7 = .ok (.sipush 215, 3) := by decide +kernel
theorem dX12_moved_0 : decode cX12_moved 0 = .ok (.aload_n 0, 1) := by decide +kernel
theorem dX12_moved_1 : decode cX12_moved 1 = .ok (.iconst 0, 1) := by decide +kernel
theorem dX12_moved_100 : decode cX12_moved 100 = .ok (.iload 5, 2) := by decide +kernel
theorem dX12_moved_102 : decode cX12_moved 102 = .ok (.iadd, 1) := by decide +kernel
theorem dX12_moved_103 : decode cX12_moved 103 = .ok (.iastore, 1) := by decide +kernel
theorem dX12_moved_104 : decode cX12_moved 104 = .ok (.iinc 6 1, 3) := by decide +kernel
theorem dX12_moved_107 : decode cX12_moved 107 = .ok (.goto (-32), 3) := by decide +kernel
theorem dX12_moved_11 : decode cX12_moved 11 = .ok (.ifCond .eq 26, 3) := by decide +kernel
theorem dX12_moved_110 : decode cX12_moved 110 = .ok (.aload_n 0, 1) := by decide +kernel
theorem dX12_moved_111 : decode cX12_moved 111 = .ok (.iload_n 1, 1) := by decide +kernel
theorem dX12_moved_112 : decode cX12_moved 112 = .ok (.invokevirtual 378, 3) := by decide +kernel
theorem dX12_moved_115 : decode cX12_moved 115 = .ok (.istore 6, 2) := by decide +kernel
theorem dX12_moved_117 : decode cX12_moved 117 = .ok (.aload_n 0, 1) := by decide +kernel
theorem dX12_moved_118 : decode cX12_moved 118 = .ok (.invokevirtual 387, 3) := by decide +kernel
theorem dX12_moved_121 : decode cX12_moved 121 = .ok (.iload_n 3, 1) := by decide +kernel
theorem dX12_moved_122 : decode cX12_moved 122 = .ok (.bipush (-99), 2) := by decide +kernel
theorem dX12_moved_124 : decode cX12_moved 124 = .ok (.if_icmp .eq 13, 3) := by decide +kernel
theorem dX12_moved_127 : decode cX12_moved 127 = .ok (.iload 6, 2) := by decide +kernel
theorem dX12_moved_129 : decode cX12_moved 129 = .ok (.iload 4, 2) := by decide +kernel
theorem dX12_moved_131 : decode cX12_moved 131 = .ok (.if_icmp .lt 6, 3) := by decide +kernel
theorem dX12_moved_134 : decode cX12_moved 134 = .ok (.goto 10, 3) := by decide +kernel
theorem dX12_moved_137 : decode cX12_moved 137 = .ok (.iload 5, 2) := by decide +kernel
theorem dX12_moved_139 : decode cX12_moved 139 = .ok (.istore_n 3, 1) := by decide +kernel
theorem dX12_moved_14 : decode cX12_moved 14 = .ok (.aload_n 0, 1) := by decide +kernel
theorem dX12_moved_140 : decode cX12_moved 140 = .ok (.iload 6, 2) := by decide +kernel
theorem dX12_moved_142 : decode cX12_moved 142 = .ok (.istore 4, 2) := by decide +kernel
theorem dX12_moved_144 : decode cX12_moved 144 = .ok (.iinc 5 1, 3) := by decide +kernel
theorem dX12_moved_147 : decode cX12_moved 147 = .ok (.goto (-94), 3) := by decide +kernel
theorem dX12_moved_15 : decode cX12_moved 15 = .ok (.iload_n 2, 1) := by decide +kernel
theorem dX12_moved_150 : decode cX12_moved 150 = .ok (.iload_n 2, 1) := by decide +kernel
theorem dX12_moved_151 : decode cX12_moved 151 = .ok (.ifCond .ne 7, 3) := by decide +kernel
theorem dX12_moved_154 : decode cX12_moved 154 = .ok (.iload_n 3, 1) := by decide +kernel
theorem dX12_moved_155 : decode cX12_moved 155 = .ok (.goto 5, 3) := by decide +kernel
theorem dX12_moved_158 : decode cX12_moved 158 = .ok (.iload 4, 2) := by decide +kernel
theorem dX12_moved_16 : decode cX12_moved 16 = .ok (.iconst 0, 1) := by decide +kernel
theorem dX12_moved_160 : decode cX12_moved 160 = .ok (.ireturn, 1) := by decide +kernel
theorem dX12_moved_17 : decode cX12_moved 17 = .ok (.iconst 1, 1) := by decide +kernel
theorem dX12_moved_18 : decode cX12_moved 18 = .ok (.invokestatic 279, 3) := by decide +kernel
theorem dX12_moved_2 : decode cX12_moved 2 = .ok (.putfield 1, 3) := by decide +kernel
theorem dX12_moved_21 : decode cX12_moved 21 = .ok (.iconst 2, 1) := by decide +kernel
theorem dX12_moved_22 : decode cX12_moved 22 = .ok (.iconst 2, 1) := by decide +kernel
theorem dX12_moved_23 : decode cX12_moved 23 = .ok (.invokevirtual 175, 3) := by decide +kernel
theorem dX12_moved_26 : decode cX12_moved 26 = .ok (.ifCond .eq 11, 3) := by decide +kernel
theorem dX12_moved_29 : decode cX12_moved 29 = .ok (.aload_n 0, 1) := by decide +kernel
theorem dX12_moved_30 : decode cX12_moved 30 = .ok (.iconst 3, 1) := by decide +kernel
theorem dX12_moved_31 : decode cX12_moved 31 = .ok (.invokevirtual 371, 3) := by decide +kernel
theorem dX12_moved_34 : decode cX12_moved 34 = .ok (.ifCond .ne 5, 3) := by decide +kernel
theorem dX12_moved_37 : decode cX12_moved 37 = .ok (.iconst 0, 1) := by decide +kernel
theorem dX12_moved_38 : decode cX12_moved 38 = .ok (.ireturn, 1) := by decide +kernel
theorem dX12_moved_39 : decode cX12_moved 39 = .ok (.aload_n 0, 1) := by decide +kernel
theorem dX12_moved_40 : decode cX12_moved 40 = .ok (.invokevirtual 381, 3) := by decide +kernel
theorem dX12_moved_43 : decode cX12_moved 43 = .ok (.bipush (-99), 2) := by decide +kernel
theorem dX12_moved_45 : decode cX12_moved 45 = .ok (.istore_n 3, 1) := by decide +kernel
theorem dX12_moved_46 : decode cX12_moved 46 = .ok (.iconst 0, 1) := by decide +kernel
theorem dX12_moved_47 : decode cX12_moved 47 = .ok (.istore 4, 2) := by decide +kernel
theorem dX12_moved_49 : decode cX12_moved 49 = .ok (.bipush (-15), 2) := by decide +kernel
theorem dX12_moved_5 : decode cX12_moved 5 = .ok (.aload_n 0, 1) := by decide +kernel
theorem dX12_moved_51 : decode cX12_moved 51 = .ok (.istore 5, 2) := by decide +kernel
theorem dX12_moved_53 : decode cX12_moved 53 = .ok (.iload 5, 2) := by decide +kernel
theorem dX12_moved_55 : decode cX12_moved 55 = .ok (.bipush 15, 2) := by decide +kernel
theorem dX12_moved_57 : decode cX12_moved 57 = .ok (.if_icmp .gt 93, 3) := by decide +kernel
theorem dX12_moved_6 : decode cX12_moved 6 = .ok (.iload_n 1, 1) := by decide +kernel
theorem dX12_moved_60 : decode cX12_moved 60 = .ok (.aload_n 0, 1) := by decide +kernel
theorem dX12_moved_61 : decode cX12_moved 61 = .ok (.iload 5, 2) := by decide +kernel
theorem dX12_moved_63 : decode cX12_moved 63 = .ok (.invokevirtual 393, 3) := by decide +kernel
theorem dX12_moved_66 : decode cX12_moved 66 = .ok (.ifCond .ne 6, 3) := by decide +kernel
theorem dX12_moved_69 : decode cX12_moved 69 = .ok (.goto 75, 3) := by decide +kernel
theorem dX12_moved_7 : decode cX12_moved 7 = .ok (.iconst 1, 1) := by decide +kernel
theorem dX12_moved_72 : decode cX12_moved 72 = .ok (.iconst 0, 1) := by decide +kernel
theorem dX12_moved_73 : decode cX12_moved 73 = .ok (.istore 6, 2) := by decide +kernel
theorem dX12_moved_75 : decode cX12_moved 75 = .ok (.iload 6, 2) := by decide +kernel
theorem dX12_moved_77 : decode cX12_moved 77 = .ok (.aload_n 0, 1) := by decide +kernel
theorem dX12_moved_78 : decode cX12_moved 78 = .ok (.getfield 29, 3) := by decide +kernel
theorem dX12_moved_8 : decode cX12_moved 8 = .ok (.invokevirtual 334, 3) := by decide +kernel
theorem dX12_moved_81 : decode cX12_moved 81 = .ok (.sipush 215, 3) := by decide +kernel
theorem dX12_moved_84 : decode cX12_moved 84 = .ok (.iaload, 1) := by decide +kernel
theorem dX12_moved_85 : decode cX12_moved 85 = .ok (.if_icmp .ge 25, 3) := by decide +kernel
theorem dX12_moved_88 : decode cX12_moved 88 = .ok (.aload_n 0, 1) := by decide +kernel
theorem dX12_moved_89 : decode cX12_moved 89 = .ok (.getfield 29, 3) := by decide +kernel
theorem dX12_moved_92 : decode cX12_moved 92 = .ok (.sipush 216, 3) := by decide +kernel
theorem dX12_moved_95 : decode cX12_moved 95 = .ok (.iload 6, 2) := by decide +kernel
theorem dX12_moved_97 : decode cX12_moved 97 = .ok (.iadd, 1) := by decide +kernel
theorem dX12_moved_98 : decode cX12_moved 98 = .ok (.dup2, 1) := by decide +kernel
theorem dX12_moved_99 : decode cX12_moved 99 = .ok (.iaload, 1) := by decide +kernel
theorem dX12_stand_0 : decode cX12_stand 0 = .ok (.aload_n 0, 1) := by decide +kernel
theorem dX12_stand_1 : decode cX12_stand 1 = .ok (.iconst 0, 1) := by decide +kernel
theorem dX12_stand_100 : decode cX12_stand 100 = .ok (.aload_n 0, 1) := by decide +kernel
theorem dX12_stand_101 : decode cX12_stand 101 = .ok (.getfield 29, 3) := by decide +kernel
theorem dX12_stand_104 : decode cX12_stand 104 = .ok (.sipush 216, 3) := by decide +kernel
theorem dX12_stand_107 : decode cX12_stand 107 = .ok (.iload 4, 2) := by decide +kernel
theorem dX12_stand_109 : decode cX12_stand 109 = .ok (.iadd, 1) := by decide +kernel
theorem dX12_stand_11 : decode cX12_stand 11 = .ok (.ifCond .eq 44, 3) := by decide +kernel
theorem dX12_stand_110 : decode cX12_stand 110 = .ok (.iload 7, 2) := by decide +kernel
theorem dX12_stand_112 : decode cX12_stand 112 = .ok (.iastore, 1) := by decide +kernel
theorem dX12_stand_113 : decode cX12_stand 113 = .ok (.aload_n 0, 1) := by decide +kernel
theorem dX12_stand_114 : decode cX12_stand 114 = .ok (.getfield 29, 3) := by decide +kernel
theorem dX12_stand_117 : decode cX12_stand 117 = .ok (.sipush 225, 3) := by decide +kernel
theorem dX12_stand_120 : decode cX12_stand 120 = .ok (.iload 4, 2) := by decide +kernel
theorem dX12_stand_122 : decode cX12_stand 122 = .ok (.iadd, 1) := by decide +kernel
theorem dX12_stand_123 : decode cX12_stand 123 = .ok (.iload 8, 2) := by decide +kernel
theorem dX12_stand_125 : decode cX12_stand 125 = .ok (.iastore, 1) := by decide +kernel
theorem dX12_stand_126 : decode cX12_stand 126 = .ok (.aload_n 0, 1) := by decide +kernel
theorem dX12_stand_127 : decode cX12_stand 127 = .ok (.getfield 29, 3) := by decide +kernel
theorem dX12_stand_130 : decode cX12_stand 130 = .ok (.sipush 234, 3) := by decide +kernel
theorem dX12_stand_133 : decode cX12_stand 133 = .ok (.iload 4, 2) := by decide +kernel
theorem dX12_stand_135 : decode cX12_stand 135 = .ok (.iadd, 1) := by decide +kernel
theorem dX12_stand_136 : decode cX12_stand 136 = .ok (.iconst 0, 1) := by decide +kernel
theorem dX12_stand_137 : decode cX12_stand 137 = .ok (.iastore, 1) := by decide +kernel
theorem dX12_stand_138 : decode cX12_stand 138 = .ok (.aload_n 0, 1) := by decide +kernel
theorem dX12_stand_139 : decode cX12_stand 139 = .ok (.getfield 29, 3) := by decide +kernel
theorem dX12_stand_14 : decode cX12_stand 14 = .ok (.aload_n 0, 1) := by decide +kernel
theorem dX12_stand_142 : decode cX12_stand 142 = .ok (.sipush 215, 3) := by decide +kernel
theorem dX12_stand_145 : decode cX12_stand 145 = .ok (.iload 4, 2) := by decide +kernel
theorem dX12_stand_147 : decode cX12_stand 147 = .ok (.iconst 1, 1) := by decide +kernel
theorem dX12_stand_148 : decode cX12_stand 148 = .ok (.iadd, 1) := by decide +kernel
theorem dX12_stand_149 : decode cX12_stand 149 = .ok (.iastore, 1) := by decide +kernel
theorem dX12_stand_15 : decode cX12_stand 15 = .ok (.iload_n 2, 1) := by decide +kernel
theorem dX12_stand_150 : decode cX12_stand 150 = .ok (.aload_n 0, 1) := by decide +kernel
theorem dX12_stand_151 : decode cX12_stand 151 = .ok (.iload_n 1, 1) := by decide +kernel
theorem dX12_stand_152 : decode cX12_stand 152 = .ok (.invokevirtual 378, 3) := by decide +kernel
theorem dX12_stand_155 : decode cX12_stand 155 = .ok (.pop, 1) := by decide +kernel
theorem dX12_stand_156 : decode cX12_stand 156 = .ok (.aload_n 0, 1) := by decide +kernel
theorem dX12_stand_157 : decode cX12_stand 157 = .ok (.getfield 29, 3) := by decide +kernel
theorem dX12_stand_16 : decode cX12_stand 16 = .ok (.iconst 0, 1) := by decide +kernel
theorem dX12_stand_160 : decode cX12_stand 160 = .ok (.sipush 234, 3) := by decide +kernel
theorem dX12_stand_163 : decode cX12_stand 163 = .ok (.iload 4, 2) := by decide +kernel
theorem dX12_stand_165 : decode cX12_stand 165 = .ok (.iadd, 1) := by decide +kernel
theorem dX12_stand_166 : decode cX12_stand 166 = .ok (.iaload, 1) := by decide +kernel
theorem dX12_stand_167 : decode cX12_stand 167 = .ok (.istore 9, 2) := by decide +kernel
theorem dX12_stand_169 : decode cX12_stand 169 = .ok (.aload_n 0, 1) := by decide +kernel
theorem dX12_stand_17 : decode cX12_stand 17 = .ok (.bipush 19, 2) := by decide +kernel
theorem dX12_stand_170 : decode cX12_stand 170 = .ok (.invokevirtual 387, 3) := by decide +kernel
theorem dX12_stand_173 : decode cX12_stand 173 = .ok (.iload 5, 2) := by decide +kernel
theorem dX12_stand_175 : decode cX12_stand 175 = .ok (.iconst (-1), 1) := by decide +kernel
theorem dX12_stand_176 : decode cX12_stand 176 = .ok (.if_icmp .eq 13, 3) := by decide +kernel
theorem dX12_stand_179 : decode cX12_stand 179 = .ok (.iload 9, 2) := by decide +kernel
theorem dX12_stand_181 : decode cX12_stand 181 = .ok (.iload 6, 2) := by decide +kernel
theorem dX12_stand_183 : decode cX12_stand 183 = .ok (.if_icmp .lt 6, 3) := by decide +kernel
theorem dX12_stand_186 : decode cX12_stand 186 = .ok (.goto 17, 3) := by decide +kernel
theorem dX12_stand_189 : decode cX12_stand 189 = .ok (.bipush 100, 2) := by decide +kernel
theorem dX12_stand_19 : decode cX12_stand 19 = .ok (.invokestatic 279, 3) := by decide +kernel
theorem dX12_stand_191 : decode cX12_stand 191 = .ok (.iload 7, 2) := by decide +kernel
theorem dX12_stand_193 : decode cX12_stand 193 = .ok (.imul, 1) := by decide +kernel
theorem dX12_stand_194 : decode cX12_stand 194 = .ok (.iload 8, 2) := by decide +kernel
theorem dX12_stand_196 : decode cX12_stand 196 = .ok (.iadd, 1) := by decide +kernel
theorem dX12_stand_197 : decode cX12_stand 197 = .ok (.istore 5, 2) := by decide +kernel
theorem dX12_stand_199 : decode cX12_stand 199 = .ok (.iload 9, 2) := by decide +kernel
theorem dX12_stand_2 : decode cX12_stand 2 = .ok (.putfield 1, 3) := by decide +kernel
theorem dX12_stand_201 : decode cX12_stand 201 = .ok (.istore 6, 2) := by decide +kernel
theorem dX12_stand_203 : decode cX12_stand 203 = .ok (.iinc 8 1, 3) := by decide +kernel
theorem dX12_stand_206 : decode cX12_stand 206 = .ok (.goto (-112), 3) := by decide +kernel
theorem dX12_stand_209 : decode cX12_stand 209 = .ok (.iinc 7 1, 3) := by decide +kernel
theorem dX12_stand_212 : decode cX12_stand 212 = .ok (.goto (-132), 3) := by decide +kernel
theorem dX12_stand_215 : decode cX12_stand 215 = .ok (.iload_n 3, 1) := by decide +kernel
theorem dX12_stand_216 : decode cX12_stand 216 = .ok (.ifCond .ne 8, 3) := by decide +kernel
theorem dX12_stand_219 : decode cX12_stand 219 = .ok (.iload 5, 2) := by decide +kernel
theorem dX12_stand_22 : decode cX12_stand 22 = .ok (.ifCond .eq 16, 3) := by decide +kernel
theorem dX12_stand_221 : decode cX12_stand 221 = .ok (.goto 5, 3) := by decide +kernel
theorem dX12_stand_224 : decode cX12_stand 224 = .ok (.iload 6, 2) := by decide +kernel
theorem dX12_stand_226 : decode cX12_stand 226 = .ok (.ireturn, 1) := by decide +kernel
theorem dX12_stand_25 : decode cX12_stand 25 = .ok (.iload_n 3, 1) := by decide +kernel
theorem dX12_stand_26 : decode cX12_stand 26 = .ok (.iconst 0, 1) := by decide +kernel
theorem dX12_stand_27 : decode cX12_stand 27 = .ok (.iconst 1, 1) := by decide +kernel
theorem dX12_stand_28 : decode cX12_stand 28 = .ok (.invokestatic 279, 3) := by decide +kernel
theorem dX12_stand_31 : decode cX12_stand 31 = .ok (.ifCond .eq 7, 3) := by decide +kernel
theorem dX12_stand_34 : decode cX12_stand 34 = .ok (.iconst 1, 1) := by decide +kernel
theorem dX12_stand_35 : decode cX12_stand 35 = .ok (.goto 4, 3) := by decide +kernel
theorem dX12_stand_38 : decode cX12_stand 38 = .ok (.iconst 0, 1) := by decide +kernel
theorem dX12_stand_39 : decode cX12_stand 39 = .ok (.iconst 2, 1) := by decide +kernel
theorem dX12_stand_40 : decode cX12_stand 40 = .ok (.iconst 2, 1) := by decide +kernel
theorem dX12_stand_41 : decode cX12_stand 41 = .ok (.invokevirtual 175, 3) := by decide +kernel
theorem dX12_stand_44 : decode cX12_stand 44 = .ok (.ifCond .eq 11, 3) := by decide +kernel
theorem dX12_stand_47 : decode cX12_stand 47 = .ok (.aload_n 0, 1) := by decide +kernel
theorem dX12_stand_48 : decode cX12_stand 48 = .ok (.iconst 3, 1) := by decide +kernel
theorem dX12_stand_49 : decode cX12_stand 49 = .ok (.invokevirtual 371, 3) := by decide +kernel
theorem dX12_stand_5 : decode cX12_stand 5 = .ok (.aload_n 0, 1) := by decide +kernel
theorem dX12_stand_52 : decode cX12_stand 52 = .ok (.ifCond .ne 5, 3) := by decide +kernel
theorem dX12_stand_55 : decode cX12_stand 55 = .ok (.iconst 0, 1) := by decide +kernel
theorem dX12_stand_56 : decode cX12_stand 56 = .ok (.ireturn, 1) := by decide +kernel
theorem dX12_stand_57 : decode cX12_stand 57 = .ok (.aload_n 0, 1) := by decide +kernel
theorem dX12_stand_58 : decode cX12_stand 58 = .ok (.invokevirtual 381, 3) := by decide +kernel
theorem dX12_stand_6 : decode cX12_stand 6 = .ok (.iload_n 1, 1) := by decide +kernel
theorem dX12_stand_61 : decode cX12_stand 61 = .ok (.aload_n 0, 1) := by decide +kernel
theorem dX12_stand_62 : decode cX12_stand 62 = .ok (.getfield 29, 3) := by decide +kernel
theorem dX12_stand_65 : decode cX12_stand 65 = .ok (.sipush 215, 3) := by decide +kernel
theorem dX12_stand_68 : decode cX12_stand 68 = .ok (.iaload, 1) := by decide +kernel
theorem dX12_stand_69 : decode cX12_stand 69 = .ok (.istore 4, 2) := by decide +kernel
theorem dX12_stand_7 : decode cX12_stand 7 = .ok (.iconst 1, 1) := by decide +kernel
theorem dX12_stand_71 : decode cX12_stand 71 = .ok (.iconst (-1), 1) := by decide +kernel
theorem dX12_stand_72 : decode cX12_stand 72 = .ok (.istore 5, 2) := by decide +kernel
theorem dX12_stand_74 : decode cX12_stand 74 = .ok (.iconst 0, 1) := by decide +kernel
theorem dX12_stand_75 : decode cX12_stand 75 = .ok (.istore 6, 2) := by decide +kernel
theorem dX12_stand_77 : decode cX12_stand 77 = .ok (.iconst 0, 1) := by decide +kernel
theorem dX12_stand_78 : decode cX12_stand 78 = .ok (.istore 7, 2) := by decide +kernel
theorem dX12_stand_8 : decode cX12_stand 8 = .ok (.invokevirtual 334, 3) := by decide +kernel
theorem dX12_stand_80 : decode cX12_stand 80 = .ok (.iload 7, 2) := by decide +kernel
theorem dX12_stand_82 : decode cX12_stand 82 = .ok (.aload_n 0, 1) := by decide +kernel
theorem dX12_stand_83 : decode cX12_stand 83 = .ok (.getfield 23, 3) := by decide +kernel
theorem dX12_stand_86 : decode cX12_stand 86 = .ok (.iconst 0, 1) := by decide +kernel
theorem dX12_stand_87 : decode cX12_stand 87 = .ok (.iaload, 1) := by decide +kernel
theorem dX12_stand_88 : decode cX12_stand 88 = .ok (.if_icmp .ge 127, 3) := by decide +kernel
theorem dX12_stand_91 : decode cX12_stand 91 = .ok (.iconst 0, 1) := by decide +kernel
theorem dX12_stand_92 : decode cX12_stand 92 = .ok (.istore 8, 2) := by decide +kernel
theorem dX12_stand_94 : decode cX12_stand 94 = .ok (.iload 8, 2) := by decide +kernel
theorem dX12_stand_96 : decode cX12_stand 96 = .ok (.iload_n 2, 1) := by decide +kernel
theorem dX12_stand_97 : decode cX12_stand 97 = .ok (.if_icmp .gt 112, 3) := by decide +kernel
def vs_m_stand : List Cond := .code yX12_stand cX12_stand 10 (some .int) :: (([.fieldLink RX12 1 "KerbSplashModel" "thrown" "I", .fieldLink RX12 29 "KerbSplashModel" "s" "[I", .fieldLink RX12 23 "KerbSplashModel" "b" "[I"] : List Cond) ++ ((wsX120) ++ ((wsV RX12 334 RX12 yX12_isLaw vs_m_isLaw) ++ ((va_wsS RX12 279 yX12_within vs_m_within) ++ ((wsV RX12 175 RX12 yX12_may vs_m_may) ++ ((wsV RX12 371 RX12 yX12_isStreet vs_m_isStreet) ++ ((wsV RX12 381 RX12 yX12_keeps vs_m_keeps) ++ ((wsV RX12 378 RX12 yX12_allPass vs_m_allPass) ++ ((wsV RX12 387 RX12 yX12_comesBack vs_m_back) ++ ([]))))))))))
set_option maxHeartbeats 4000000 in
set_option maxRecDepth 100000 in
theorem m_stand (l : Launch) (hl : l.stackTraces = false) (D : va_G) (cy : Nat → ClassId) (sa : Nat → Nat) (mm m1 m9 m10 m11 m12 m13 m14 m15 m19 m20 m21 m23 m24 m25 m26 m27 m28 m33 m35 : Nat) (th tp sz_ ap bad bk opn fp im nr nl sp_ wtc wcl ir ip shu sfa swr : Int) (f1 f10 f12 f14 f23 f24 f25 f26 f27 f28 : Nat → Int32) (n k w : Int) (qs : Nat → Int) (sz : Nat) (hr_th : (-2147483648) ≤ th ∧ th ≤ 2147483647) (hr_tp : 0 ≤ tp ∧ tp ≤ 600) (hr_sz_ : 0 ≤ sz_ ∧ sz_ ≤ 600) (hr_ap : 0 ≤ ap ∧ ap ≤ 602) (hr_bad : (-1) ≤ bad ∧ bad ≤ 602) (hr_bk : 0 ≤ bk ∧ bk ≤ 4) (hr_opn : 0 ≤ opn ∧ opn ≤ 7) (hr_fp : (-2147483648) ≤ fp ∧ fp ≤ 2147483647) (hr_im : 0 ≤ im ∧ im ≤ 3) (hr_nr : 0 ≤ nr ∧ nr ≤ 4) (hr_nl : 0 ≤ nl ∧ nl ≤ 4) (hr_sp_ : 0 ≤ sp_ ∧ sp_ ≤ 602) (hr_wtc : (-2147483648) ≤ wtc ∧ wtc ≤ 2147483647) (hr_wcl : 0 ≤ wcl ∧ wcl ≤ 95) (hr_ir : 0 ≤ ir ∧ ir ≤ 5) (hr_ip : (-2147483648) ≤ ip ∧ ip ≤ 2147483647) (hr_shu : (-2147483648) ≤ shu ∧ shu ≤ 2147483647) (hr_sfa : (-2147483648) ≤ sfa ∧ sfa ≤ 2147483647) (hr_swr : (-2147483648) ≤ swr ∧ swr ≤ 2147483647) (hr_n : (-2147483648) ≤ n ∧ n ≤ 2147483647) (hr_k : (-2147483648) ≤ k ∧ k ≤ 2147483647) (hr_w : (-2147483648) ≤ w ∧ w ≤ 2147483647) (hn_li : LI nl f23 f24 f25 f26) (hf10 : BI f10) (hf12 : SQ qs 8 f12) (hf14 : SI 8 f14) : mI9 l yX12_stand vs_m_stand ({ frames := 4, cells := 0, slots := 0, locals := 110 }) D cy sa sz [vR mm, vI n, vI k, vI w] [zO mm 12 [vI th, vR m1, vI tp, vI sz_, vI ap, vI bad, vI bk, vI opn, vI fp, vR m9, vR m10, vR m11, vR m12, vR m13, vR m14, vR m15, vI im, vI nr, vI nl, vR m19, vR m20, vR m21, vI sp_, vR m23, vR m24, vR m25, vR m26, vR m27, vR m28, vI wtc, vI wcl, vI ir, vI ip, vR m33, vI shu, vR m35, vI sfa, vI swr], zI m1 (cy 0) 4 f1, zI m10 (cy 0) 68 f10, zI m12 (cy 0) 389 f12, zI m14 (cy 0) 389 f14, zI m23 (cy 0) 2480 f23, zI m24 (cy 0) 2480 f24, zI m25 (cy 0) 20 f25, zI m26 (cy 0) 20 f26, zI m27 (cy 0) 620 f27, zI m28 (cy 0) 7 f28] (fun (r : Int32) (u : SV) => r = iI (u.2.1 0) ∧ ((-2147483648) ≤ u.2.1 1 ∧ u.2.1 1 ≤ 2147483647) ∧ (0 ≤ u.2.1 2 ∧ u.2.1 2 ≤ 5) ∧ ((-2147483648) ≤ u.2.1 3 ∧ u.2.1 3 ≤ 2147483647) ∧ ((-2147483648) ≤ u.2.1 0 ∧ u.2.1 0 ≤ 2147483647) ∧ BI f10 ∧ SQ qs 8 (u.2.2 1) ∧ SI 8 (u.2.2 2)) (fun u : SV => [zO mm 12 [vI (u.2.1 1), vR m1, vI tp, vI sz_, vI ap, vI bad, vI bk, vI opn, vI fp, vR m9, vR m10, vR m11, vR m12, vR m13, vR m14, vR m15, vI im, vI nr, vI nl, vR m19, vR m20, vR m21, vI sp_, vR m23, vR m24, vR m25, vR m26, vR m27, vR m28, vI wtc, vI wcl, vI (u.2.1 2), vI (u.2.1 3), vR m33, vI shu, vR m35, vI sfa, vI swr], zI m1 (cy 0) 4 (u.2.2 0), zI m10 (cy 0) 68 f10, zI m12 (cy 0) 389 (u.2.2 1), zI m14 (cy 0) 389 (u.2.2 2), zI m23 (cy 0) 2480 f23, zI m24 (cy 0) 2480 f24, zI m25 (cy 0) 20 f25, zI m26 (cy 0) 20 f26, zI m27 (cy 0) 620 (u.2.2 3), zI m28 (cy 0) 7 (u.2.2 4)]) 0 0 := by
  refine Met.ofW (cc := cX12_stand) (maxL := 10) (ret := (some .int)) (by decide) rfl ?_
  intro p e s m args below meth c s₁ B hml hv
  obtain ⟨rfl, hsz, hP, hG, hD0, hT⟩ := hv
  have hx := B.exec
  have hb := B.bytes
  have hr := B.returns
  have hts := atoms_spec (ws := vs_m_stand) B.pre
  have hown : s.vm.findClass RX12 = some m.cls := findClass_of_methodNamed B.named
  have hlocks := B.notSynchronized
  subst hsz
  have hD := hD0.self (sz := s.heap.size)
  generalize hAe : va_A [zO mm 12 [vI th, vR m1, vI tp, vI sz_, vI ap, vI bad, vI bk, vI opn, vI fp, vR m9, vR m10, vR m11, vR m12, vR m13, vR m14, vR m15, vI im, vI nr, vI nl, vR m19, vR m20, vR m21, vI sp_, vR m23, vR m24, vR m25, vR m26, vR m27, vR m28, vI wtc, vI wcl, vI ir, vI ip, vR m33, vI shu, vR m35, vI sfa, vI swr], zI m1 (cy 0) 4 f1, zI m10 (cy 0) 68 f10, zI m12 (cy 0) 389 f12, zI m14 (cy 0) 389 f14, zI m23 (cy 0) 2480 f23, zI m24 (cy 0) 2480 f24, zI m25 (cy 0) 20 f25, zI m26 (cy 0) 20 f26, zI m27 (cy 0) 620 f27, zI m28 (cy 0) 7 f28] s.heap.size = A at hD hT ⊢
  have hA : ∀ q : Nat, s.heap.size ≤ q → A q := fun q h => by rw [← hAe]; exact Or.inr h
  have hS : va_S A s.heap s.heap [] := va_S.rf
  have hl0 := lv_entry ([vR mm, vI n, vI k, vI w]) (n := 10) (Nat.le_of_ble_eq_true rfl)
  rw [lg_entry_eq]
  generalize (lg_sl ([vR mm, vI n, vI k, vI w]) ++ List.replicate (10 - (lg_sl ([vR mm, vI n, vI k, vI w])).length) Slot.unset).toArray = ls at hl0 ⊢
  have hlv : lv_has ls 10 [(0, vR mm), (1, vI n), (2, vI k), (3, vI w)] := hl0
  have lf1 := hts (.fieldLink RX12 1 "KerbSplashModel" "thrown" "I") (List.mem_of_getElem? (i := 1) rfl)
  have hi12 : ∀ w ∈ wsX120, w ∈ vs_m_stand := fun w h => List.mem_cons_of_mem _ (List.mem_append_right _ (List.mem_append_left _ h))
  have gg_1 : GoodIn vs_m_stand (wsV RX12 334 RX12 yX12_isLaw vs_m_isLaw) := goodIn_sub (fun w h => List.mem_cons_of_mem _ (List.mem_append_right _ (List.mem_append_right _ (List.mem_append_left _ h)))) (gd_V gd_m_isLaw (by decide +kernel))
  have gg_2 : GoodIn vs_m_stand (va_wsS RX12 279 yX12_within vs_m_within) := goodIn_sub (fun w h => List.mem_cons_of_mem _ (List.mem_append_right _ (List.mem_append_right _ (List.mem_append_right _ (List.mem_append_left _ h))))) (gd_S gd_m_within (by decide +kernel))
  have gg_3 : GoodIn vs_m_stand (wsV RX12 175 RX12 yX12_may vs_m_may) := goodIn_sub (fun w h => List.mem_cons_of_mem _ (List.mem_append_right _ (List.mem_append_right _ (List.mem_append_right _ (List.mem_append_right _ (List.mem_append_left _ h)))))) (gd_V gd_m_may (by decide +kernel))
  have gg_4 : GoodIn vs_m_stand (wsV RX12 371 RX12 yX12_isStreet vs_m_isStreet) := goodIn_sub (fun w h => List.mem_cons_of_mem _ (List.mem_append_right _ (List.mem_append_right _ (List.mem_append_right _ (List.mem_append_right _ (List.mem_append_right _ (List.mem_append_left _ h))))))) (gd_V gd_m_isStreet (by decide +kernel))
  have gg_5 : GoodIn vs_m_stand (wsV RX12 381 RX12 yX12_keeps vs_m_keeps) := goodIn_sub (fun w h => List.mem_cons_of_mem _ (List.mem_append_right _ (List.mem_append_right _ (List.mem_append_right _ (List.mem_append_right _ (List.mem_append_right _ (List.mem_append_right _ (List.mem_append_left _ h)))))))) (gd_V gd_m_keeps (by decide +kernel))
  have lf29 := hts (.fieldLink RX12 29 "KerbSplashModel" "s" "[I") (List.mem_of_getElem? (i := 2) rfl)
  have lf23 := hts (.fieldLink RX12 23 "KerbSplashModel" "b" "[I") (List.mem_of_getElem? (i := 3) rfl)
  have gg_6 : GoodIn vs_m_stand (wsV RX12 378 RX12 yX12_allPass vs_m_allPass) := goodIn_sub (fun w h => List.mem_cons_of_mem _ (List.mem_append_right _ (List.mem_append_right _ (List.mem_append_right _ (List.mem_append_right _ (List.mem_append_right _ (List.mem_append_right _ (List.mem_append_right _ (List.mem_append_left _ h))))))))) (gd_V gd_m_allPass (by decide +kernel))
  have gg_7 : GoodIn vs_m_stand (wsV RX12 387 RX12 yX12_comesBack vs_m_back) := goodIn_sub (fun w h => List.mem_cons_of_mem _ (List.mem_append_right _ (List.mem_append_right _ (List.mem_append_right _ (List.mem_append_right _ (List.mem_append_right _ (List.mem_append_right _ (List.mem_append_right _ (List.mem_append_right _ (List.mem_append_left _ h)))))))))) (gd_V gd_m_back (by decide +kernel))
  refine lv_aload_n hx hb dX12_stand_0 rfl (lv_at hlv 0 rfl) ?_
  refine lv_iconst (v := iI 0) hx hb dX12_stand_1 (by decide) ?_
  refine va_put (D := D) (ci := 12) (v := vI 0) (ty := .int) (C := RX12) (T := TX12) (N := 38) hx hb hts hi12 tyX12 tyX12_ok nmX12 hown hG.1 hP hD hS 0 rfl rfl 0 (by decide) lf1 (fun _ h9 => h9) rfl (by decide +kernel) rfl rfl (Nat.le_of_ble_eq_true rfl) dX12_stand_2 (fun H locs hP hD hS => ?_)
  obtain ⟨hP, hD⟩ := pw9 [zO mm 12 [vI 0, vR m1, vI tp, vI sz_, vI ap, vI bad, vI bk, vI opn, vI fp, vR m9, vR m10, vR m11, vR m12, vR m13, vR m14, vR m15, vI im, vI nr, vI nl, vR m19, vR m20, vR m21, vI sp_, vR m23, vR m24, vR m25, vR m26, vR m27, vR m28, vI wtc, vI wcl, vI ir, vI ip, vR m33, vI shu, vR m35, vI sfa, vI swr], zI m1 (cy 0) 4 f1, zI m10 (cy 0) 68 f10, zI m12 (cy 0) 389 f12, zI m14 (cy 0) 389 f14, zI m23 (cy 0) 2480 f23, zI m24 (cy 0) 2480 f24, zI m25 (cy 0) 20 f25, zI m26 (cy 0) 20 f26, zI m27 (cy 0) 620 f27, zI m28 (cy 0) 7 f28] hP hD
  refine lv_aload_n hx hb dX12_stand_5 rfl (lv_at hlv 0 rfl) ?_
  refine lv_iload_n hx hb dX12_stand_6 rfl (lv_at hlv 1 rfl) ?_
  refine lv_iconst (v := iI 1) hx hb dX12_stand_7 (by decide) ?_
  refine cjr_i [false, false, true, true, true, true, true, true, true, true, true] (fun pre9 => (va_runV (As := [vI n, vI 1]) (rest := []) ⟨hx, hb, hml, hown, hts⟩ (m_isLaw l hl D cy sa mm m1 m9 m10 m11 m12 m13 m14 m15 m19 m20 m21 m23 m24 m25 m26 m27 m28 m33 m35 0 tp sz_ ap bad bk opn fp im nr nl sp_ wtc wcl ir ip shu sfa swr f1 n 1 H.size (by show ((-2147483648) : Int) ≤ 0 ∧ (0 : Int) ≤ 2147483647; decide) (by first | exact hr_tp | omega) (by first | exact hr_sz_ | omega) (by first | exact hr_ap | omega) (by first | exact hr_bad | omega) (by first | exact hr_bk | omega) (by first | exact hr_opn | omega) (by first | exact hr_fp | omega) (by first | exact hr_im | omega) (by first | exact hr_nr | omega) (by first | exact hr_nl | omega) (by first | exact hr_sp_ | omega) (by first | exact hr_wtc | omega) (by first | exact hr_wcl | omega) (by first | exact hr_ir | omega) (by first | exact hr_ip | omega) (by first | exact hr_shu | omega) (by first | exact hr_sfa | omega) (by first | exact hr_swr | omega) (by first | exact hr_n | omega) (by show (1 : Int) ≤ 1 ∧ (1 : Int) ≤ 4; decide)) (cwV 2 hts gg_1 rfl rfl rfl (by decide +kernel) ⟨Nat.le_of_ble_eq_true rfl, Nat.le_of_ble_eq_true rfl⟩) ⟨pcW.blind, (va_recv hG.1 hP (ci := 12) (q0 := 0) rfl rfl), pre9⟩ rfl rfl hlv.1 rfl (lv_room (Nat.le_of_ble_eq_true rfl)) dX12_stand_8 ⟨Nat.le_of_ble_eq_true rfl, Nat.le_of_ble_eq_true rfl⟩)) hP hD hS hA hG hT [0, 1] rfl (by decide +kernel) (fun r1 u1 H locs hw1 hq9 hS => ?_)
  obtain ⟨rfl, hq1_1, hq1_2, hq1_3⟩ := hw1
  obtain ⟨hP, hD⟩ := pd9 [zI m10 (cy 0) 68 f10, zI m12 (cy 0) 389 f12, zI m14 (cy 0) 389 f14, zI m23 (cy 0) 2480 f23, zI m24 (cy 0) 2480 f24, zI m25 (cy 0) 20 f25, zI m26 (cy 0) 20 f26, zI m27 (cy 0) 620 f27, zI m28 (cy 0) 7 f28, zO mm 12 [vI (u1.2.1 1), vR m1, vI tp, vI sz_, vI ap, vI bad, vI bk, vI opn, vI fp, vR m9, vR m10, vR m11, vR m12, vR m13, vR m14, vR m15, vI im, vI nr, vI nl, vR m19, vR m20, vR m21, vI sp_, vR m23, vR m24, vR m25, vR m26, vR m27, vR m28, vI wtc, vI wcl, vI ir, vI ip, vR m33, vI shu, vR m35, vI sfa, vI swr], zI m1 (cy 0) 4 (u1.2.2 0)] hq9
  refine iz_eq (tgt := 55) hx hb dX12_stand_11 (by decide) (by first | exact rgw hq1_2 (by decide) (by decide) | omega) (fun c_1 => ?_) (fun c_1 => ?_)
  · refine lv_iconst (v := iI 0) hx hb dX12_stand_55 (by decide) ?_
    refine W.widen (k := 0) (n := 0) (Nat.le_of_ble_eq_true rfl) (Nat.le_of_ble_eq_true rfl) ?_
    exact W.iret (v := iI 0) hx hb hr (fun t ht hW => ⟨⟨iI 0, ((fun k => ([] : List Nat).getD k 0), (fun k => ([0, (u1.2.1 1), ir, ip] : List Int).getD k 0), (fun k => ([(u1.2.2 0), f12, f14, f27, f28] : List (Nat → Int32)).getD k (fun _ => 0))), rfl, ⟨rfl, (by show ((-2147483648) ≤ (u1.2.1 1) ∧ (u1.2.1 1) ≤ 2147483647); first | exact hq1_1 | omega), (by show (0 ≤ ir ∧ ir ≤ 5); first | exact hr_ir | omega), (by show ((-2147483648) ≤ ip ∧ ip ≤ 2147483647); first | exact hr_ip | omega), (by show ((-2147483648) ≤ 0 ∧ 0 ≤ 2147483647); show ((-2147483648) : Int) ≤ 0 ∧ (0 : Int) ≤ 2147483647; decide), hf10, hf12, hf14⟩, at9 ht hP hD [9, 10, 0, 1, 2, 3, 4, 5, 6, 7, 8] (by decide +kernel) rfl⟩, hS.F ht⟩) hS.2.2 dX12_stand_56
  · refine lv_aload_n hx hb dX12_stand_14 rfl (lv_at hlv 0 rfl) ?_
    refine lv_iload_n hx hb dX12_stand_15 rfl (lv_at hlv 2 rfl) ?_
    refine lv_iconst (v := iI 0) hx hb dX12_stand_16 (by decide) ?_
    refine lv_bipush (v := iI 19) hx hb dX12_stand_17 (by decide) ?_
    refine cjr_i [true, true, true, true, true, true, true, true, true, true, true] (fun pre9 => (va_runS (As := [vI k, vI 0, vI 19]) (rest := [vR mm]) ⟨hx, hb, hml, hown, hts⟩ (m_within l hl D cy sa k 0 19 H.size (by first | exact hr_k | omega) (by show ((-2147483648) : Int) ≤ 0 ∧ (0 : Int) ≤ 2147483647; decide) (by show ((-2147483648) : Int) ≤ 19 ∧ (19 : Int) ≤ 2147483647; decide)) (va_cwS 3 hts gg_2 rfl rfl rfl (by decide +kernel) ⟨Nat.le_of_ble_eq_true rfl, Nat.le_of_ble_eq_true rfl⟩) ⟨pcW.blind, pre9⟩ rfl rfl hlv.1 rfl (lv_room (Nat.le_of_ble_eq_true rfl)) dX12_stand_19 ⟨Nat.le_of_ble_eq_true rfl, Nat.le_of_ble_eq_true rfl⟩)) hP hD hS hA hG hT [] rfl (by decide +kernel) (fun r2 u2 H locs hw2 hq9 hS => ?_)
    obtain ⟨rfl, hq2_1, hq2_2, hq2_3⟩ := hw2
    obtain ⟨hP, hD⟩ := pd9 [zI m10 (cy 0) 68 f10, zI m12 (cy 0) 389 f12, zI m14 (cy 0) 389 f14, zI m23 (cy 0) 2480 f23, zI m24 (cy 0) 2480 f24, zI m25 (cy 0) 20 f25, zI m26 (cy 0) 20 f26, zI m27 (cy 0) 620 f27, zI m28 (cy 0) 7 f28, zO mm 12 [vI (u1.2.1 1), vR m1, vI tp, vI sz_, vI ap, vI bad, vI bk, vI opn, vI fp, vR m9, vR m10, vR m11, vR m12, vR m13, vR m14, vR m15, vI im, vI nr, vI nl, vR m19, vR m20, vR m21, vI sp_, vR m23, vR m24, vR m25, vR m26, vR m27, vR m28, vI wtc, vI wcl, vI ir, vI ip, vR m33, vI shu, vR m35, vI sfa, vI swr], zI m1 (cy 0) 4 (u1.2.2 0)] hq9
    refine iz_eq (tgt := 38) hx hb dX12_stand_22 (by decide) (by first | exact rgw hq2_1 (by decide) (by decide) | omega) (fun c_2 => ?_) (fun c_2 => ?_)
    · refine lv_iconst (v := iI 0) hx hb dX12_stand_38 (by decide) ?_
      refine lv_iconst (v := iI 2) hx hb dX12_stand_39 (by decide) ?_
      refine lv_iconst (v := iI 2) hx hb dX12_stand_40 (by decide) ?_
      refine cjr_i [true, true, true, true, true, true, true, true, true, false, false] (fun pre9 => (va_runV (As := [vI 0, vI 2, vI 2]) (rest := []) ⟨hx, hb, hml, hown, hts⟩ (m_may l hl D cy sa mm m1 m9 m10 m11 m12 m13 m14 m15 m19 m20 m21 m23 m24 m25 m26 m27 m28 m33 m35 (u1.2.1 1) tp sz_ ap bad bk opn fp im nr nl sp_ wtc wcl ir ip shu sfa swr (u1.2.2 0) 0 2 2 H.size (by first | exact hq1_1 | omega) (by first | exact hr_tp | omega) (by first | exact hr_sz_ | omega) (by first | exact hr_ap | omega) (by first | exact hr_bad | omega) (by first | exact hr_bk | omega) (by first | exact hr_opn | omega) (by first | exact hr_fp | omega) (by first | exact hr_im | omega) (by first | exact hr_nr | omega) (by first | exact hr_nl | omega) (by first | exact hr_sp_ | omega) (by first | exact hr_wtc | omega) (by first | exact hr_wcl | omega) (by first | exact hr_ir | omega) (by first | exact hr_ip | omega) (by first | exact hr_shu | omega) (by first | exact hr_sfa | omega) (by first | exact hr_swr | omega) (by show (0 : Int) ≤ 0 ∧ (0 : Int) ≤ 1; decide) (by show (1 : Int) ≤ 2 ∧ (2 : Int) ≤ 4; decide) (by show (0 : Int) ≤ 2 ∧ (2 : Int) ≤ 3; decide)) (cwV 3 hts gg_3 rfl rfl rfl (by decide +kernel) ⟨Nat.le_of_ble_eq_true rfl, Nat.le_of_ble_eq_true rfl⟩) ⟨pcW.blind, (va_recv hG.1 hP (ci := 12) (q0 := 9) rfl rfl), pre9⟩ rfl rfl hlv.1 rfl (lv_room (Nat.le_of_ble_eq_true rfl)) dX12_stand_41 ⟨Nat.le_of_ble_eq_true rfl, Nat.le_of_ble_eq_true rfl⟩)) hP hD hS hA hG hT [9, 10] rfl (by decide +kernel) (fun r3 u3 H locs hw3 hq9 hS => ?_)
      obtain ⟨rfl, hq3_1, hq3_2, hq3_3, hq3_4⟩ := hw3
      obtain ⟨hP, hD⟩ := pd9 [zI m10 (cy 0) 68 f10, zI m12 (cy 0) 389 f12, zI m14 (cy 0) 389 f14, zI m23 (cy 0) 2480 f23, zI m24 (cy 0) 2480 f24, zI m25 (cy 0) 20 f25, zI m26 (cy 0) 20 f26, zI m27 (cy 0) 620 f27, zI m28 (cy 0) 7 f28, zO mm 12 [vI (u3.2.1 1), vR m1, vI tp, vI sz_, vI ap, vI bad, vI bk, vI opn, vI fp, vR m9, vR m10, vR m11, vR m12, vR m13, vR m14, vR m15, vI im, vI nr, vI nl, vR m19, vR m20, vR m21, vI sp_, vR m23, vR m24, vR m25, vR m26, vR m27, vR m28, vI wtc, vI wcl, vI ir, vI ip, vR m33, vI shu, vR m35, vI sfa, vI swr], zI m1 (cy 0) 4 (u3.2.2 0)] hq9
      refine lt_i (y := iI 0) (by rw [show (u3.2.1 0) = 0 by omega]) ?_
      refine iz_eq (tgt := 55) hx hb dX12_stand_44 (by decide) (by show ((-2147483648) : Int) ≤ 0 ∧ (0 : Int) ≤ 2147483647; decide) (fun c_3 => ?_) (fun c_3 => by exfalso; omega)
      refine lv_iconst (v := iI 0) hx hb dX12_stand_55 (by decide) ?_
      refine W.widen (k := 0) (n := 0) (Nat.le_of_ble_eq_true rfl) (Nat.le_of_ble_eq_true rfl) ?_
      exact W.iret (v := iI 0) hx hb hr (fun t ht hW => ⟨⟨iI 0, ((fun k => ([] : List Nat).getD k 0), (fun k => ([0, (u3.2.1 1), ir, ip] : List Int).getD k 0), (fun k => ([(u3.2.2 0), f12, f14, f27, f28] : List (Nat → Int32)).getD k (fun _ => 0))), rfl, ⟨rfl, (by show ((-2147483648) ≤ (u3.2.1 1) ∧ (u3.2.1 1) ≤ 2147483647); first | exact hq3_1 | omega), (by show (0 ≤ ir ∧ ir ≤ 5); first | exact hr_ir | omega), (by show ((-2147483648) ≤ ip ∧ ip ≤ 2147483647); first | exact hr_ip | omega), (by show ((-2147483648) ≤ 0 ∧ 0 ≤ 2147483647); show ((-2147483648) : Int) ≤ 0 ∧ (0 : Int) ≤ 2147483647; decide), hf10, hf12, hf14⟩, at9 ht hP hD [9, 10, 0, 1, 2, 3, 4, 5, 6, 7, 8] (by decide +kernel) rfl⟩, hS.F ht⟩) hS.2.2 dX12_stand_56
    · refine lv_iload_n hx hb dX12_stand_25 rfl (lv_at hlv 3 rfl) ?_
      refine lv_iconst (v := iI 0) hx hb dX12_stand_26 (by decide) ?_
      refine lv_iconst (v := iI 1) hx hb dX12_stand_27 (by decide) ?_
      refine cjr_i [true, true, true, true, true, true, true, true, true, true, true] (fun pre9 => (va_runS (As := [vI w, vI 0, vI 1]) (rest := [vR mm]) ⟨hx, hb, hml, hown, hts⟩ (m_within l hl D cy sa w 0 1 H.size (by first | exact hr_w | omega) (by show ((-2147483648) : Int) ≤ 0 ∧ (0 : Int) ≤ 2147483647; decide) (by show ((-2147483648) : Int) ≤ 1 ∧ (1 : Int) ≤ 2147483647; decide)) (va_cwS 3 hts gg_2 rfl rfl rfl (by decide +kernel) ⟨Nat.le_of_ble_eq_true rfl, Nat.le_of_ble_eq_true rfl⟩) ⟨pcW.blind, pre9⟩ rfl rfl hlv.1 rfl (lv_room (Nat.le_of_ble_eq_true rfl)) dX12_stand_28 ⟨Nat.le_of_ble_eq_true rfl, Nat.le_of_ble_eq_true rfl⟩)) hP hD hS hA hG hT [] rfl (by decide +kernel) (fun r4 u4 H locs hw4 hq9 hS => ?_)
      obtain ⟨rfl, hq4_1, hq4_2, hq4_3⟩ := hw4
      obtain ⟨hP, hD⟩ := pd9 [zI m10 (cy 0) 68 f10, zI m12 (cy 0) 389 f12, zI m14 (cy 0) 389 f14, zI m23 (cy 0) 2480 f23, zI m24 (cy 0) 2480 f24, zI m25 (cy 0) 20 f25, zI m26 (cy 0) 20 f26, zI m27 (cy 0) 620 f27, zI m28 (cy 0) 7 f28, zO mm 12 [vI (u1.2.1 1), vR m1, vI tp, vI sz_, vI ap, vI bad, vI bk, vI opn, vI fp, vR m9, vR m10, vR m11, vR m12, vR m13, vR m14, vR m15, vI im, vI nr, vI nl, vR m19, vR m20, vR m21, vI sp_, vR m23, vR m24, vR m25, vR m26, vR m27, vR m28, vI wtc, vI wcl, vI ir, vI ip, vR m33, vI shu, vR m35, vI sfa, vI swr], zI m1 (cy 0) 4 (u1.2.2 0)] hq9
      refine iz_eq (tgt := 38) hx hb dX12_stand_31 (by decide) (by first | exact rgw hq4_1 (by decide) (by decide) | omega) (fun c_4 => ?_) (fun c_4 => ?_)
      · refine lv_iconst (v := iI 0) hx hb dX12_stand_38 (by decide) ?_
        refine lv_iconst (v := iI 2) hx hb dX12_stand_39 (by decide) ?_
        refine lv_iconst (v := iI 2) hx hb dX12_stand_40 (by decide) ?_
        refine cjr_i [true, true, true, true, true, true, true, true, true, false, false] (fun pre9 => (va_runV (As := [vI 0, vI 2, vI 2]) (rest := []) ⟨hx, hb, hml, hown, hts⟩ (m_may l hl D cy sa mm m1 m9 m10 m11 m12 m13 m14 m15 m19 m20 m21 m23 m24 m25 m26 m27 m28 m33 m35 (u1.2.1 1) tp sz_ ap bad bk opn fp im nr nl sp_ wtc wcl ir ip shu sfa swr (u1.2.2 0) 0 2 2 H.size (by first | exact hq1_1 | omega) (by first | exact hr_tp | omega) (by first | exact hr_sz_ | omega) (by first | exact hr_ap | omega) (by first | exact hr_bad | omega) (by first | exact hr_bk | omega) (by first | exact hr_opn | omega) (by first | exact hr_fp | omega) (by first | exact hr_im | omega) (by first | exact hr_nr | omega) (by first | exact hr_nl | omega) (by first | exact hr_sp_ | omega) (by first | exact hr_wtc | omega) (by first | exact hr_wcl | omega) (by first | exact hr_ir | omega) (by first | exact hr_ip | omega) (by first | exact hr_shu | omega) (by first | exact hr_sfa | omega) (by first | exact hr_swr | omega) (by show (0 : Int) ≤ 0 ∧ (0 : Int) ≤ 1; decide) (by show (1 : Int) ≤ 2 ∧ (2 : Int) ≤ 4; decide) (by show (0 : Int) ≤ 2 ∧ (2 : Int) ≤ 3; decide)) (cwV 3 hts gg_3 rfl rfl rfl (by decide +kernel) ⟨Nat.le_of_ble_eq_true rfl, Nat.le_of_ble_eq_true rfl⟩) ⟨pcW.blind, (va_recv hG.1 hP (ci := 12) (q0 := 9) rfl rfl), pre9⟩ rfl rfl hlv.1 rfl (lv_room (Nat.le_of_ble_eq_true rfl)) dX12_stand_41 ⟨Nat.le_of_ble_eq_true rfl, Nat.le_of_ble_eq_true rfl⟩)) hP hD hS hA hG hT [9, 10] rfl (by decide +kernel) (fun r5 u5 H locs hw5 hq9 hS => ?_)
        obtain ⟨rfl, hq5_1, hq5_2, hq5_3, hq5_4⟩ := hw5
        obtain ⟨hP, hD⟩ := pd9 [zI m10 (cy 0) 68 f10, zI m12 (cy 0) 389 f12, zI m14 (cy 0) 389 f14, zI m23 (cy 0) 2480 f23, zI m24 (cy 0) 2480 f24, zI m25 (cy 0) 20 f25, zI m26 (cy 0) 20 f26, zI m27 (cy 0) 620 f27, zI m28 (cy 0) 7 f28, zO mm 12 [vI (u5.2.1 1), vR m1, vI tp, vI sz_, vI ap, vI bad, vI bk, vI opn, vI fp, vR m9, vR m10, vR m11, vR m12, vR m13, vR m14, vR m15, vI im, vI nr, vI nl, vR m19, vR m20, vR m21, vI sp_, vR m23, vR m24, vR m25, vR m26, vR m27, vR m28, vI wtc, vI wcl, vI ir, vI ip, vR m33, vI shu, vR m35, vI sfa, vI swr], zI m1 (cy 0) 4 (u5.2.2 0)] hq9
        refine lt_i (y := iI 0) (by rw [show (u5.2.1 0) = 0 by omega]) ?_
        refine iz_eq (tgt := 55) hx hb dX12_stand_44 (by decide) (by show ((-2147483648) : Int) ≤ 0 ∧ (0 : Int) ≤ 2147483647; decide) (fun c_5 => ?_) (fun c_5 => by exfalso; omega)
        refine lv_iconst (v := iI 0) hx hb dX12_stand_55 (by decide) ?_
        refine W.widen (k := 0) (n := 0) (Nat.le_of_ble_eq_true rfl) (Nat.le_of_ble_eq_true rfl) ?_
        exact W.iret (v := iI 0) hx hb hr (fun t ht hW => ⟨⟨iI 0, ((fun k => ([] : List Nat).getD k 0), (fun k => ([0, (u5.2.1 1), ir, ip] : List Int).getD k 0), (fun k => ([(u5.2.2 0), f12, f14, f27, f28] : List (Nat → Int32)).getD k (fun _ => 0))), rfl, ⟨rfl, (by show ((-2147483648) ≤ (u5.2.1 1) ∧ (u5.2.1 1) ≤ 2147483647); first | exact hq5_1 | omega), (by show (0 ≤ ir ∧ ir ≤ 5); first | exact hr_ir | omega), (by show ((-2147483648) ≤ ip ∧ ip ≤ 2147483647); first | exact hr_ip | omega), (by show ((-2147483648) ≤ 0 ∧ 0 ≤ 2147483647); show ((-2147483648) : Int) ≤ 0 ∧ (0 : Int) ≤ 2147483647; decide), hf10, hf12, hf14⟩, at9 ht hP hD [9, 10, 0, 1, 2, 3, 4, 5, 6, 7, 8] (by decide +kernel) rfl⟩, hS.F ht⟩) hS.2.2 dX12_stand_56
      · refine lv_iconst (v := iI 1) hx hb dX12_stand_34 (by decide) ?_
        refine lv_goto (tgt := 39) hx hb dX12_stand_35 (by decide) ?_
        refine lv_iconst (v := iI 2) hx hb dX12_stand_39 (by decide) ?_
        refine lv_iconst (v := iI 2) hx hb dX12_stand_40 (by decide) ?_
        refine cjr_i [true, true, true, true, true, true, true, true, true, false, false] (fun pre9 => (va_runV (As := [vI 1, vI 2, vI 2]) (rest := []) ⟨hx, hb, hml, hown, hts⟩ (m_may l hl D cy sa mm m1 m9 m10 m11 m12 m13 m14 m15 m19 m20 m21 m23 m24 m25 m26 m27 m28 m33 m35 (u1.2.1 1) tp sz_ ap bad bk opn fp im nr nl sp_ wtc wcl ir ip shu sfa swr (u1.2.2 0) 1 2 2 H.size (by first | exact hq1_1 | omega) (by first | exact hr_tp | omega) (by first | exact hr_sz_ | omega) (by first | exact hr_ap | omega) (by first | exact hr_bad | omega) (by first | exact hr_bk | omega) (by first | exact hr_opn | omega) (by first | exact hr_fp | omega) (by first | exact hr_im | omega) (by first | exact hr_nr | omega) (by first | exact hr_nl | omega) (by first | exact hr_sp_ | omega) (by first | exact hr_wtc | omega) (by first | exact hr_wcl | omega) (by first | exact hr_ir | omega) (by first | exact hr_ip | omega) (by first | exact hr_shu | omega) (by first | exact hr_sfa | omega) (by first | exact hr_swr | omega) (by show (0 : Int) ≤ 1 ∧ (1 : Int) ≤ 1; decide) (by show (1 : Int) ≤ 2 ∧ (2 : Int) ≤ 4; decide) (by show (0 : Int) ≤ 2 ∧ (2 : Int) ≤ 3; decide)) (cwV 3 hts gg_3 rfl rfl rfl (by decide +kernel) ⟨Nat.le_of_ble_eq_true rfl, Nat.le_of_ble_eq_true rfl⟩) ⟨pcW.blind, (va_recv hG.1 hP (ci := 12) (q0 := 9) rfl rfl), pre9⟩ rfl rfl hlv.1 rfl (lv_room (Nat.le_of_ble_eq_true rfl)) dX12_stand_41 ⟨Nat.le_of_ble_eq_true rfl, Nat.le_of_ble_eq_true rfl⟩)) hP hD hS hA hG hT [9, 10] rfl (by decide +kernel) (fun r6 u6 H locs hw6 hq9 hS => ?_)
        obtain ⟨rfl, hq6_1, hq6_2, hq6_3, hq6_4⟩ := hw6
        obtain ⟨hP, hD⟩ := pd9 [zI m10 (cy 0) 68 f10, zI m12 (cy 0) 389 f12, zI m14 (cy 0) 389 f14, zI m23 (cy 0) 2480 f23, zI m24 (cy 0) 2480 f24, zI m25 (cy 0) 20 f25, zI m26 (cy 0) 20 f26, zI m27 (cy 0) 620 f27, zI m28 (cy 0) 7 f28, zO mm 12 [vI (u6.2.1 1), vR m1, vI tp, vI sz_, vI ap, vI bad, vI bk, vI opn, vI fp, vR m9, vR m10, vR m11, vR m12, vR m13, vR m14, vR m15, vI im, vI nr, vI nl, vR m19, vR m20, vR m21, vI sp_, vR m23, vR m24, vR m25, vR m26, vR m27, vR m28, vI wtc, vI wcl, vI ir, vI ip, vR m33, vI shu, vR m35, vI sfa, vI swr], zI m1 (cy 0) 4 (u6.2.2 0)] hq9
        refine iz_eq (tgt := 55) hx hb dX12_stand_44 (by decide) (by first | exact rgw hq6_2 (by decide) (by decide) | omega) (fun c_6 => ?_) (fun c_6 => ?_)
        · refine lv_iconst (v := iI 0) hx hb dX12_stand_55 (by decide) ?_
          refine W.widen (k := 0) (n := 0) (Nat.le_of_ble_eq_true rfl) (Nat.le_of_ble_eq_true rfl) ?_
          exact W.iret (v := iI 0) hx hb hr (fun t ht hW => ⟨⟨iI 0, ((fun k => ([] : List Nat).getD k 0), (fun k => ([0, (u6.2.1 1), ir, ip] : List Int).getD k 0), (fun k => ([(u6.2.2 0), f12, f14, f27, f28] : List (Nat → Int32)).getD k (fun _ => 0))), rfl, ⟨rfl, (by show ((-2147483648) ≤ (u6.2.1 1) ∧ (u6.2.1 1) ≤ 2147483647); first | exact hq6_1 | omega), (by show (0 ≤ ir ∧ ir ≤ 5); first | exact hr_ir | omega), (by show ((-2147483648) ≤ ip ∧ ip ≤ 2147483647); first | exact hr_ip | omega), (by show ((-2147483648) ≤ 0 ∧ 0 ≤ 2147483647); show ((-2147483648) : Int) ≤ 0 ∧ (0 : Int) ≤ 2147483647; decide), hf10, hf12, hf14⟩, at9 ht hP hD [9, 10, 0, 1, 2, 3, 4, 5, 6, 7, 8] (by decide +kernel) rfl⟩, hS.F ht⟩) hS.2.2 dX12_stand_56
        · refine lv_aload_n hx hb dX12_stand_47 rfl (lv_at hlv 0 rfl) ?_
          refine lv_iconst (v := iI 3) hx hb dX12_stand_48 (by decide) ?_
          refine cjr_i [false, true, true, true, true, true, true, true, true, false, false] (fun pre9 => (va_runV (As := [vI 3]) (rest := []) ⟨hx, hb, hml, hown, hts⟩ (m_isStreet l hl D cy sa mm m1 m9 m10 m11 m12 m13 m14 m15 m19 m20 m21 m23 m24 m25 m26 m27 m28 m33 m35 (u6.2.1 1) tp sz_ ap bad bk opn fp im nr nl sp_ wtc wcl ir ip shu sfa swr (u6.2.2 0) f10 3 H.size (by first | exact hq6_1 | omega) (by first | exact hr_tp | omega) (by first | exact hr_sz_ | omega) (by first | exact hr_ap | omega) (by first | exact hr_bad | omega) (by first | exact hr_bk | omega) (by first | exact hr_opn | omega) (by first | exact hr_fp | omega) (by first | exact hr_im | omega) (by first | exact hr_nr | omega) (by first | exact hr_nl | omega) (by first | exact hr_sp_ | omega) (by first | exact hr_wtc | omega) (by first | exact hr_wcl | omega) (by first | exact hr_ir | omega) (by first | exact hr_ip | omega) (by first | exact hr_shu | omega) (by first | exact hr_sfa | omega) (by first | exact hr_swr | omega) (by show (1 : Int) ≤ 3 ∧ (3 : Int) ≤ 4; decide) hf10) (cwV 1 hts gg_4 rfl rfl rfl (by decide +kernel) ⟨Nat.le_of_ble_eq_true rfl, Nat.le_of_ble_eq_true rfl⟩) ⟨pcW.blind, (va_recv hG.1 hP (ci := 12) (q0 := 9) rfl rfl), pre9⟩ rfl rfl hlv.1 rfl (lv_room (Nat.le_of_ble_eq_true rfl)) dX12_stand_49 ⟨Nat.le_of_ble_eq_true rfl, Nat.le_of_ble_eq_true rfl⟩)) hP hD hS hA hG hT [9, 10, 0] rfl (by decide +kernel) (fun r7 u7 H locs hw7 hq9 hS => ?_)
          obtain ⟨rfl, hq7_1, hq7_2, hq7_3, hq7_4⟩ := hw7
          obtain ⟨hP, hD⟩ := pd9 [zI m12 (cy 0) 389 f12, zI m14 (cy 0) 389 f14, zI m23 (cy 0) 2480 f23, zI m24 (cy 0) 2480 f24, zI m25 (cy 0) 20 f25, zI m26 (cy 0) 20 f26, zI m27 (cy 0) 620 f27, zI m28 (cy 0) 7 f28, zO mm 12 [vI (u7.2.1 1), vR m1, vI tp, vI sz_, vI ap, vI bad, vI bk, vI opn, vI fp, vR m9, vR m10, vR m11, vR m12, vR m13, vR m14, vR m15, vI im, vI nr, vI nl, vR m19, vR m20, vR m21, vI sp_, vR m23, vR m24, vR m25, vR m26, vR m27, vR m28, vI wtc, vI wcl, vI ir, vI ip, vR m33, vI shu, vR m35, vI sfa, vI swr], zI m1 (cy 0) 4 (u7.2.2 0), zI m10 (cy 0) 68 f10] hq9
          refine iz_ne (tgt := 57) hx hb dX12_stand_52 (by decide) (by first | exact rgw hq7_2 (by decide) (by decide) | omega) (fun c_7 => ?_) (fun c_7 => ?_)
          · refine lv_aload_n hx hb dX12_stand_57 rfl (lv_at hlv 0 rfl) ?_
            refine cjr_v [false, false, true, true, true, true, true, true, false, true, true] (fun pre9 => (va_runV (As := []) (rest := []) ⟨hx, hb, hml, hown, hts⟩ (m_keeps l hl D cy sa mm m1 m9 m10 m11 m12 m13 m14 m15 m19 m20 m21 m23 m24 m25 m26 m27 m28 m33 m35 (u7.2.1 1) tp sz_ ap bad bk opn fp im nr nl sp_ wtc wcl ir ip shu sfa swr f12 f14 qs H.size (by first | exact hq7_1 | omega) (by first | exact hr_tp | omega) (by first | exact hr_sz_ | omega) (by first | exact hr_ap | omega) (by first | exact hr_bad | omega) (by first | exact hr_bk | omega) (by first | exact hr_opn | omega) (by first | exact hr_fp | omega) (by first | exact hr_im | omega) (by first | exact hr_nr | omega) (by first | exact hr_nl | omega) (by first | exact hr_sp_ | omega) (by first | exact hr_wtc | omega) (by first | exact hr_wcl | omega) (by first | exact hr_ir | omega) (by first | exact hr_ip | omega) (by first | exact hr_shu | omega) (by first | exact hr_sfa | omega) (by first | exact hr_swr | omega) hf12 hf14) (cwV 0 hts gg_5 rfl rfl rfl (by decide +kernel) ⟨Nat.le_of_ble_eq_true rfl, Nat.le_of_ble_eq_true rfl⟩) ⟨pcW.blind, (va_recv hG.1 hP (ci := 12) (q0 := 8) rfl rfl), pre9⟩ rfl rfl hlv.1 rfl (lv_room (Nat.le_of_ble_eq_true rfl)) dX12_stand_58 ⟨Nat.le_of_ble_eq_true rfl, Nat.le_of_ble_eq_true rfl⟩)) hP hD hS hA hG hT [8, 0, 1] rfl (by decide +kernel) (fun u8 H locs hw8 hq9 hS => ?_)
            obtain ⟨hq8_0, hq8_1⟩ := hw8
            obtain ⟨hP, hD⟩ := pd9 [zI m23 (cy 0) 2480 f23, zI m24 (cy 0) 2480 f24, zI m25 (cy 0) 20 f25, zI m26 (cy 0) 20 f26, zI m27 (cy 0) 620 f27, zI m28 (cy 0) 7 f28, zI m1 (cy 0) 4 (u7.2.2 0), zI m10 (cy 0) 68 f10, zO mm 12 [vI (u7.2.1 1), vR m1, vI tp, vI sz_, vI ap, vI bad, vI bk, vI opn, vI fp, vR m9, vR m10, vR m11, vR m12, vR m13, vR m14, vR m15, vI im, vI nr, vI nl, vR m19, vR m20, vR m21, vI sp_, vR m23, vR m24, vR m25, vR m26, vR m27, vR m28, vI wtc, vI wcl, vI ir, vI ip, vR m33, vI shu, vR m35, vI sfa, vI swr], zI m12 (cy 0) 389 f12, zI m14 (cy 0) 389 (u8.2.2 0)] hq9
            refine lv_aload_n hx hb dX12_stand_61 rfl (lv_at hlv 0 rfl) ?_
            refine va_get (D := D) (ci := 12) (v := vR m12) (C := RX12) (T := TX12) (N := 38) hx hb hts hi12 hown hG.1 hP 8 rfl rfl 12 (by decide) lf29 (fun _ h9 => h9) rfl dX12_stand_62 ?_
            refine lv_sipush (v := iI 215) hx hb dX12_stand_65 (by decide) ?_
            refine va_iald hx hb hG.1 hP 9 0 rfl rfl (iI_in (by omega) (by decide)) dX12_stand_68 ?_
            refine lt_nz (i := 215) (by omega) (fun z_8 hz_8 lz_8 uz_8 => ?_)
            have hz_8 : z_8 = nz f12 215 := hz_8
            have hbz_8_10 := (hq8_0.1).2.2.1
            refine lv_istore (lv' := [(4, vI z_8), (0, vR mm), (1, vI n), (2, vI k), (3, vI w)]) hx hb dX12_stand_69 hlv (by decide) rfl (fun ls hlv => ?_)
            refine lv_iconst (v := iI (-1)) hx hb dX12_stand_71 (by decide) ?_
            refine lv_istore (lv' := [(5, vI (-1)), (4, vI z_8), (0, vR mm), (1, vI n), (2, vI k), (3, vI w)]) hx hb dX12_stand_72 hlv (by decide) rfl (fun ls hlv => ?_)
            refine lv_iconst (v := iI 0) hx hb dX12_stand_74 (by decide) ?_
            refine lv_istore (lv' := [(6, vI 0), (5, vI (-1)), (4, vI z_8), (0, vR mm), (1, vI n), (2, vI k), (3, vI w)]) hx hb dX12_stand_75 hlv (by decide) rfl (fun ls hlv => ?_)
            refine lv_iconst (v := iI 0) hx hb dX12_stand_77 (by decide) ?_
            refine lv_istore (lv' := [(7, vI 0), (6, vI 0), (5, vI (-1)), (4, vI z_8), (0, vR mm), (1, vI n), (2, vI k), (3, vI w)]) hx hb dX12_stand_78 hlv (by decide) rfl (fun ls hlv => ?_)
            refine (?_ : ∀ (fu : Nat) (q5 : Int) (q6 : Int) (q7 : Int) (qi : Int) (qp : Int) (wg : Nat → Int32) (kg : Nat → Int32) (ng : Nat → Int32) (H : Heap) (locs : List Loc) (ls : Array Slot), 16 - q7 < (fu : Int) → ((-1) ≤ q5 ∧ q5 ≤ 2000) → ((-2147483648) ≤ q6 ∧ q6 ≤ 2147483647) → (0 ≤ q7 ∧ q7 ≤ 16) → (0 ≤ qi ∧ qi ≤ 5) → ((-2147483648) ≤ qp ∧ qp ≤ 2147483647) → SQ qs 8 wg → va_P D vwCl [zI m23 (cy 0) 2480 f23, zI m24 (cy 0) 2480 f24, zI m25 (cy 0) 20 f25, zI m26 (cy 0) 20 f26, zI m27 (cy 0) 620 kg, zI m28 (cy 0) 7 ng, zI m1 (cy 0) 4 (u7.2.2 0), zI m10 (cy 0) 68 f10, zO mm 12 [vI (u7.2.1 1), vR m1, vI tp, vI sz_, vI ap, vI bad, vI bk, vI opn, vI fp, vR m9, vR m10, vR m11, vR m12, vR m13, vR m14, vR m15, vI im, vI nr, vI nl, vR m19, vR m20, vR m21, vI sp_, vR m23, vR m24, vR m25, vR m26, vR m27, vR m28, vI wtc, vI wcl, vI qi, vI qp, vR m33, vI shu, vR m35, vI sfa, vI swr], zI m12 (cy 0) 389 wg, zI m14 (cy 0) 389 (u8.2.2 0)] H → va_D A [zI m23 (cy 0) 2480 f23, zI m24 (cy 0) 2480 f24, zI m25 (cy 0) 20 f25, zI m26 (cy 0) 20 f26, zI m27 (cy 0) 620 kg, zI m28 (cy 0) 7 ng, zI m1 (cy 0) 4 (u7.2.2 0), zI m10 (cy 0) 68 f10, zO mm 12 [vI (u7.2.1 1), vR m1, vI tp, vI sz_, vI ap, vI bad, vI bk, vI opn, vI fp, vR m9, vR m10, vR m11, vR m12, vR m13, vR m14, vR m15, vI im, vI nr, vI nl, vR m19, vR m20, vR m21, vI sp_, vR m23, vR m24, vR m25, vR m26, vR m27, vR m28, vI wtc, vI wcl, vI qi, vI qp, vR m33, vI shu, vR m35, vI sfa, vI swr], zI m12 (cy 0) 389 wg, zI m14 (cy 0) 389 (u8.2.2 0)] → va_S A s.heap H locs → lv_has ls 10 [(7, vI q7), (6, vI q6), (5, vI q5), (4, vI z_8), (0, vR mm), (1, vI n), (2, vI k), (3, vI w)] → W p l e _ s m _ below meth c H locs _ _ _ (F0 m 80 ls [])) (((16 - 0) + 1 : Int)).toNat (-1) 0 0 ir ip f12 f27 f28 _ _ _ (by omega) (by show ((-1) : Int) ≤ (-1) ∧ ((-1) : Int) ≤ 2000; decide) (by show ((-2147483648) : Int) ≤ 0 ∧ (0 : Int) ≤ 2147483647; decide) (by show (0 : Int) ≤ 0 ∧ (0 : Int) ≤ 16; decide) (by first | exact hr_ir | omega) (by first | exact hr_ip | omega) hq8_0 hP hD hS hlv
            clear hP hD hS hlv
            intro fu
            induction fu with
            | zero => intro q5 q6 q7 qi qp wg kg ng H locs ls hm80 hl80_0 hl80_1 hl80_2 hl80_3 hl80_4 hiwg hP hD hS hlv; omega
            | succ fu ih80 =>
              intro q5 q6 q7 qi qp wg kg ng H locs ls hm80 hl80_0 hl80_1 hl80_2 hl80_3 hl80_4 hiwg hP hD hS hlv
              refine lv_iload hx hb dX12_stand_80 (lv_at hlv 0 rfl) ?_
              refine lv_aload_n hx hb dX12_stand_82 rfl (lv_at hlv 4 rfl) ?_
              refine va_get (D := D) (ci := 12) (v := vR m10) (C := RX12) (T := TX12) (N := 38) hx hb hts hi12 hown hG.1 hP 8 rfl rfl 10 (by decide) lf23 (fun _ h9 => h9) rfl dX12_stand_83 ?_
              refine lv_iconst (v := iI 0) hx hb dX12_stand_86 (by decide) ?_
              refine va_iald hx hb hG.1 hP 7 0 rfl rfl (iI_in (by omega) (by decide)) dX12_stand_87 ?_
              refine lt_nz (i := 0) (by omega) (fun z_9 hz_9 lz_9 uz_9 => ?_)
              have hz_9 : z_9 = nz f10 0 := hz_9
              have hbz_9_7 := hq7_4.1.1
              have hbz_9_8 := hq7_4.2.1
              have hbz_9_9 := hq7_4.2.2
              refine ir_ge (tgt := 215) hx hb dX12_stand_88 (by decide) (by first | exact rgw hl80_2 (by decide) (by decide) | omega) (by omega) (fun c_10 => ?_) (fun c_10 => ?_)
              · refine lv_iload_n hx hb dX12_stand_215 rfl (lv_at hlv 7 rfl) ?_
                refine iz_ne (tgt := 224) hx hb dX12_stand_216 (by decide) (by first | exact hr_w | omega) (fun c_11 => ?_) (fun c_11 => ?_)
                · refine lv_iload hx hb dX12_stand_224 (lv_at hlv 1 rfl) ?_
                  refine W.widen (k := 0) (n := 0) (Nat.le_of_ble_eq_true rfl) (Nat.le_of_ble_eq_true rfl) ?_
                  exact W.iret (v := iI q6) hx hb hr (fun t ht hW => ⟨⟨iI q6, ((fun k => ([] : List Nat).getD k 0), (fun k => ([q6, (u7.2.1 1), qi, qp] : List Int).getD k 0), (fun k => ([(u7.2.2 0), wg, (u8.2.2 0), kg, ng] : List (Nat → Int32)).getD k (fun _ => 0))), rfl, ⟨rfl, (by show ((-2147483648) ≤ (u7.2.1 1) ∧ (u7.2.1 1) ≤ 2147483647); first | exact hq7_1 | omega), (by show (0 ≤ qi ∧ qi ≤ 5); first | exact hl80_3 | omega), (by show ((-2147483648) ≤ qp ∧ qp ≤ 2147483647); first | exact hl80_4 | omega), (by show ((-2147483648) ≤ q6 ∧ q6 ≤ 2147483647); first | exact hl80_1 | omega), hq7_4, hiwg, (hq8_1.1)⟩, at9 ht hP hD [8, 6, 7, 9, 10, 0, 1, 2, 3, 4, 5] (by decide +kernel) rfl⟩, hS.F ht⟩) hS.2.2 dX12_stand_226
                · refine lv_iload hx hb dX12_stand_219 (lv_at hlv 2 rfl) ?_
                  refine lv_goto (tgt := 226) hx hb dX12_stand_221 (by decide) ?_
                  refine W.widen (k := 0) (n := 0) (Nat.le_of_ble_eq_true rfl) (Nat.le_of_ble_eq_true rfl) ?_
                  exact W.iret (v := iI q5) hx hb hr (fun t ht hW => ⟨⟨iI q5, ((fun k => ([] : List Nat).getD k 0), (fun k => ([q5, (u7.2.1 1), qi, qp] : List Int).getD k 0), (fun k => ([(u7.2.2 0), wg, (u8.2.2 0), kg, ng] : List (Nat → Int32)).getD k (fun _ => 0))), rfl, ⟨rfl, (by show ((-2147483648) ≤ (u7.2.1 1) ∧ (u7.2.1 1) ≤ 2147483647); first | exact hq7_1 | omega), (by show (0 ≤ qi ∧ qi ≤ 5); first | exact hl80_3 | omega), (by show ((-2147483648) ≤ qp ∧ qp ≤ 2147483647); first | exact hl80_4 | omega), (by show ((-2147483648) ≤ q5 ∧ q5 ≤ 2147483647); first | exact rgw hl80_0 (by decide) (by decide) | omega), hq7_4, hiwg, (hq8_1.1)⟩, at9 ht hP hD [8, 6, 7, 9, 10, 0, 1, 2, 3, 4, 5] (by decide +kernel) rfl⟩, hS.F ht⟩) hS.2.2 dX12_stand_226
              · refine lv_iconst (v := iI 0) hx hb dX12_stand_91 (by decide) ?_
                refine lv_istore (lv' := [(8, vI 0), (7, vI q7), (6, vI q6), (5, vI q5), (4, vI z_8), (0, vR mm), (1, vI n), (2, vI k), (3, vI w)]) hx hb dX12_stand_92 hlv (by decide) rfl (fun ls hlv => ?_)
                refine (?_ : ∀ (fu : Nat) (r5 : Int) (r6 : Int) (r8 : Int) (ri : Int) (rp : Int) (wh : Nat → Int32) (kh : Nat → Int32) (nh : Nat → Int32) (H : Heap) (locs : List Loc) (ls : Array Slot), 20 - r8 < (fu : Int) → ((-1) ≤ r5 ∧ r5 ≤ 2000) → ((-2147483648) ≤ r6 ∧ r6 ≤ 2147483647) → (0 ≤ r8 ∧ r8 ≤ 20) → (0 ≤ ri ∧ ri ≤ 5) → ((-2147483648) ≤ rp ∧ rp ≤ 2147483647) → SQ qs 8 wh → va_P D vwCl [zI m23 (cy 0) 2480 f23, zI m24 (cy 0) 2480 f24, zI m25 (cy 0) 20 f25, zI m26 (cy 0) 20 f26, zI m27 (cy 0) 620 kh, zI m28 (cy 0) 7 nh, zI m1 (cy 0) 4 (u7.2.2 0), zI m10 (cy 0) 68 f10, zO mm 12 [vI (u7.2.1 1), vR m1, vI tp, vI sz_, vI ap, vI bad, vI bk, vI opn, vI fp, vR m9, vR m10, vR m11, vR m12, vR m13, vR m14, vR m15, vI im, vI nr, vI nl, vR m19, vR m20, vR m21, vI sp_, vR m23, vR m24, vR m25, vR m26, vR m27, vR m28, vI wtc, vI wcl, vI ri, vI rp, vR m33, vI shu, vR m35, vI sfa, vI swr], zI m12 (cy 0) 389 wh, zI m14 (cy 0) 389 (u8.2.2 0)] H → va_D A [zI m23 (cy 0) 2480 f23, zI m24 (cy 0) 2480 f24, zI m25 (cy 0) 20 f25, zI m26 (cy 0) 20 f26, zI m27 (cy 0) 620 kh, zI m28 (cy 0) 7 nh, zI m1 (cy 0) 4 (u7.2.2 0), zI m10 (cy 0) 68 f10, zO mm 12 [vI (u7.2.1 1), vR m1, vI tp, vI sz_, vI ap, vI bad, vI bk, vI opn, vI fp, vR m9, vR m10, vR m11, vR m12, vR m13, vR m14, vR m15, vI im, vI nr, vI nl, vR m19, vR m20, vR m21, vI sp_, vR m23, vR m24, vR m25, vR m26, vR m27, vR m28, vI wtc, vI wcl, vI ri, vI rp, vR m33, vI shu, vR m35, vI sfa, vI swr], zI m12 (cy 0) 389 wh, zI m14 (cy 0) 389 (u8.2.2 0)] → va_S A s.heap H locs → lv_has ls 10 [(8, vI r8), (7, vI q7), (6, vI r6), (5, vI r5), (4, vI z_8), (0, vR mm), (1, vI n), (2, vI k), (3, vI w)] → W p l e _ s m _ below meth c H locs _ _ _ (F0 m 94 ls [])) (((20 - 0) + 1 : Int)).toNat q5 q6 0 qi qp wg kg ng _ _ _ (by omega) (by first | exact hl80_0 | omega) (by first | exact hl80_1 | omega) (by show (0 : Int) ≤ 0 ∧ (0 : Int) ≤ 20; decide) (by first | exact hl80_3 | omega) (by first | exact hl80_4 | omega) hiwg hP hD hS hlv
                clear hP hD hS hlv
                intro fu
                induction fu with
                | zero => intro r5 r6 r8 ri rp wh kh nh H locs ls hm94 hl94_0 hl94_1 hl94_2 hl94_3 hl94_4 hiwh hP hD hS hlv; omega
                | succ fu ih94 =>
                  intro r5 r6 r8 ri rp wh kh nh H locs ls hm94 hl94_0 hl94_1 hl94_2 hl94_3 hl94_4 hiwh hP hD hS hlv
                  refine lv_iload hx hb dX12_stand_94 (lv_at hlv 0 rfl) ?_
                  refine lv_iload_n hx hb dX12_stand_96 rfl (lv_at hlv 7 rfl) ?_
                  refine ir_gt (tgt := 209) hx hb dX12_stand_97 (by decide) (by first | exact rgw hl94_2 (by decide) (by decide) | omega) (by first | exact hr_k | omega) (fun c_12 => ?_) (fun c_12 => ?_)
                  · obtain ⟨z_13, hz_13⟩ : ∃ z : Int, z = q7 + 1 := ⟨_, rfl⟩
                    refine lv_iinc (v := iI z_13) (lv' := [(7, vI z_13), (8, vI r8), (6, vI r6), (5, vI r5), (4, vI z_8), (0, vR mm), (1, vI n), (2, vI k), (3, vI w)]) hx hb dX12_stand_209 hlv (k := 1) rfl (by rw [hz_13]; exact (Int32.ofInt_add _ _).symm) (by decide) rfl (fun ls hlv => ?_)
                    refine lv_goto (tgt := 80) hx hb dX12_stand_212 (by decide) ?_
                    exact ih80 r5 r6 z_13 ri rp wh kh nh H locs ls (by omega) (by first | exact hl94_0 | omega) (by first | exact hl94_1 | omega) (by omega) (by first | exact hl94_3 | omega) (by first | exact hl94_4 | omega) hiwh (hP.sub [0, 1, 2, 3, 4, 5, 6, 7, 8, 9, 10] rfl) (hD.sub [0, 1, 2, 3, 4, 5, 6, 7, 8, 9, 10] (by decide) rfl) hS (lv_sub hlv [0, 2, 3, 4, 5, 6, 7, 8] rfl)
                  · refine lv_aload_n hx hb dX12_stand_100 rfl (lv_at hlv 5 rfl) ?_
                    refine va_get (D := D) (ci := 12) (v := vR m12) (C := RX12) (T := TX12) (N := 38) hx hb hts hi12 hown hG.1 hP 8 rfl rfl 12 (by decide) lf29 (fun _ h9 => h9) rfl dX12_stand_101 ?_
                    refine lv_sipush (v := iI 216) hx hb dX12_stand_104 (by decide) ?_
                    refine lv_iload hx hb dX12_stand_107 (lv_at hlv 4 rfl) ?_
                    refine lv_iadd hx hb dX12_stand_109 ?_
                    refine lt_e (e0 := 216 + z_8) (Int32.ofInt_add _ _).symm (fun z_14 hz_14 => ?_)
                    refine lv_iload hx hb dX12_stand_110 (lv_at hlv 1 rfl) ?_
                    refine va_iast hx hb hG.1 hP hD hS 9 0 rfl rfl (iI_in (by omega) (by decide)) dX12_stand_112 (fun H locs hP hD hS => ?_)
                    obtain ⟨f_15, hdf_15, hP, hD⟩ := pe9e (fun f_15 => [zI m23 (cy 0) 2480 f23, zI m24 (cy 0) 2480 f24, zI m25 (cy 0) 20 f25, zI m26 (cy 0) 20 f26, zI m27 (cy 0) 620 kh, zI m28 (cy 0) 7 nh, zI m1 (cy 0) 4 (u7.2.2 0), zI m10 (cy 0) 68 f10, zO mm 12 [vI (u7.2.1 1), vR m1, vI tp, vI sz_, vI ap, vI bad, vI bk, vI opn, vI fp, vR m9, vR m10, vR m11, vR m12, vR m13, vR m14, vR m15, vI im, vI nr, vI nl, vR m19, vR m20, vR m21, vI sp_, vR m23, vR m24, vR m25, vR m26, vR m27, vR m28, vI wtc, vI wcl, vI ri, vI rp, vR m33, vI shu, vR m35, vI sfa, vI swr], zI m12 (cy 0) 389 f_15, zI m14 (cy 0) 389 (u8.2.2 0)]) (upd wh (iI z_14).toNatClampNeg (iI q7)) hP hD
                    have hif_15 : SQ qs 8 f_15 := ⟨SI.wo (hiwh.1) hdf_15 (by omega) (by omega) (by omega) (by omega), (SQ.fr hiwh.2 hdf_15 (by omega) (by omega))⟩
                    refine lv_aload_n hx hb dX12_stand_113 rfl (lv_at hlv 5 rfl) ?_
                    refine va_get (D := D) (ci := 12) (v := vR m12) (C := RX12) (T := TX12) (N := 38) hx hb hts hi12 hown hG.1 hP 8 rfl rfl 12 (by decide) lf29 (fun _ h9 => h9) rfl dX12_stand_114 ?_
                    refine lv_sipush (v := iI 225) hx hb dX12_stand_117 (by decide) ?_
                    refine lv_iload hx hb dX12_stand_120 (lv_at hlv 4 rfl) ?_
                    refine lv_iadd hx hb dX12_stand_122 ?_
                    refine lt_e (e0 := 225 + z_8) (Int32.ofInt_add _ _).symm (fun z_16 hz_16 => ?_)
                    refine lv_iload hx hb dX12_stand_123 (lv_at hlv 0 rfl) ?_
                    refine va_iast hx hb hG.1 hP hD hS 9 0 rfl rfl (iI_in (by omega) (by decide)) dX12_stand_125 (fun H locs hP hD hS => ?_)
                    obtain ⟨f_17, hdf_17, hP, hD⟩ := pe9e (fun f_17 => [zI m23 (cy 0) 2480 f23, zI m24 (cy 0) 2480 f24, zI m25 (cy 0) 20 f25, zI m26 (cy 0) 20 f26, zI m27 (cy 0) 620 kh, zI m28 (cy 0) 7 nh, zI m1 (cy 0) 4 (u7.2.2 0), zI m10 (cy 0) 68 f10, zO mm 12 [vI (u7.2.1 1), vR m1, vI tp, vI sz_, vI ap, vI bad, vI bk, vI opn, vI fp, vR m9, vR m10, vR m11, vR m12, vR m13, vR m14, vR m15, vI im, vI nr, vI nl, vR m19, vR m20, vR m21, vI sp_, vR m23, vR m24, vR m25, vR m26, vR m27, vR m28, vI wtc, vI wcl, vI ri, vI rp, vR m33, vI shu, vR m35, vI sfa, vI swr], zI m12 (cy 0) 389 f_17, zI m14 (cy 0) 389 (u8.2.2 0)]) (upd f_15 (iI z_16).toNatClampNeg (iI r8)) hP hD
                    have hif_17 : SQ qs 8 f_17 := ⟨SI.wo (hif_15.1) hdf_17 (by omega) (by omega) (by omega) (by omega), (SQ.fr hif_15.2 hdf_17 (by omega) (by omega))⟩
                    refine lv_aload_n hx hb dX12_stand_126 rfl (lv_at hlv 5 rfl) ?_
                    refine va_get (D := D) (ci := 12) (v := vR m12) (C := RX12) (T := TX12) (N := 38) hx hb hts hi12 hown hG.1 hP 8 rfl rfl 12 (by decide) lf29 (fun _ h9 => h9) rfl dX12_stand_127 ?_
                    refine lv_sipush (v := iI 234) hx hb dX12_stand_130 (by decide) ?_
                    refine lv_iload hx hb dX12_stand_133 (lv_at hlv 4 rfl) ?_
                    refine lv_iadd hx hb dX12_stand_135 ?_
                    refine lt_e (e0 := 234 + z_8) (Int32.ofInt_add _ _).symm (fun z_18 hz_18 => ?_)
                    refine lv_iconst (v := iI 0) hx hb dX12_stand_136 (by decide) ?_
                    refine va_iast hx hb hG.1 hP hD hS 9 0 rfl rfl (iI_in (by omega) (by decide)) dX12_stand_137 (fun H locs hP hD hS => ?_)
                    obtain ⟨f_19, hdf_19, hP, hD⟩ := pe9e (fun f_19 => [zI m23 (cy 0) 2480 f23, zI m24 (cy 0) 2480 f24, zI m25 (cy 0) 20 f25, zI m26 (cy 0) 20 f26, zI m27 (cy 0) 620 kh, zI m28 (cy 0) 7 nh, zI m1 (cy 0) 4 (u7.2.2 0), zI m10 (cy 0) 68 f10, zO mm 12 [vI (u7.2.1 1), vR m1, vI tp, vI sz_, vI ap, vI bad, vI bk, vI opn, vI fp, vR m9, vR m10, vR m11, vR m12, vR m13, vR m14, vR m15, vI im, vI nr, vI nl, vR m19, vR m20, vR m21, vI sp_, vR m23, vR m24, vR m25, vR m26, vR m27, vR m28, vI wtc, vI wcl, vI ri, vI rp, vR m33, vI shu, vR m35, vI sfa, vI swr], zI m12 (cy 0) 389 f_19, zI m14 (cy 0) 389 (u8.2.2 0)]) (upd f_17 (iI z_18).toNatClampNeg (iI 0)) hP hD
                    have hif_19 : SQ qs 8 f_19 := ⟨SI.wo (hif_17.1) hdf_19 (by omega) (by omega) (by omega) (by omega), (SQ.fr hif_17.2 hdf_19 (by omega) (by omega))⟩
                    refine lv_aload_n hx hb dX12_stand_138 rfl (lv_at hlv 5 rfl) ?_
                    refine va_get (D := D) (ci := 12) (v := vR m12) (C := RX12) (T := TX12) (N := 38) hx hb hts hi12 hown hG.1 hP 8 rfl rfl 12 (by decide) lf29 (fun _ h9 => h9) rfl dX12_stand_139 ?_
                    refine lv_sipush (v := iI 215) hx hb dX12_stand_142 (by decide) ?_
                    refine lv_iload hx hb dX12_stand_145 (lv_at hlv 4 rfl) ?_
                    refine lv_iconst (v := iI 1) hx hb dX12_stand_147 (by decide) ?_
                    refine lv_iadd hx hb dX12_stand_148 ?_
                    refine lt_e (e0 := z_8 + 1) (Int32.ofInt_add _ _).symm (fun z_20 hz_20 => ?_)
                    refine va_iast hx hb hG.1 hP hD hS 9 0 rfl rfl (iI_in (by omega) (by decide)) dX12_stand_149 (fun H locs hP hD hS => ?_)
                    obtain ⟨f_21, hdf_21, hP, hD⟩ := pe9e (fun f_21 => [zI m23 (cy 0) 2480 f23, zI m24 (cy 0) 2480 f24, zI m25 (cy 0) 20 f25, zI m26 (cy 0) 20 f26, zI m27 (cy 0) 620 kh, zI m28 (cy 0) 7 nh, zI m1 (cy 0) 4 (u7.2.2 0), zI m10 (cy 0) 68 f10, zO mm 12 [vI (u7.2.1 1), vR m1, vI tp, vI sz_, vI ap, vI bad, vI bk, vI opn, vI fp, vR m9, vR m10, vR m11, vR m12, vR m13, vR m14, vR m15, vI im, vI nr, vI nl, vR m19, vR m20, vR m21, vI sp_, vR m23, vR m24, vR m25, vR m26, vR m27, vR m28, vI wtc, vI wcl, vI ri, vI rp, vR m33, vI shu, vR m35, vI sfa, vI swr], zI m12 (cy 0) 389 f_21, zI m14 (cy 0) 389 (u8.2.2 0)]) (upd f_19 (iI 215).toNatClampNeg (iI z_20)) hP hD
                    have hif_21 : SQ qs 9 f_21 := ⟨SI.wk (pm := 8) (hif_19.1) hdf_21 (by omega) (by omega), (SQ.fr hif_19.2 hdf_21 (by omega) (by omega))⟩
                    refine lv_aload_n hx hb dX12_stand_150 rfl (lv_at hlv 5 rfl) ?_
                    refine lv_iload_n hx hb dX12_stand_151 rfl (lv_at hlv 6 rfl) ?_
                    refine cjr_i [false, false, false, false, false, false, true, false, false, false, true] (fun pre9 => (va_runV (As := [vI n]) (rest := []) ⟨hx, hb, hml, hown, hts⟩ (m_allPass l hl D cy sa mm m1 m9 m10 m11 m12 m13 m14 m15 m19 m20 m21 m23 m24 m25 m26 m27 m28 m33 m35 (u7.2.1 1) tp sz_ ap bad bk opn fp im nr nl sp_ wtc wcl ri rp shu sfa swr f10 f_21 f23 f24 f25 f26 kh nh n qs 9 H.size (by first | exact hq7_1 | omega) (by first | exact hr_tp | omega) (by first | exact hr_sz_ | omega) (by first | exact hr_ap | omega) (by first | exact hr_bad | omega) (by first | exact hr_bk | omega) (by first | exact hr_opn | omega) (by first | exact hr_fp | omega) (by first | exact hr_im | omega) (by first | exact hr_nr | omega) (by first | exact hr_nl | omega) (by first | exact hr_sp_ | omega) (by first | exact hr_wtc | omega) (by first | exact hr_wcl | omega) (by first | exact hl94_3 | omega) (by first | exact hl94_4 | omega) (by first | exact hr_shu | omega) (by first | exact hr_sfa | omega) (by first | exact hr_swr | omega) (by omega) (by show (8 : Int) ≤ 9 ∧ (9 : Int) ≤ 9; decide) (by omega) (by omega) hn_li hq7_4 hif_21) (cwV 1 hts gg_6 rfl rfl rfl (by decide +kernel) ⟨Nat.le_of_ble_eq_true rfl, Nat.le_of_ble_eq_true rfl⟩) ⟨pcW.blind, (va_recv hG.1 hP (ci := 12) (q0 := 8) rfl rfl), pre9⟩ rfl rfl hlv.1 rfl (lv_room (Nat.le_of_ble_eq_true rfl)) dX12_stand_152 ⟨Nat.le_of_ble_eq_true rfl, Nat.le_of_ble_eq_true rfl⟩)) hP hD hS hA hG hT [8, 7, 9, 0, 1, 2, 3, 4, 5] rfl (by decide +kernel) (fun r9 u9 H locs hw9 hq9 hS => ?_)
                    obtain ⟨rfl, hq9_1, hq9_2, hq9_3, hq9_4, hq9_5⟩ := hw9
                    obtain ⟨hP, hD⟩ := pd9 [zI m1 (cy 0) 4 (u7.2.2 0), zI m14 (cy 0) 389 (u8.2.2 0), zO mm 12 [vI (u7.2.1 1), vR m1, vI tp, vI sz_, vI ap, vI bad, vI bk, vI opn, vI fp, vR m9, vR m10, vR m11, vR m12, vR m13, vR m14, vR m15, vI im, vI nr, vI nl, vR m19, vR m20, vR m21, vI sp_, vR m23, vR m24, vR m25, vR m26, vR m27, vR m28, vI wtc, vI wcl, vI (u9.2.1 1), vI (u9.2.1 2), vR m33, vI shu, vR m35, vI sfa, vI swr], zI m10 (cy 0) 68 f10, zI m12 (cy 0) 389 (u9.2.2 0), zI m23 (cy 0) 2480 f23, zI m24 (cy 0) 2480 f24, zI m25 (cy 0) 20 f25, zI m26 (cy 0) 20 f26, zI m27 (cy 0) 620 (u9.2.2 1), zI m28 (cy 0) 7 (u9.2.2 2)] hq9
                    refine lv_pop hx hb dX12_stand_155 rfl ?_
                    refine lv_aload_n hx hb dX12_stand_156 rfl (lv_at hlv 5 rfl) ?_
                    refine va_get (D := D) (ci := 12) (v := vR m12) (C := RX12) (T := TX12) (N := 38) hx hb hts hi12 hown hG.1 hP 2 rfl rfl 12 (by decide) lf29 (fun _ h9 => h9) rfl dX12_stand_157 ?_
                    refine lv_sipush (v := iI 234) hx hb dX12_stand_160 (by decide) ?_
                    refine lv_iload hx hb dX12_stand_163 (lv_at hlv 4 rfl) ?_
                    refine lv_iadd hx hb dX12_stand_165 ?_
                    refine lt_e (e0 := 234 + z_8) (Int32.ofInt_add _ _).symm (fun z_22 hz_22 => ?_)
                    refine va_iald hx hb hG.1 hP 4 0 rfl rfl (iI_in (by omega) (by decide)) dX12_stand_166 ?_
                    refine lt_nz (i := z_22) (by omega) (fun z_23 hz_23 lz_23 uz_23 => ?_)
                    refine lv_istore (lv' := [(9, vI z_23), (8, vI r8), (7, vI q7), (6, vI r6), (5, vI r5), (4, vI z_8), (0, vR mm), (1, vI n), (2, vI k), (3, vI w)]) hx hb dX12_stand_167 hlv (by decide) rfl (fun ls hlv => ?_)
                    refine lv_aload_n hx hb dX12_stand_169 rfl (lv_at hlv 6 rfl) ?_
                    refine cjr_v [true, false, false, true, false, true, true, true, true, true, true] (fun pre9 => (va_runV (As := []) (rest := []) ⟨hx, hb, hml, hown, hts⟩ (m_back l hl D cy sa mm m1 m9 m10 m11 m12 m13 m14 m15 m19 m20 m21 m23 m24 m25 m26 m27 m28 m33 m35 (u7.2.1 1) tp sz_ ap bad bk opn fp im nr nl sp_ wtc wcl (u9.2.1 1) (u9.2.1 2) shu sfa swr (u9.2.2 0) (u8.2.2 0) 9 qs H.size (by first | exact hq7_1 | omega) (by first | exact hr_tp | omega) (by first | exact hr_sz_ | omega) (by first | exact hr_ap | omega) (by first | exact hr_bad | omega) (by first | exact hr_bk | omega) (by first | exact hr_opn | omega) (by first | exact hr_fp | omega) (by first | exact hr_im | omega) (by first | exact hr_nr | omega) (by first | exact hr_nl | omega) (by first | exact hr_sp_ | omega) (by first | exact hr_wtc | omega) (by first | exact hr_wcl | omega) (by first | exact hq9_1 | omega) (by first | exact hq9_2 | omega) (by first | exact hr_shu | omega) (by first | exact hr_sfa | omega) (by first | exact hr_swr | omega) (by show (8 : Int) ≤ 9 ∧ (9 : Int) ≤ 9; decide) (hq9_5.1) hq8_1) (cwV 0 hts gg_7 rfl rfl rfl (by decide +kernel) ⟨Nat.le_of_ble_eq_true rfl, Nat.le_of_ble_eq_true rfl⟩) ⟨pcW.blind, (va_recv hG.1 hP (ci := 12) (q0 := 2) rfl rfl), pre9⟩ rfl rfl hlv.1 rfl (lv_room (Nat.le_of_ble_eq_true rfl)) dX12_stand_170 ⟨Nat.le_of_ble_eq_true rfl, Nat.le_of_ble_eq_true rfl⟩)) hP hD hS hA hG hT [2, 4, 1] rfl (by decide +kernel) (fun u10 H locs hw10 hq9 hS => ?_)
                    obtain ⟨hq10_0, hq10_1⟩ := hw10
                    obtain ⟨hP, hD⟩ := pd9 [zI m1 (cy 0) 4 (u7.2.2 0), zI m10 (cy 0) 68 f10, zI m23 (cy 0) 2480 f23, zI m24 (cy 0) 2480 f24, zI m25 (cy 0) 20 f25, zI m26 (cy 0) 20 f26, zI m27 (cy 0) 620 (u9.2.2 1), zI m28 (cy 0) 7 (u9.2.2 2), zO mm 12 [vI (u7.2.1 1), vR m1, vI tp, vI sz_, vI ap, vI bad, vI bk, vI opn, vI fp, vR m9, vR m10, vR m11, vR m12, vR m13, vR m14, vR m15, vI im, vI nr, vI nl, vR m19, vR m20, vR m21, vI sp_, vR m23, vR m24, vR m25, vR m26, vR m27, vR m28, vI wtc, vI wcl, vI (u9.2.1 1), vI (u9.2.1 2), vR m33, vI shu, vR m35, vI sfa, vI swr], zI m12 (cy 0) 389 (u10.2.2 0), zI m14 (cy 0) 389 (u8.2.2 0)] hq9
                    refine lv_iload hx hb dX12_stand_173 (lv_at hlv 4 rfl) ?_
                    refine lv_iconst (v := iI (-1)) hx hb dX12_stand_175 (by decide) ?_
                    refine ir_eq (tgt := 189) hx hb dX12_stand_176 (by decide) (by first | exact rgw hl94_0 (by decide) (by decide) | omega) (by show ((-2147483648) : Int) ≤ (-1) ∧ ((-1) : Int) ≤ 2147483647; decide) (fun c_24 => ?_) (fun c_24 => ?_)
                    · refine lv_bipush (v := iI 100) hx hb dX12_stand_189 (by decide) ?_
                      refine lv_iload hx hb dX12_stand_191 (lv_at hlv 2 rfl) ?_
                      refine lv_imul hx hb dX12_stand_193 ?_
                      refine lt_e (e0 := 100 * q7) (Int32.ofInt_mul _ _).symm (fun z_25 hz_25 => ?_)
                      refine lv_iload hx hb dX12_stand_194 (lv_at hlv 1 rfl) ?_
                      refine lv_iadd hx hb dX12_stand_196 ?_
                      refine lt_e (e0 := z_25 + r8) (Int32.ofInt_add _ _).symm (fun z_26 hz_26 => ?_)
                      refine lv_istore (lv' := [(5, vI z_26), (9, vI z_23), (8, vI r8), (7, vI q7), (6, vI r6), (4, vI z_8), (0, vR mm), (1, vI n), (2, vI k), (3, vI w)]) hx hb dX12_stand_197 hlv (by decide) rfl (fun ls hlv => ?_)
                      refine lv_iload hx hb dX12_stand_199 (lv_at hlv 1 rfl) ?_
                      refine lv_istore (lv' := [(6, vI z_23), (5, vI z_26), (9, vI z_23), (8, vI r8), (7, vI q7), (4, vI z_8), (0, vR mm), (1, vI n), (2, vI k), (3, vI w)]) hx hb dX12_stand_201 hlv (by decide) rfl (fun ls hlv => ?_)
                      obtain ⟨z_27, hz_27⟩ : ∃ z : Int, z = r8 + 1 := ⟨_, rfl⟩
                      refine lv_iinc (v := iI z_27) (lv' := [(8, vI z_27), (6, vI z_23), (5, vI z_26), (9, vI z_23), (7, vI q7), (4, vI z_8), (0, vR mm), (1, vI n), (2, vI k), (3, vI w)]) hx hb dX12_stand_203 hlv (k := 3) rfl (by rw [hz_27]; exact (Int32.ofInt_add _ _).symm) (by decide) rfl (fun ls hlv => ?_)
                      refine lv_goto (tgt := 94) hx hb dX12_stand_206 (by decide) ?_
                      exact ih94 z_26 z_23 z_27 (u9.2.1 1) (u9.2.1 2) (u10.2.2 0) (u9.2.2 1) (u9.2.2 2) H locs ls (by omega) (by omega) (by omega) (by omega) (by first | exact hq9_1 | omega) (by first | exact hq9_2 | omega) hq10_0 (hP.sub [2, 3, 4, 5, 6, 7, 0, 1, 8, 9, 10] rfl) (hD.sub [2, 3, 4, 5, 6, 7, 0, 1, 8, 9, 10] (by decide) rfl) hS (lv_sub hlv [0, 4, 1, 2, 5, 6, 7, 8, 9] rfl)
                    · refine lv_iload hx hb dX12_stand_179 (lv_at hlv 0 rfl) ?_
                      refine lv_iload hx hb dX12_stand_181 (lv_at hlv 3 rfl) ?_
                      refine ir_lt (tgt := 189) hx hb dX12_stand_183 (by decide) (by omega) (by first | exact hl94_1 | omega) (fun c_28 => ?_) (fun c_28 => ?_)
                      · refine lv_bipush (v := iI 100) hx hb dX12_stand_189 (by decide) ?_
                        refine lv_iload hx hb dX12_stand_191 (lv_at hlv 2 rfl) ?_
                        refine lv_imul hx hb dX12_stand_193 ?_
                        refine lt_e (e0 := 100 * q7) (Int32.ofInt_mul _ _).symm (fun z_29 hz_29 => ?_)
                        refine lv_iload hx hb dX12_stand_194 (lv_at hlv 1 rfl) ?_
                        refine lv_iadd hx hb dX12_stand_196 ?_
                        refine lt_e (e0 := z_29 + r8) (Int32.ofInt_add _ _).symm (fun z_30 hz_30 => ?_)
                        refine lv_istore (lv' := [(5, vI z_30), (9, vI z_23), (8, vI r8), (7, vI q7), (6, vI r6), (4, vI z_8), (0, vR mm), (1, vI n), (2, vI k), (3, vI w)]) hx hb dX12_stand_197 hlv (by decide) rfl (fun ls hlv => ?_)
                        refine lv_iload hx hb dX12_stand_199 (lv_at hlv 1 rfl) ?_
                        refine lv_istore (lv' := [(6, vI z_23), (5, vI z_30), (9, vI z_23), (8, vI r8), (7, vI q7), (4, vI z_8), (0, vR mm), (1, vI n), (2, vI k), (3, vI w)]) hx hb dX12_stand_201 hlv (by decide) rfl (fun ls hlv => ?_)
                        obtain ⟨z_31, hz_31⟩ : ∃ z : Int, z = r8 + 1 := ⟨_, rfl⟩
                        refine lv_iinc (v := iI z_31) (lv' := [(8, vI z_31), (6, vI z_23), (5, vI z_30), (9, vI z_23), (7, vI q7), (4, vI z_8), (0, vR mm), (1, vI n), (2, vI k), (3, vI w)]) hx hb dX12_stand_203 hlv (k := 3) rfl (by rw [hz_31]; exact (Int32.ofInt_add _ _).symm) (by decide) rfl (fun ls hlv => ?_)
                        refine lv_goto (tgt := 94) hx hb dX12_stand_206 (by decide) ?_
                        exact ih94 z_30 z_23 z_31 (u9.2.1 1) (u9.2.1 2) (u10.2.2 0) (u9.2.2 1) (u9.2.2 2) H locs ls (by omega) (by omega) (by omega) (by omega) (by first | exact hq9_1 | omega) (by first | exact hq9_2 | omega) hq10_0 (hP.sub [2, 3, 4, 5, 6, 7, 0, 1, 8, 9, 10] rfl) (hD.sub [2, 3, 4, 5, 6, 7, 0, 1, 8, 9, 10] (by decide) rfl) hS (lv_sub hlv [0, 4, 1, 2, 5, 6, 7, 8, 9] rfl)
                      · refine lv_goto (tgt := 203) hx hb dX12_stand_186 (by decide) ?_
                        obtain ⟨z_32, hz_32⟩ : ∃ z : Int, z = r8 + 1 := ⟨_, rfl⟩
                        refine lv_iinc (v := iI z_32) (lv' := [(8, vI z_32), (9, vI z_23), (7, vI q7), (6, vI r6), (5, vI r5), (4, vI z_8), (0, vR mm), (1, vI n), (2, vI k), (3, vI w)]) hx hb dX12_stand_203 hlv (k := 1) rfl (by rw [hz_32]; exact (Int32.ofInt_add _ _).symm) (by decide) rfl (fun ls hlv => ?_)
                        refine lv_goto (tgt := 94) hx hb dX12_stand_206 (by decide) ?_
                        exact ih94 r5 r6 z_32 (u9.2.1 1) (u9.2.1 2) (u10.2.2 0) (u9.2.2 1) (u9.2.2 2) H locs ls (by omega) (by first | exact hl94_0 | omega) (by first | exact hl94_1 | omega) (by omega) (by first | exact hq9_1 | omega) (by first | exact hq9_2 | omega) hq10_0 (hP.sub [2, 3, 4, 5, 6, 7, 0, 1, 8, 9, 10] rfl) (hD.sub [2, 3, 4, 5, 6, 7, 0, 1, 8, 9, 10] (by decide) rfl) hS (lv_sub hlv [0, 2, 3, 4, 5, 6, 7, 8, 9] rfl)
          · refine lv_iconst (v := iI 0) hx hb dX12_stand_55 (by decide) ?_
            refine W.widen (k := 0) (n := 0) (Nat.le_of_ble_eq_true rfl) (Nat.le_of_ble_eq_true rfl) ?_
            exact W.iret (v := iI 0) hx hb hr (fun t ht hW => ⟨⟨iI 0, ((fun k => ([] : List Nat).getD k 0), (fun k => ([0, (u7.2.1 1), ir, ip] : List Int).getD k 0), (fun k => ([(u7.2.2 0), f12, f14, f27, f28] : List (Nat → Int32)).getD k (fun _ => 0))), rfl, ⟨rfl, (by show ((-2147483648) ≤ (u7.2.1 1) ∧ (u7.2.1 1) ≤ 2147483647); first | exact hq7_1 | omega), (by show (0 ≤ ir ∧ ir ≤ 5); first | exact hr_ir | omega), (by show ((-2147483648) ≤ ip ∧ ip ≤ 2147483647); first | exact hr_ip | omega), (by show ((-2147483648) ≤ 0 ∧ 0 ≤ 2147483647); show ((-2147483648) : Int) ≤ 0 ∧ (0 : Int) ≤ 2147483647; decide), hq7_4, hf12, hf14⟩, at9 ht hP hD [8, 9, 10, 0, 1, 2, 3, 4, 5, 6, 7] (by decide +kernel) rfl⟩, hS.F ht⟩) hS.2.2 dX12_stand_56
def vs_m_mayStep : List Cond := .code yX12_mayStep cX12_mayStep 3 (some .boolean) :: (([.fieldLink RX12 29 "KerbSplashModel" "s" "[I", .fieldLink RX12 23 "KerbSplashModel" "b" "[I"] : List Cond) ++ ((wsX120) ++ ((va_wsS RX12 279 yX12_within vs_m_within) ++ ([]))))
theorem gd_m_mayStep : vs_m_mayStep.all goodWord = true := gd_C (by decide +kernel) (gd_A (by decide +kernel) (gd_A (by decide +kernel) (gd_A (gd_S gd_m_within (by decide +kernel)) rfl)))
set_option maxHeartbeats 4000000 in
set_option maxRecDepth 100000 in
theorem m_mayStep (l : Launch) (hl : l.stackTraces = false) (D : va_G) (cy : Nat → ClassId) (sa : Nat → Nat) (mm m1 m9 m10 m11 m12 m13 m14 m15 m19 m20 m21 m23 m24 m25 m26 m27 m28 m33 m35 : Nat) (th tp sz_ ap bad bk opn fp im nr nl sp_ wtc wcl ir ip shu sfa swr : Int) (f10 f12 : Nat → Int32) (n : Int) (sz : Nat) (hr_th : (-2147483648) ≤ th ∧ th ≤ 2147483647) (hr_tp : 0 ≤ tp ∧ tp ≤ 600) (hr_sz_ : 0 ≤ sz_ ∧ sz_ ≤ 600) (hr_ap : 0 ≤ ap ∧ ap ≤ 602) (hr_bad : (-1) ≤ bad ∧ bad ≤ 602) (hr_bk : 0 ≤ bk ∧ bk ≤ 4) (hr_opn : 0 ≤ opn ∧ opn ≤ 7) (hr_fp : (-2147483648) ≤ fp ∧ fp ≤ 2147483647) (hr_im : 0 ≤ im ∧ im ≤ 3) (hr_nr : 0 ≤ nr ∧ nr ≤ 4) (hr_nl : 0 ≤ nl ∧ nl ≤ 4) (hr_sp_ : 0 ≤ sp_ ∧ sp_ ≤ 602) (hr_wtc : (-2147483648) ≤ wtc ∧ wtc ≤ 2147483647) (hr_wcl : 0 ≤ wcl ∧ wcl ≤ 95) (hr_ir : 0 ≤ ir ∧ ir ≤ 5) (hr_ip : (-2147483648) ≤ ip ∧ ip ≤ 2147483647) (hr_shu : (-2147483648) ≤ shu ∧ shu ≤ 2147483647) (hr_sfa : (-2147483648) ≤ sfa ∧ sfa ≤ 2147483647) (hr_swr : (-2147483648) ≤ swr ∧ swr ≤ 2147483647) (hr_n : (-15) ≤ n ∧ n ≤ 15) (hf10 : BI f10) (hf12 : SI 8 f12) : mI9 l yX12_mayStep vs_m_mayStep ({ frames := 1, cells := 0, slots := 0, locals := 22 }) D cy sa sz [vR mm, vI n] [zO mm 12 [vI th, vR m1, vI tp, vI sz_, vI ap, vI bad, vI bk, vI opn, vI fp, vR m9, vR m10, vR m11, vR m12, vR m13, vR m14, vR m15, vI im, vI nr, vI nl, vR m19, vR m20, vR m21, vI sp_, vR m23, vR m24, vR m25, vR m26, vR m27, vR m28, vI wtc, vI wcl, vI ir, vI ip, vR m33, vI shu, vR m35, vI sfa, vI swr], zI m10 (cy 0) 68 f10, zI m12 (cy 0) 389 f12] (fun (r : Int32) (u : SV) => r = iI (u.2.1 0) ∧ (0 ≤ u.2.1 0 ∧ u.2.1 0 ≤ 1) ∧ BI f10 ∧ SI 8 f12) (fun u : SV => [zO mm 12 [vI th, vR m1, vI tp, vI sz_, vI ap, vI bad, vI bk, vI opn, vI fp, vR m9, vR m10, vR m11, vR m12, vR m13, vR m14, vR m15, vI im, vI nr, vI nl, vR m19, vR m20, vR m21, vI sp_, vR m23, vR m24, vR m25, vR m26, vR m27, vR m28, vI wtc, vI wcl, vI ir, vI ip, vR m33, vI shu, vR m35, vI sfa, vI swr], zI m10 (cy 0) 68 f10, zI m12 (cy 0) 389 f12]) 0 0 := by
  refine Met.ofW (cc := cX12_mayStep) (maxL := 3) (ret := (some .boolean)) (by decide) rfl ?_
  intro p e s m args below meth c s₁ B hml hv
  obtain ⟨rfl, hsz, hP, hG, hD0, hT⟩ := hv
  have hx := B.exec
  have hb := B.bytes
  have hr := B.returns
  have hts := atoms_spec (ws := vs_m_mayStep) B.pre
  have hown : s.vm.findClass RX12 = some m.cls := findClass_of_methodNamed B.named
  have hlocks := B.notSynchronized
  subst hsz
  have hD := hD0.self (sz := s.heap.size)
  generalize hAe : va_A [zO mm 12 [vI th, vR m1, vI tp, vI sz_, vI ap, vI bad, vI bk, vI opn, vI fp, vR m9, vR m10, vR m11, vR m12, vR m13, vR m14, vR m15, vI im, vI nr, vI nl, vR m19, vR m20, vR m21, vI sp_, vR m23, vR m24, vR m25, vR m26, vR m27, vR m28, vI wtc, vI wcl, vI ir, vI ip, vR m33, vI shu, vR m35, vI sfa, vI swr], zI m10 (cy 0) 68 f10, zI m12 (cy 0) 389 f12] s.heap.size = A at hD hT ⊢
  have hA : ∀ q : Nat, s.heap.size ≤ q → A q := fun q h => by rw [← hAe]; exact Or.inr h
  have hS : va_S A s.heap s.heap [] := va_S.rf
  have hl0 := lv_entry ([vR mm, vI n]) (n := 3) (Nat.le_of_ble_eq_true rfl)
  rw [lg_entry_eq]
  generalize (lg_sl ([vR mm, vI n]) ++ List.replicate (3 - (lg_sl ([vR mm, vI n])).length) Slot.unset).toArray = ls at hl0 ⊢
  have hlv : lv_has ls 3 [(0, vR mm), (1, vI n)] := hl0
  have lf29 := hts (.fieldLink RX12 29 "KerbSplashModel" "s" "[I") (List.mem_of_getElem? (i := 1) rfl)
  have hi12 : ∀ w ∈ wsX120, w ∈ vs_m_mayStep := fun w h => List.mem_cons_of_mem _ (List.mem_append_right _ (List.mem_append_left _ h))
  have lf23 := hts (.fieldLink RX12 23 "KerbSplashModel" "b" "[I") (List.mem_of_getElem? (i := 2) rfl)
  have gg_1 : GoodIn vs_m_mayStep (va_wsS RX12 279 yX12_within vs_m_within) := goodIn_sub (fun w h => List.mem_cons_of_mem _ (List.mem_append_right _ (List.mem_append_right _ (List.mem_append_left _ h)))) (gd_S gd_m_within (by decide +kernel))
  refine lv_iconst (v := iI 0) hx hb dX12_mayStep_0 (by decide) ?_
  refine lv_istore_n (lv' := [(2, vI 0), (0, vR mm), (1, vI n)]) hx hb dX12_mayStep_1 rfl hlv (by decide) rfl (fun ls hlv => ?_)
  refine (?_ : ∀ (fu : Nat) (q2 : Int) (H : Heap) (locs : List Loc) (ls : Array Slot), 8 - q2 < (fu : Int) → (0 ≤ q2 ∧ q2 ≤ 8) → va_P D vwCl [zO mm 12 [vI th, vR m1, vI tp, vI sz_, vI ap, vI bad, vI bk, vI opn, vI fp, vR m9, vR m10, vR m11, vR m12, vR m13, vR m14, vR m15, vI im, vI nr, vI nl, vR m19, vR m20, vR m21, vI sp_, vR m23, vR m24, vR m25, vR m26, vR m27, vR m28, vI wtc, vI wcl, vI ir, vI ip, vR m33, vI shu, vR m35, vI sfa, vI swr], zI m10 (cy 0) 68 f10, zI m12 (cy 0) 389 f12] H → va_D A [zO mm 12 [vI th, vR m1, vI tp, vI sz_, vI ap, vI bad, vI bk, vI opn, vI fp, vR m9, vR m10, vR m11, vR m12, vR m13, vR m14, vR m15, vI im, vI nr, vI nl, vR m19, vR m20, vR m21, vI sp_, vR m23, vR m24, vR m25, vR m26, vR m27, vR m28, vI wtc, vI wcl, vI ir, vI ip, vR m33, vI shu, vR m35, vI sfa, vI swr], zI m10 (cy 0) 68 f10, zI m12 (cy 0) 389 f12] → va_S A s.heap H locs → lv_has ls 3 [(2, vI q2), (0, vR mm), (1, vI n)] → W p l e _ s m _ below meth c H locs _ _ _ (F0 m 2 ls [])) (((8 - 0) + 1 : Int)).toNat 0 _ _ _ (by omega) (by show (0 : Int) ≤ 0 ∧ (0 : Int) ≤ 8; decide)  hP hD hS hlv
  clear hP hD hS hlv
  intro fu
  induction fu with
  | zero => intro q2 H locs ls hm2 hl2_0  hP hD hS hlv; omega
  | succ fu ih2 =>
    intro q2 H locs ls hm2 hl2_0  hP hD hS hlv
    refine lv_iload_n hx hb dX12_mayStep_2 rfl (lv_at hlv 0 rfl) ?_
    refine lv_aload_n hx hb dX12_mayStep_3 rfl (lv_at hlv 1 rfl) ?_
    refine va_get (D := D) (ci := 12) (v := vR m12) (C := RX12) (T := TX12) (N := 38) hx hb hts hi12 hown hG.1 hP 0 rfl rfl 12 (by decide) lf29 (fun _ h9 => h9) rfl dX12_mayStep_4 ?_
    refine lv_sipush (v := iI 215) hx hb dX12_mayStep_7 (by decide) ?_
    refine va_iald hx hb hG.1 hP 2 0 rfl rfl (iI_in (by omega) (by decide)) dX12_mayStep_10 ?_
    refine lt_nz (i := 215) (by omega) (fun z_1 hz_1 lz_1 uz_1 => ?_)
    have hz_1 : z_1 = nz f12 215 := hz_1
    have hbz_1_7 := hf12.2.2.1
    refine ir_ge (tgt := 49) hx hb dX12_mayStep_11 (by decide) (by first | exact rgw hl2_0 (by decide) (by decide) | omega) (by omega) (fun c_2 => ?_) (fun c_2 => ?_)
    · refine lv_iconst (v := iI 1) hx hb dX12_mayStep_49 (by decide) ?_
      refine W.widen (k := 0) (n := 0) (Nat.le_of_ble_eq_true rfl) (Nat.le_of_ble_eq_true rfl) ?_
      exact W.zret (v := iI 1) hx hb hr (by first | rfl | decide) (fun t ht hW => ⟨⟨iI 1, ((fun k => ([] : List Nat).getD k 0), (fun k => ([1] : List Int).getD k 0), (fun k => ([] : List (Nat → Int32)).getD k (fun _ => 0))), rfl, ⟨rfl, (by show (0 ≤ 1 ∧ 1 ≤ 1); show (0 : Int) ≤ 1 ∧ (1 : Int) ≤ 1; decide), hf10, hf12⟩, at9 ht hP hD [0, 1, 2] (by decide +kernel) rfl⟩, hS.F ht⟩) hS.2.2 dX12_mayStep_50
    · refine lv_aload_n hx hb dX12_mayStep_14 rfl (lv_at hlv 1 rfl) ?_
      refine va_get (D := D) (ci := 12) (v := vR m12) (C := RX12) (T := TX12) (N := 38) hx hb hts hi12 hown hG.1 hP 0 rfl rfl 12 (by decide) lf29 (fun _ h9 => h9) rfl dX12_mayStep_15 ?_
      refine lv_sipush (v := iI 216) hx hb dX12_mayStep_18 (by decide) ?_
      refine lv_iload_n hx hb dX12_mayStep_21 rfl (lv_at hlv 0 rfl) ?_
      refine lv_iadd hx hb dX12_mayStep_22 ?_
      refine lt_e (e0 := 216 + q2) (Int32.ofInt_add _ _).symm (fun z_3 hz_3 => ?_)
      refine va_iald hx hb hG.1 hP 2 0 rfl rfl (iI_in (by omega) (by decide)) dX12_mayStep_23 ?_
      refine lt_nz (i := z_3) (by omega) (fun z_4 hz_4 lz_4 uz_4 => ?_)
      refine lv_iload_n hx hb dX12_mayStep_24 rfl (lv_at hlv 2 rfl) ?_
      refine lv_iadd hx hb dX12_mayStep_25 ?_
      refine lt_z (fun z_5 ez_5 lz_5 hz_5 => ?_)
      refine lv_iconst (v := iI 0) hx hb dX12_mayStep_26 (by decide) ?_
      refine lv_aload_n hx hb dX12_mayStep_27 rfl (lv_at hlv 1 rfl) ?_
      refine va_get (D := D) (ci := 12) (v := vR m10) (C := RX12) (T := TX12) (N := 38) hx hb hts hi12 hown hG.1 hP 0 rfl rfl 10 (by decide) lf23 (fun _ h9 => h9) rfl dX12_mayStep_28 ?_
      refine lv_iconst (v := iI 0) hx hb dX12_mayStep_31 (by decide) ?_
      refine va_iald hx hb hG.1 hP 1 0 rfl rfl (iI_in (by omega) (by decide)) dX12_mayStep_32 ?_
      refine lt_nz (i := 0) (by omega) (fun z_6 hz_6 lz_6 uz_6 => ?_)
      have hz_6 : z_6 = nz f10 0 := hz_6
      have hbz_6_18 := hf10.1.1
      have hbz_6_19 := hf10.2.1
      have hbz_6_20 := hf10.2.2
      refine lv_iconst (v := iI 1) hx hb dX12_mayStep_33 (by decide) ?_
      refine lv_isub hx hb dX12_mayStep_34 ?_
      refine lt_e (e0 := z_6 - 1) (Int32.ofInt_sub _ _).symm (fun z_7 hz_7 => ?_)
      refine cjr_i [true, true, true] (fun pre9 => (va_runS (As := [vI z_5, vI 0, vI z_7]) (rest := []) ⟨hx, hb, hml, hown, hts⟩ (m_within l hl D cy sa z_5 0 z_7 H.size (by omega) (by show ((-2147483648) : Int) ≤ 0 ∧ (0 : Int) ≤ 2147483647; decide) (by omega)) (va_cwS 3 hts gg_1 rfl rfl rfl (by decide +kernel) ⟨Nat.le_of_ble_eq_true rfl, Nat.le_of_ble_eq_true rfl⟩) ⟨pcW.blind, pre9⟩ rfl rfl hlv.1 rfl (lv_room (Nat.le_of_ble_eq_true rfl)) dX12_mayStep_35 ⟨Nat.le_of_ble_eq_true rfl, Nat.le_of_ble_eq_true rfl⟩)) hP hD hS hA hG hT [] rfl (by decide +kernel) (fun r1 u1 H locs hw1 hq9 hS => ?_)
      obtain ⟨rfl, hq1_1, hq1_2, hq1_3⟩ := hw1
      obtain ⟨hP, hD⟩ := pd9 [zO mm 12 [vI th, vR m1, vI tp, vI sz_, vI ap, vI bad, vI bk, vI opn, vI fp, vR m9, vR m10, vR m11, vR m12, vR m13, vR m14, vR m15, vI im, vI nr, vI nl, vR m19, vR m20, vR m21, vI sp_, vR m23, vR m24, vR m25, vR m26, vR m27, vR m28, vI wtc, vI wcl, vI ir, vI ip, vR m33, vI shu, vR m35, vI sfa, vI swr], zI m10 (cy 0) 68 f10, zI m12 (cy 0) 389 f12] hq9
      refine iz_ne (tgt := 43) hx hb dX12_mayStep_38 (by decide) (by first | exact rgw hq1_1 (by decide) (by decide) | omega) (fun c_8 => ?_) (fun c_8 => ?_)
      · obtain ⟨z_9, hz_9⟩ : ∃ z : Int, z = q2 + 1 := ⟨_, rfl⟩
        refine lv_iinc (v := iI z_9) (lv' := [(2, vI z_9), (0, vR mm), (1, vI n)]) hx hb dX12_mayStep_43 hlv (k := 0) rfl (by rw [hz_9]; exact (Int32.ofInt_add _ _).symm) (by decide) rfl (fun ls hlv => ?_)
        refine lv_goto (tgt := 2) hx hb dX12_mayStep_46 (by decide) ?_
        exact ih2 z_9 H locs ls (by omega) (by omega)  (hP.sub [0, 1, 2] rfl) (hD.sub [0, 1, 2] (by decide) rfl) hS (lv_sub hlv [0, 1, 2] rfl)
      · refine lv_iconst (v := iI 0) hx hb dX12_mayStep_41 (by decide) ?_
        refine W.widen (k := 0) (n := 0) (Nat.le_of_ble_eq_true rfl) (Nat.le_of_ble_eq_true rfl) ?_
        exact W.zret (v := iI 0) hx hb hr (by first | rfl | decide) (fun t ht hW => ⟨⟨iI 0, ((fun k => ([] : List Nat).getD k 0), (fun k => ([0] : List Int).getD k 0), (fun k => ([] : List (Nat → Int32)).getD k (fun _ => 0))), rfl, ⟨rfl, (by show (0 ≤ 0 ∧ 0 ≤ 1); show (0 : Int) ≤ 0 ∧ (0 : Int) ≤ 1; decide), hf10, hf12⟩, at9 ht hP hD [0, 1, 2] (by decide +kernel) rfl⟩, hS.F ht⟩) hS.2.2 dX12_mayStep_42
def vs_m_moved : List Cond := .code yX12_moved cX12_moved 7 (some .int) :: (([.fieldLink RX12 1 "KerbSplashModel" "thrown" "I", .fieldLink RX12 29 "KerbSplashModel" "s" "[I"] : List Cond) ++ ((wsX120) ++ ((wsV RX12 334 RX12 yX12_isLaw vs_m_isLaw) ++ ((va_wsS RX12 279 yX12_within vs_m_within) ++ ((wsV RX12 175 RX12 yX12_may vs_m_may) ++ ((wsV RX12 371 RX12 yX12_isStreet vs_m_isStreet) ++ ((wsV RX12 381 RX12 yX12_keeps vs_m_keeps) ++ ((wsV RX12 393 RX12 yX12_mayStep vs_m_mayStep) ++ ((wsV RX12 378 RX12 yX12_allPass vs_m_allPass) ++ ((wsV RX12 387 RX12 yX12_comesBack vs_m_back) ++ ([])))))))))))
set_option maxHeartbeats 4000000 in
set_option maxRecDepth 100000 in
theorem m_moved (l : Launch) (hl : l.stackTraces = false) (D : va_G) (cy : Nat → ClassId) (sa : Nat → Nat) (mm m1 m9 m10 m11 m12 m13 m14 m15 m19 m20 m21 m23 m24 m25 m26 m27 m28 m33 m35 : Nat) (th tp sz_ ap bad bk opn fp im nr nl sp_ wtc wcl ir ip shu sfa swr : Int) (f1 f10 f12 f14 f23 f24 f25 f26 f27 f28 : Nat → Int32) (n k : Int) (qs : Nat → Int) (sz : Nat) (hr_th : (-2147483648) ≤ th ∧ th ≤ 2147483647) (hr_tp : 0 ≤ tp ∧ tp ≤ 600) (hr_sz_ : 0 ≤ sz_ ∧ sz_ ≤ 600) (hr_ap : 0 ≤ ap ∧ ap ≤ 602) (hr_bad : (-1) ≤ bad ∧ bad ≤ 602) (hr_bk : 0 ≤ bk ∧ bk ≤ 4) (hr_opn : 0 ≤ opn ∧ opn ≤ 7) (hr_fp : (-2147483648) ≤ fp ∧ fp ≤ 2147483647) (hr_im : 0 ≤ im ∧ im ≤ 3) (hr_nr : 0 ≤ nr ∧ nr ≤ 4) (hr_nl : 0 ≤ nl ∧ nl ≤ 4) (hr_sp_ : 0 ≤ sp_ ∧ sp_ ≤ 602) (hr_wtc : (-2147483648) ≤ wtc ∧ wtc ≤ 2147483647) (hr_wcl : 0 ≤ wcl ∧ wcl ≤ 95) (hr_ir : 0 ≤ ir ∧ ir ≤ 5) (hr_ip : (-2147483648) ≤ ip ∧ ip ≤ 2147483647) (hr_shu : (-2147483648) ≤ shu ∧ shu ≤ 2147483647) (hr_sfa : (-2147483648) ≤ sfa ∧ sfa ≤ 2147483647) (hr_swr : (-2147483648) ≤ swr ∧ swr ≤ 2147483647) (hr_n : (-2147483648) ≤ n ∧ n ≤ 2147483647) (hr_k : (-2147483648) ≤ k ∧ k ≤ 2147483647) (hn_li : LI nl f23 f24 f25 f26) (hf10 : BI f10) (hf12 : SQ qs 8 f12) (hf14 : SI 8 f14) : mI9 l yX12_moved vs_m_moved ({ frames := 4, cells := 0, slots := 0, locals := 110 }) D cy sa sz [vR mm, vI n, vI k] [zO mm 12 [vI th, vR m1, vI tp, vI sz_, vI ap, vI bad, vI bk, vI opn, vI fp, vR m9, vR m10, vR m11, vR m12, vR m13, vR m14, vR m15, vI im, vI nr, vI nl, vR m19, vR m20, vR m21, vI sp_, vR m23, vR m24, vR m25, vR m26, vR m27, vR m28, vI wtc, vI wcl, vI ir, vI ip, vR m33, vI shu, vR m35, vI sfa, vI swr], zI m1 (cy 0) 4 f1, zI m10 (cy 0) 68 f10, zI m12 (cy 0) 389 f12, zI m14 (cy 0) 389 f14, zI m23 (cy 0) 2480 f23, zI m24 (cy 0) 2480 f24, zI m25 (cy 0) 20 f25, zI m26 (cy 0) 20 f26, zI m27 (cy 0) 620 f27, zI m28 (cy 0) 7 f28] (fun (r : Int32) (u : SV) => r = iI (u.2.1 0) ∧ ((-2147483648) ≤ u.2.1 1 ∧ u.2.1 1 ≤ 2147483647) ∧ (0 ≤ u.2.1 2 ∧ u.2.1 2 ≤ 5) ∧ ((-2147483648) ≤ u.2.1 3 ∧ u.2.1 3 ≤ 2147483647) ∧ ((-2147483648) ≤ u.2.1 0 ∧ u.2.1 0 ≤ 2147483647) ∧ BI f10 ∧ SQ qs 8 (u.2.2 1) ∧ SI 8 (u.2.2 2)) (fun u : SV => [zO mm 12 [vI (u.2.1 1), vR m1, vI tp, vI sz_, vI ap, vI bad, vI bk, vI opn, vI fp, vR m9, vR m10, vR m11, vR m12, vR m13, vR m14, vR m15, vI im, vI nr, vI nl, vR m19, vR m20, vR m21, vI sp_, vR m23, vR m24, vR m25, vR m26, vR m27, vR m28, vI wtc, vI wcl, vI (u.2.1 2), vI (u.2.1 3), vR m33, vI shu, vR m35, vI sfa, vI swr], zI m1 (cy 0) 4 (u.2.2 0), zI m10 (cy 0) 68 f10, zI m12 (cy 0) 389 (u.2.2 1), zI m14 (cy 0) 389 (u.2.2 2), zI m23 (cy 0) 2480 f23, zI m24 (cy 0) 2480 f24, zI m25 (cy 0) 20 f25, zI m26 (cy 0) 20 f26, zI m27 (cy 0) 620 (u.2.2 3), zI m28 (cy 0) 7 (u.2.2 4)]) 0 0 := by
  refine Met.ofW (cc := cX12_moved) (maxL := 7) (ret := (some .int)) (by decide) rfl ?_
  intro p e s m args below meth c s₁ B hml hv
  obtain ⟨rfl, hsz, hP, hG, hD0, hT⟩ := hv
  have hx := B.exec
  have hb := B.bytes
  have hr := B.returns
  have hts := atoms_spec (ws := vs_m_moved) B.pre
  have hown : s.vm.findClass RX12 = some m.cls := findClass_of_methodNamed B.named
  have hlocks := B.notSynchronized
  subst hsz
  have hD := hD0.self (sz := s.heap.size)
  generalize hAe : va_A [zO mm 12 [vI th, vR m1, vI tp, vI sz_, vI ap, vI bad, vI bk, vI opn, vI fp, vR m9, vR m10, vR m11, vR m12, vR m13, vR m14, vR m15, vI im, vI nr, vI nl, vR m19, vR m20, vR m21, vI sp_, vR m23, vR m24, vR m25, vR m26, vR m27, vR m28, vI wtc, vI wcl, vI ir, vI ip, vR m33, vI shu, vR m35, vI sfa, vI swr], zI m1 (cy 0) 4 f1, zI m10 (cy 0) 68 f10, zI m12 (cy 0) 389 f12, zI m14 (cy 0) 389 f14, zI m23 (cy 0) 2480 f23, zI m24 (cy 0) 2480 f24, zI m25 (cy 0) 20 f25, zI m26 (cy 0) 20 f26, zI m27 (cy 0) 620 f27, zI m28 (cy 0) 7 f28] s.heap.size = A at hD hT ⊢
  have hA : ∀ q : Nat, s.heap.size ≤ q → A q := fun q h => by rw [← hAe]; exact Or.inr h
  have hS : va_S A s.heap s.heap [] := va_S.rf
  have hl0 := lv_entry ([vR mm, vI n, vI k]) (n := 7) (Nat.le_of_ble_eq_true rfl)
  rw [lg_entry_eq]
  generalize (lg_sl ([vR mm, vI n, vI k]) ++ List.replicate (7 - (lg_sl ([vR mm, vI n, vI k])).length) Slot.unset).toArray = ls at hl0 ⊢
  have hlv : lv_has ls 7 [(0, vR mm), (1, vI n), (2, vI k)] := hl0
  have lf1 := hts (.fieldLink RX12 1 "KerbSplashModel" "thrown" "I") (List.mem_of_getElem? (i := 1) rfl)
  have hi12 : ∀ w ∈ wsX120, w ∈ vs_m_moved := fun w h => List.mem_cons_of_mem _ (List.mem_append_right _ (List.mem_append_left _ h))
  have gg_1 : GoodIn vs_m_moved (wsV RX12 334 RX12 yX12_isLaw vs_m_isLaw) := goodIn_sub (fun w h => List.mem_cons_of_mem _ (List.mem_append_right _ (List.mem_append_right _ (List.mem_append_left _ h)))) (gd_V gd_m_isLaw (by decide +kernel))
  have gg_2 : GoodIn vs_m_moved (va_wsS RX12 279 yX12_within vs_m_within) := goodIn_sub (fun w h => List.mem_cons_of_mem _ (List.mem_append_right _ (List.mem_append_right _ (List.mem_append_right _ (List.mem_append_left _ h))))) (gd_S gd_m_within (by decide +kernel))
  have gg_3 : GoodIn vs_m_moved (wsV RX12 175 RX12 yX12_may vs_m_may) := goodIn_sub (fun w h => List.mem_cons_of_mem _ (List.mem_append_right _ (List.mem_append_right _ (List.mem_append_right _ (List.mem_append_right _ (List.mem_append_left _ h)))))) (gd_V gd_m_may (by decide +kernel))
  have gg_4 : GoodIn vs_m_moved (wsV RX12 371 RX12 yX12_isStreet vs_m_isStreet) := goodIn_sub (fun w h => List.mem_cons_of_mem _ (List.mem_append_right _ (List.mem_append_right _ (List.mem_append_right _ (List.mem_append_right _ (List.mem_append_right _ (List.mem_append_left _ h))))))) (gd_V gd_m_isStreet (by decide +kernel))
  have gg_5 : GoodIn vs_m_moved (wsV RX12 381 RX12 yX12_keeps vs_m_keeps) := goodIn_sub (fun w h => List.mem_cons_of_mem _ (List.mem_append_right _ (List.mem_append_right _ (List.mem_append_right _ (List.mem_append_right _ (List.mem_append_right _ (List.mem_append_right _ (List.mem_append_left _ h)))))))) (gd_V gd_m_keeps (by decide +kernel))
  have gg_6 : GoodIn vs_m_moved (wsV RX12 393 RX12 yX12_mayStep vs_m_mayStep) := goodIn_sub (fun w h => List.mem_cons_of_mem _ (List.mem_append_right _ (List.mem_append_right _ (List.mem_append_right _ (List.mem_append_right _ (List.mem_append_right _ (List.mem_append_right _ (List.mem_append_right _ (List.mem_append_left _ h))))))))) (gd_V gd_m_mayStep (by decide +kernel))
  have lf29 := hts (.fieldLink RX12 29 "KerbSplashModel" "s" "[I") (List.mem_of_getElem? (i := 2) rfl)
  have gg_7 : GoodIn vs_m_moved (wsV RX12 378 RX12 yX12_allPass vs_m_allPass) := goodIn_sub (fun w h => List.mem_cons_of_mem _ (List.mem_append_right _ (List.mem_append_right _ (List.mem_append_right _ (List.mem_append_right _ (List.mem_append_right _ (List.mem_append_right _ (List.mem_append_right _ (List.mem_append_right _ (List.mem_append_left _ h)))))))))) (gd_V gd_m_allPass (by decide +kernel))
  have gg_8 : GoodIn vs_m_moved (wsV RX12 387 RX12 yX12_comesBack vs_m_back) := goodIn_sub (fun w h => List.mem_cons_of_mem _ (List.mem_append_right _ (List.mem_append_right _ (List.mem_append_right _ (List.mem_append_right _ (List.mem_append_right _ (List.mem_append_right _ (List.mem_append_right _ (List.mem_append_right _ (List.mem_append_right _ (List.mem_append_left _ h))))))))))) (gd_V gd_m_back (by decide +kernel))
  refine lv_aload_n hx hb dX12_moved_0 rfl (lv_at hlv 0 rfl) ?_
  refine lv_iconst (v := iI 0) hx hb dX12_moved_1 (by decide) ?_
  refine va_put (D := D) (ci := 12) (v := vI 0) (ty := .int) (C := RX12) (T := TX12) (N := 38) hx hb hts hi12 tyX12 tyX12_ok nmX12 hown hG.1 hP hD hS 0 rfl rfl 0 (by decide) lf1 (fun _ h9 => h9) rfl (by decide +kernel) rfl rfl (Nat.le_of_ble_eq_true rfl) dX12_moved_2 (fun H locs hP hD hS => ?_)
  obtain ⟨hP, hD⟩ := pw9 [zO mm 12 [vI 0, vR m1, vI tp, vI sz_, vI ap, vI bad, vI bk, vI opn, vI fp, vR m9, vR m10, vR m11, vR m12, vR m13, vR m14, vR m15, vI im, vI nr, vI nl, vR m19, vR m20, vR m21, vI sp_, vR m23, vR m24, vR m25, vR m26, vR m27, vR m28, vI wtc, vI wcl, vI ir, vI ip, vR m33, vI shu, vR m35, vI sfa, vI swr], zI m1 (cy 0) 4 f1, zI m10 (cy 0) 68 f10, zI m12 (cy 0) 389 f12, zI m14 (cy 0) 389 f14, zI m23 (cy 0) 2480 f23, zI m24 (cy 0) 2480 f24, zI m25 (cy 0) 20 f25, zI m26 (cy 0) 20 f26, zI m27 (cy 0) 620 f27, zI m28 (cy 0) 7 f28] hP hD
  refine lv_aload_n hx hb dX12_moved_5 rfl (lv_at hlv 0 rfl) ?_
  refine lv_iload_n hx hb dX12_moved_6 rfl (lv_at hlv 1 rfl) ?_
  refine lv_iconst (v := iI 1) hx hb dX12_moved_7 (by decide) ?_
  refine cjr_i [false, false, true, true, true, true, true, true, true, true, true] (fun pre9 => (va_runV (As := [vI n, vI 1]) (rest := []) ⟨hx, hb, hml, hown, hts⟩ (m_isLaw l hl D cy sa mm m1 m9 m10 m11 m12 m13 m14 m15 m19 m20 m21 m23 m24 m25 m26 m27 m28 m33 m35 0 tp sz_ ap bad bk opn fp im nr nl sp_ wtc wcl ir ip shu sfa swr f1 n 1 H.size (by show ((-2147483648) : Int) ≤ 0 ∧ (0 : Int) ≤ 2147483647; decide) (by first | exact hr_tp | omega) (by first | exact hr_sz_ | omega) (by first | exact hr_ap | omega) (by first | exact hr_bad | omega) (by first | exact hr_bk | omega) (by first | exact hr_opn | omega) (by first | exact hr_fp | omega) (by first | exact hr_im | omega) (by first | exact hr_nr | omega) (by first | exact hr_nl | omega) (by first | exact hr_sp_ | omega) (by first | exact hr_wtc | omega) (by first | exact hr_wcl | omega) (by first | exact hr_ir | omega) (by first | exact hr_ip | omega) (by first | exact hr_shu | omega) (by first | exact hr_sfa | omega) (by first | exact hr_swr | omega) (by first | exact hr_n | omega) (by show (1 : Int) ≤ 1 ∧ (1 : Int) ≤ 4; decide)) (cwV 2 hts gg_1 rfl rfl rfl (by decide +kernel) ⟨Nat.le_of_ble_eq_true rfl, Nat.le_of_ble_eq_true rfl⟩) ⟨pcW.blind, (va_recv hG.1 hP (ci := 12) (q0 := 0) rfl rfl), pre9⟩ rfl rfl hlv.1 rfl (lv_room (Nat.le_of_ble_eq_true rfl)) dX12_moved_8 ⟨Nat.le_of_ble_eq_true rfl, Nat.le_of_ble_eq_true rfl⟩)) hP hD hS hA hG hT [0, 1] rfl (by decide +kernel) (fun r1 u1 H locs hw1 hq9 hS => ?_)
  obtain ⟨rfl, hq1_1, hq1_2, hq1_3⟩ := hw1
  obtain ⟨hP, hD⟩ := pd9 [zI m10 (cy 0) 68 f10, zI m12 (cy 0) 389 f12, zI m14 (cy 0) 389 f14, zI m23 (cy 0) 2480 f23, zI m24 (cy 0) 2480 f24, zI m25 (cy 0) 20 f25, zI m26 (cy 0) 20 f26, zI m27 (cy 0) 620 f27, zI m28 (cy 0) 7 f28, zO mm 12 [vI (u1.2.1 1), vR m1, vI tp, vI sz_, vI ap, vI bad, vI bk, vI opn, vI fp, vR m9, vR m10, vR m11, vR m12, vR m13, vR m14, vR m15, vI im, vI nr, vI nl, vR m19, vR m20, vR m21, vI sp_, vR m23, vR m24, vR m25, vR m26, vR m27, vR m28, vI wtc, vI wcl, vI ir, vI ip, vR m33, vI shu, vR m35, vI sfa, vI swr], zI m1 (cy 0) 4 (u1.2.2 0)] hq9
  refine iz_eq (tgt := 37) hx hb dX12_moved_11 (by decide) (by first | exact rgw hq1_2 (by decide) (by decide) | omega) (fun c_1 => ?_) (fun c_1 => ?_)
  · refine lv_iconst (v := iI 0) hx hb dX12_moved_37 (by decide) ?_
    refine W.widen (k := 0) (n := 0) (Nat.le_of_ble_eq_true rfl) (Nat.le_of_ble_eq_true rfl) ?_
    exact W.iret (v := iI 0) hx hb hr (fun t ht hW => ⟨⟨iI 0, ((fun k => ([] : List Nat).getD k 0), (fun k => ([0, (u1.2.1 1), ir, ip] : List Int).getD k 0), (fun k => ([(u1.2.2 0), f12, f14, f27, f28] : List (Nat → Int32)).getD k (fun _ => 0))), rfl, ⟨rfl, (by show ((-2147483648) ≤ (u1.2.1 1) ∧ (u1.2.1 1) ≤ 2147483647); first | exact hq1_1 | omega), (by show (0 ≤ ir ∧ ir ≤ 5); first | exact hr_ir | omega), (by show ((-2147483648) ≤ ip ∧ ip ≤ 2147483647); first | exact hr_ip | omega), (by show ((-2147483648) ≤ 0 ∧ 0 ≤ 2147483647); show ((-2147483648) : Int) ≤ 0 ∧ (0 : Int) ≤ 2147483647; decide), hf10, hf12, hf14⟩, at9 ht hP hD [9, 10, 0, 1, 2, 3, 4, 5, 6, 7, 8] (by decide +kernel) rfl⟩, hS.F ht⟩) hS.2.2 dX12_moved_38
  · refine lv_aload_n hx hb dX12_moved_14 rfl (lv_at hlv 0 rfl) ?_
    refine lv_iload_n hx hb dX12_moved_15 rfl (lv_at hlv 2 rfl) ?_
    refine lv_iconst (v := iI 0) hx hb dX12_moved_16 (by decide) ?_
    refine lv_iconst (v := iI 1) hx hb dX12_moved_17 (by decide) ?_
    refine cjr_i [true, true, true, true, true, true, true, true, true, true, true] (fun pre9 => (va_runS (As := [vI k, vI 0, vI 1]) (rest := [vR mm]) ⟨hx, hb, hml, hown, hts⟩ (m_within l hl D cy sa k 0 1 H.size (by first | exact hr_k | omega) (by show ((-2147483648) : Int) ≤ 0 ∧ (0 : Int) ≤ 2147483647; decide) (by show ((-2147483648) : Int) ≤ 1 ∧ (1 : Int) ≤ 2147483647; decide)) (va_cwS 3 hts gg_2 rfl rfl rfl (by decide +kernel) ⟨Nat.le_of_ble_eq_true rfl, Nat.le_of_ble_eq_true rfl⟩) ⟨pcW.blind, pre9⟩ rfl rfl hlv.1 rfl (lv_room (Nat.le_of_ble_eq_true rfl)) dX12_moved_18 ⟨Nat.le_of_ble_eq_true rfl, Nat.le_of_ble_eq_true rfl⟩)) hP hD hS hA hG hT [] rfl (by decide +kernel) (fun r2 u2 H locs hw2 hq9 hS => ?_)
    obtain ⟨rfl, hq2_1, hq2_2, hq2_3⟩ := hw2
    obtain ⟨hP, hD⟩ := pd9 [zI m10 (cy 0) 68 f10, zI m12 (cy 0) 389 f12, zI m14 (cy 0) 389 f14, zI m23 (cy 0) 2480 f23, zI m24 (cy 0) 2480 f24, zI m25 (cy 0) 20 f25, zI m26 (cy 0) 20 f26, zI m27 (cy 0) 620 f27, zI m28 (cy 0) 7 f28, zO mm 12 [vI (u1.2.1 1), vR m1, vI tp, vI sz_, vI ap, vI bad, vI bk, vI opn, vI fp, vR m9, vR m10, vR m11, vR m12, vR m13, vR m14, vR m15, vI im, vI nr, vI nl, vR m19, vR m20, vR m21, vI sp_, vR m23, vR m24, vR m25, vR m26, vR m27, vR m28, vI wtc, vI wcl, vI ir, vI ip, vR m33, vI shu, vR m35, vI sfa, vI swr], zI m1 (cy 0) 4 (u1.2.2 0)] hq9
    refine lv_iconst (v := iI 2) hx hb dX12_moved_21 (by decide) ?_
    refine lv_iconst (v := iI 2) hx hb dX12_moved_22 (by decide) ?_
    refine cjr_i [true, true, true, true, true, true, true, true, true, false, false] (fun pre9 => (va_runV (As := [vI (u2.2.1 0), vI 2, vI 2]) (rest := []) ⟨hx, hb, hml, hown, hts⟩ (m_may l hl D cy sa mm m1 m9 m10 m11 m12 m13 m14 m15 m19 m20 m21 m23 m24 m25 m26 m27 m28 m33 m35 (u1.2.1 1) tp sz_ ap bad bk opn fp im nr nl sp_ wtc wcl ir ip shu sfa swr (u1.2.2 0) (u2.2.1 0) 2 2 H.size (by first | exact hq1_1 | omega) (by first | exact hr_tp | omega) (by first | exact hr_sz_ | omega) (by first | exact hr_ap | omega) (by first | exact hr_bad | omega) (by first | exact hr_bk | omega) (by first | exact hr_opn | omega) (by first | exact hr_fp | omega) (by first | exact hr_im | omega) (by first | exact hr_nr | omega) (by first | exact hr_nl | omega) (by first | exact hr_sp_ | omega) (by first | exact hr_wtc | omega) (by first | exact hr_wcl | omega) (by first | exact hr_ir | omega) (by first | exact hr_ip | omega) (by first | exact hr_shu | omega) (by first | exact hr_sfa | omega) (by first | exact hr_swr | omega) (by first | exact hq2_1 | omega) (by show (1 : Int) ≤ 2 ∧ (2 : Int) ≤ 4; decide) (by show (0 : Int) ≤ 2 ∧ (2 : Int) ≤ 3; decide)) (cwV 3 hts gg_3 rfl rfl rfl (by decide +kernel) ⟨Nat.le_of_ble_eq_true rfl, Nat.le_of_ble_eq_true rfl⟩) ⟨pcW.blind, (va_recv hG.1 hP (ci := 12) (q0 := 9) rfl rfl), pre9⟩ rfl rfl hlv.1 rfl (lv_room (Nat.le_of_ble_eq_true rfl)) dX12_moved_23 ⟨Nat.le_of_ble_eq_true rfl, Nat.le_of_ble_eq_true rfl⟩)) hP hD hS hA hG hT [9, 10] rfl (by decide +kernel) (fun r3 u3 H locs hw3 hq9 hS => ?_)
    obtain ⟨rfl, hq3_1, hq3_2, hq3_3, hq3_4⟩ := hw3
    obtain ⟨hP, hD⟩ := pd9 [zI m10 (cy 0) 68 f10, zI m12 (cy 0) 389 f12, zI m14 (cy 0) 389 f14, zI m23 (cy 0) 2480 f23, zI m24 (cy 0) 2480 f24, zI m25 (cy 0) 20 f25, zI m26 (cy 0) 20 f26, zI m27 (cy 0) 620 f27, zI m28 (cy 0) 7 f28, zO mm 12 [vI (u3.2.1 1), vR m1, vI tp, vI sz_, vI ap, vI bad, vI bk, vI opn, vI fp, vR m9, vR m10, vR m11, vR m12, vR m13, vR m14, vR m15, vI im, vI nr, vI nl, vR m19, vR m20, vR m21, vI sp_, vR m23, vR m24, vR m25, vR m26, vR m27, vR m28, vI wtc, vI wcl, vI ir, vI ip, vR m33, vI shu, vR m35, vI sfa, vI swr], zI m1 (cy 0) 4 (u3.2.2 0)] hq9
    refine iz_eq (tgt := 37) hx hb dX12_moved_26 (by decide) (by first | exact rgw hq3_2 (by decide) (by decide) | omega) (fun c_2 => ?_) (fun c_2 => ?_)
    · refine lv_iconst (v := iI 0) hx hb dX12_moved_37 (by decide) ?_
      refine W.widen (k := 0) (n := 0) (Nat.le_of_ble_eq_true rfl) (Nat.le_of_ble_eq_true rfl) ?_
      exact W.iret (v := iI 0) hx hb hr (fun t ht hW => ⟨⟨iI 0, ((fun k => ([] : List Nat).getD k 0), (fun k => ([0, (u3.2.1 1), ir, ip] : List Int).getD k 0), (fun k => ([(u3.2.2 0), f12, f14, f27, f28] : List (Nat → Int32)).getD k (fun _ => 0))), rfl, ⟨rfl, (by show ((-2147483648) ≤ (u3.2.1 1) ∧ (u3.2.1 1) ≤ 2147483647); first | exact hq3_1 | omega), (by show (0 ≤ ir ∧ ir ≤ 5); first | exact hr_ir | omega), (by show ((-2147483648) ≤ ip ∧ ip ≤ 2147483647); first | exact hr_ip | omega), (by show ((-2147483648) ≤ 0 ∧ 0 ≤ 2147483647); show ((-2147483648) : Int) ≤ 0 ∧ (0 : Int) ≤ 2147483647; decide), hf10, hf12, hf14⟩, at9 ht hP hD [9, 10, 0, 1, 2, 3, 4, 5, 6, 7, 8] (by decide +kernel) rfl⟩, hS.F ht⟩) hS.2.2 dX12_moved_38
    · refine lv_aload_n hx hb dX12_moved_29 rfl (lv_at hlv 0 rfl) ?_
      refine lv_iconst (v := iI 3) hx hb dX12_moved_30 (by decide) ?_
      refine cjr_i [false, true, true, true, true, true, true, true, true, false, false] (fun pre9 => (va_runV (As := [vI 3]) (rest := []) ⟨hx, hb, hml, hown, hts⟩ (m_isStreet l hl D cy sa mm m1 m9 m10 m11 m12 m13 m14 m15 m19 m20 m21 m23 m24 m25 m26 m27 m28 m33 m35 (u3.2.1 1) tp sz_ ap bad bk opn fp im nr nl sp_ wtc wcl ir ip shu sfa swr (u3.2.2 0) f10 3 H.size (by first | exact hq3_1 | omega) (by first | exact hr_tp | omega) (by first | exact hr_sz_ | omega) (by first | exact hr_ap | omega) (by first | exact hr_bad | omega) (by first | exact hr_bk | omega) (by first | exact hr_opn | omega) (by first | exact hr_fp | omega) (by first | exact hr_im | omega) (by first | exact hr_nr | omega) (by first | exact hr_nl | omega) (by first | exact hr_sp_ | omega) (by first | exact hr_wtc | omega) (by first | exact hr_wcl | omega) (by first | exact hr_ir | omega) (by first | exact hr_ip | omega) (by first | exact hr_shu | omega) (by first | exact hr_sfa | omega) (by first | exact hr_swr | omega) (by show (1 : Int) ≤ 3 ∧ (3 : Int) ≤ 4; decide) hf10) (cwV 1 hts gg_4 rfl rfl rfl (by decide +kernel) ⟨Nat.le_of_ble_eq_true rfl, Nat.le_of_ble_eq_true rfl⟩) ⟨pcW.blind, (va_recv hG.1 hP (ci := 12) (q0 := 9) rfl rfl), pre9⟩ rfl rfl hlv.1 rfl (lv_room (Nat.le_of_ble_eq_true rfl)) dX12_moved_31 ⟨Nat.le_of_ble_eq_true rfl, Nat.le_of_ble_eq_true rfl⟩)) hP hD hS hA hG hT [9, 10, 0] rfl (by decide +kernel) (fun r4 u4 H locs hw4 hq9 hS => ?_)
      obtain ⟨rfl, hq4_1, hq4_2, hq4_3, hq4_4⟩ := hw4
      obtain ⟨hP, hD⟩ := pd9 [zI m12 (cy 0) 389 f12, zI m14 (cy 0) 389 f14, zI m23 (cy 0) 2480 f23, zI m24 (cy 0) 2480 f24, zI m25 (cy 0) 20 f25, zI m26 (cy 0) 20 f26, zI m27 (cy 0) 620 f27, zI m28 (cy 0) 7 f28, zO mm 12 [vI (u4.2.1 1), vR m1, vI tp, vI sz_, vI ap, vI bad, vI bk, vI opn, vI fp, vR m9, vR m10, vR m11, vR m12, vR m13, vR m14, vR m15, vI im, vI nr, vI nl, vR m19, vR m20, vR m21, vI sp_, vR m23, vR m24, vR m25, vR m26, vR m27, vR m28, vI wtc, vI wcl, vI ir, vI ip, vR m33, vI shu, vR m35, vI sfa, vI swr], zI m1 (cy 0) 4 (u4.2.2 0), zI m10 (cy 0) 68 f10] hq9
      refine iz_ne (tgt := 39) hx hb dX12_moved_34 (by decide) (by first | exact rgw hq4_2 (by decide) (by decide) | omega) (fun c_3 => ?_) (fun c_3 => ?_)
      · refine lv_aload_n hx hb dX12_moved_39 rfl (lv_at hlv 0 rfl) ?_
        refine cjr_v [false, false, true, true, true, true, true, true, false, true, true] (fun pre9 => (va_runV (As := []) (rest := []) ⟨hx, hb, hml, hown, hts⟩ (m_keeps l hl D cy sa mm m1 m9 m10 m11 m12 m13 m14 m15 m19 m20 m21 m23 m24 m25 m26 m27 m28 m33 m35 (u4.2.1 1) tp sz_ ap bad bk opn fp im nr nl sp_ wtc wcl ir ip shu sfa swr f12 f14 qs H.size (by first | exact hq4_1 | omega) (by first | exact hr_tp | omega) (by first | exact hr_sz_ | omega) (by first | exact hr_ap | omega) (by first | exact hr_bad | omega) (by first | exact hr_bk | omega) (by first | exact hr_opn | omega) (by first | exact hr_fp | omega) (by first | exact hr_im | omega) (by first | exact hr_nr | omega) (by first | exact hr_nl | omega) (by first | exact hr_sp_ | omega) (by first | exact hr_wtc | omega) (by first | exact hr_wcl | omega) (by first | exact hr_ir | omega) (by first | exact hr_ip | omega) (by first | exact hr_shu | omega) (by first | exact hr_sfa | omega) (by first | exact hr_swr | omega) hf12 hf14) (cwV 0 hts gg_5 rfl rfl rfl (by decide +kernel) ⟨Nat.le_of_ble_eq_true rfl, Nat.le_of_ble_eq_true rfl⟩) ⟨pcW.blind, (va_recv hG.1 hP (ci := 12) (q0 := 8) rfl rfl), pre9⟩ rfl rfl hlv.1 rfl (lv_room (Nat.le_of_ble_eq_true rfl)) dX12_moved_40 ⟨Nat.le_of_ble_eq_true rfl, Nat.le_of_ble_eq_true rfl⟩)) hP hD hS hA hG hT [8, 0, 1] rfl (by decide +kernel) (fun u5 H locs hw5 hq9 hS => ?_)
        obtain ⟨hq5_0, hq5_1⟩ := hw5
        obtain ⟨hP, hD⟩ := pd9 [zI m23 (cy 0) 2480 f23, zI m24 (cy 0) 2480 f24, zI m25 (cy 0) 20 f25, zI m26 (cy 0) 20 f26, zI m27 (cy 0) 620 f27, zI m28 (cy 0) 7 f28, zI m1 (cy 0) 4 (u4.2.2 0), zI m10 (cy 0) 68 f10, zO mm 12 [vI (u4.2.1 1), vR m1, vI tp, vI sz_, vI ap, vI bad, vI bk, vI opn, vI fp, vR m9, vR m10, vR m11, vR m12, vR m13, vR m14, vR m15, vI im, vI nr, vI nl, vR m19, vR m20, vR m21, vI sp_, vR m23, vR m24, vR m25, vR m26, vR m27, vR m28, vI wtc, vI wcl, vI ir, vI ip, vR m33, vI shu, vR m35, vI sfa, vI swr], zI m12 (cy 0) 389 f12, zI m14 (cy 0) 389 (u5.2.2 0)] hq9
        refine lv_bipush (v := iI (-99)) hx hb dX12_moved_43 (by decide) ?_
        refine lv_istore_n (lv' := [(3, vI (-99)), (0, vR mm), (1, vI n), (2, vI k)]) hx hb dX12_moved_45 rfl hlv (by decide) rfl (fun ls hlv => ?_)
        refine lv_iconst (v := iI 0) hx hb dX12_moved_46 (by decide) ?_
        refine lv_istore (lv' := [(4, vI 0), (3, vI (-99)), (0, vR mm), (1, vI n), (2, vI k)]) hx hb dX12_moved_47 hlv (by decide) rfl (fun ls hlv => ?_)
        refine lv_bipush (v := iI (-15)) hx hb dX12_moved_49 (by decide) ?_
        refine lv_istore (lv' := [(5, vI (-15)), (4, vI 0), (3, vI (-99)), (0, vR mm), (1, vI n), (2, vI k)]) hx hb dX12_moved_51 hlv (by decide) rfl (fun ls hlv => ?_)
        refine (?_ : ∀ (fu : Nat) (q3 : Int) (q4 : Int) (q5 : Int) (qi : Int) (qp : Int) (wg : Nat → Int32) (kg : Nat → Int32) (ng : Nat → Int32) (H : Heap) (locs : List Loc) (ls : Array Slot), 16 - q5 < (fu : Int) → ((-99) ≤ q3 ∧ q3 ≤ 15) → ((-2147483648) ≤ q4 ∧ q4 ≤ 2147483647) → ((-15) ≤ q5 ∧ q5 ≤ 16) → (0 ≤ qi ∧ qi ≤ 5) → ((-2147483648) ≤ qp ∧ qp ≤ 2147483647) → SQ qs 8 wg → va_P D vwCl [zI m23 (cy 0) 2480 f23, zI m24 (cy 0) 2480 f24, zI m25 (cy 0) 20 f25, zI m26 (cy 0) 20 f26, zI m27 (cy 0) 620 kg, zI m28 (cy 0) 7 ng, zI m1 (cy 0) 4 (u4.2.2 0), zI m10 (cy 0) 68 f10, zO mm 12 [vI (u4.2.1 1), vR m1, vI tp, vI sz_, vI ap, vI bad, vI bk, vI opn, vI fp, vR m9, vR m10, vR m11, vR m12, vR m13, vR m14, vR m15, vI im, vI nr, vI nl, vR m19, vR m20, vR m21, vI sp_, vR m23, vR m24, vR m25, vR m26, vR m27, vR m28, vI wtc, vI wcl, vI qi, vI qp, vR m33, vI shu, vR m35, vI sfa, vI swr], zI m12 (cy 0) 389 wg, zI m14 (cy 0) 389 (u5.2.2 0)] H → va_D A [zI m23 (cy 0) 2480 f23, zI m24 (cy 0) 2480 f24, zI m25 (cy 0) 20 f25, zI m26 (cy 0) 20 f26, zI m27 (cy 0) 620 kg, zI m28 (cy 0) 7 ng, zI m1 (cy 0) 4 (u4.2.2 0), zI m10 (cy 0) 68 f10, zO mm 12 [vI (u4.2.1 1), vR m1, vI tp, vI sz_, vI ap, vI bad, vI bk, vI opn, vI fp, vR m9, vR m10, vR m11, vR m12, vR m13, vR m14, vR m15, vI im, vI nr, vI nl, vR m19, vR m20, vR m21, vI sp_, vR m23, vR m24, vR m25, vR m26, vR m27, vR m28, vI wtc, vI wcl, vI qi, vI qp, vR m33, vI shu, vR m35, vI sfa, vI swr], zI m12 (cy 0) 389 wg, zI m14 (cy 0) 389 (u5.2.2 0)] → va_S A s.heap H locs → lv_has ls 7 [(5, vI q5), (4, vI q4), (3, vI q3), (0, vR mm), (1, vI n), (2, vI k)] → W p l e _ s m _ below meth c H locs _ _ _ (F0 m 53 ls [])) (((16 - (-15)) + 1 : Int)).toNat (-99) 0 (-15) ir ip f12 f27 f28 _ _ _ (by omega) (by show ((-99) : Int) ≤ (-99) ∧ ((-99) : Int) ≤ 15; decide) (by show ((-2147483648) : Int) ≤ 0 ∧ (0 : Int) ≤ 2147483647; decide) (by show ((-15) : Int) ≤ (-15) ∧ ((-15) : Int) ≤ 16; decide) (by first | exact hr_ir | omega) (by first | exact hr_ip | omega) hq5_0 hP hD hS hlv
        clear hP hD hS hlv
        intro fu
        induction fu with
        | zero => intro q3 q4 q5 qi qp wg kg ng H locs ls hm53 hl53_0 hl53_1 hl53_2 hl53_3 hl53_4 hiwg hP hD hS hlv; omega
        | succ fu ih53 =>
          intro q3 q4 q5 qi qp wg kg ng H locs ls hm53 hl53_0 hl53_1 hl53_2 hl53_3 hl53_4 hiwg hP hD hS hlv
          refine lv_iload hx hb dX12_moved_53 (lv_at hlv 0 rfl) ?_
          refine lv_bipush (v := iI 15) hx hb dX12_moved_55 (by decide) ?_
          refine ir_gt (tgt := 150) hx hb dX12_moved_57 (by decide) (by first | exact rgw hl53_2 (by decide) (by decide) | omega) (by show ((-2147483648) : Int) ≤ 15 ∧ (15 : Int) ≤ 2147483647; decide) (fun c_4 => ?_) (fun c_4 => ?_)
          · refine lv_iload_n hx hb dX12_moved_150 rfl (lv_at hlv 5 rfl) ?_
            refine iz_ne (tgt := 158) hx hb dX12_moved_151 (by decide) (by first | exact hr_k | omega) (fun c_5 => ?_) (fun c_5 => ?_)
            · refine lv_iload hx hb dX12_moved_158 (lv_at hlv 1 rfl) ?_
              refine W.widen (k := 0) (n := 0) (Nat.le_of_ble_eq_true rfl) (Nat.le_of_ble_eq_true rfl) ?_
              exact W.iret (v := iI q4) hx hb hr (fun t ht hW => ⟨⟨iI q4, ((fun k => ([] : List Nat).getD k 0), (fun k => ([q4, (u4.2.1 1), qi, qp] : List Int).getD k 0), (fun k => ([(u4.2.2 0), wg, (u5.2.2 0), kg, ng] : List (Nat → Int32)).getD k (fun _ => 0))), rfl, ⟨rfl, (by show ((-2147483648) ≤ (u4.2.1 1) ∧ (u4.2.1 1) ≤ 2147483647); first | exact hq4_1 | omega), (by show (0 ≤ qi ∧ qi ≤ 5); first | exact hl53_3 | omega), (by show ((-2147483648) ≤ qp ∧ qp ≤ 2147483647); first | exact hl53_4 | omega), (by show ((-2147483648) ≤ q4 ∧ q4 ≤ 2147483647); first | exact hl53_1 | omega), hq4_4, hiwg, (hq5_1.1)⟩, at9 ht hP hD [8, 6, 7, 9, 10, 0, 1, 2, 3, 4, 5] (by decide +kernel) rfl⟩, hS.F ht⟩) hS.2.2 dX12_moved_160
            · refine lv_iload_n hx hb dX12_moved_154 rfl (lv_at hlv 2 rfl) ?_
              refine lv_goto (tgt := 160) hx hb dX12_moved_155 (by decide) ?_
              refine W.widen (k := 0) (n := 0) (Nat.le_of_ble_eq_true rfl) (Nat.le_of_ble_eq_true rfl) ?_
              exact W.iret (v := iI q3) hx hb hr (fun t ht hW => ⟨⟨iI q3, ((fun k => ([] : List Nat).getD k 0), (fun k => ([q3, (u4.2.1 1), qi, qp] : List Int).getD k 0), (fun k => ([(u4.2.2 0), wg, (u5.2.2 0), kg, ng] : List (Nat → Int32)).getD k (fun _ => 0))), rfl, ⟨rfl, (by show ((-2147483648) ≤ (u4.2.1 1) ∧ (u4.2.1 1) ≤ 2147483647); first | exact hq4_1 | omega), (by show (0 ≤ qi ∧ qi ≤ 5); first | exact hl53_3 | omega), (by show ((-2147483648) ≤ qp ∧ qp ≤ 2147483647); first | exact hl53_4 | omega), (by show ((-2147483648) ≤ q3 ∧ q3 ≤ 2147483647); first | exact rgw hl53_0 (by decide) (by decide) | omega), hq4_4, hiwg, (hq5_1.1)⟩, at9 ht hP hD [8, 6, 7, 9, 10, 0, 1, 2, 3, 4, 5] (by decide +kernel) rfl⟩, hS.F ht⟩) hS.2.2 dX12_moved_160
          · refine lv_aload_n hx hb dX12_moved_60 rfl (lv_at hlv 3 rfl) ?_
            refine lv_iload hx hb dX12_moved_61 (lv_at hlv 0 rfl) ?_
            refine cjr_i [true, true, true, true, true, true, true, false, false, false, true] (fun pre9 => (va_runV (As := [vI q5]) (rest := []) ⟨hx, hb, hml, hown, hts⟩ (m_mayStep l hl D cy sa mm m1 m9 m10 m11 m12 m13 m14 m15 m19 m20 m21 m23 m24 m25 m26 m27 m28 m33 m35 (u4.2.1 1) tp sz_ ap bad bk opn fp im nr nl sp_ wtc wcl qi qp shu sfa swr f10 wg q5 H.size (by first | exact hq4_1 | omega) (by first | exact hr_tp | omega) (by first | exact hr_sz_ | omega) (by first | exact hr_ap | omega) (by first | exact hr_bad | omega) (by first | exact hr_bk | omega) (by first | exact hr_opn | omega) (by first | exact hr_fp | omega) (by first | exact hr_im | omega) (by first | exact hr_nr | omega) (by first | exact hr_nl | omega) (by first | exact hr_sp_ | omega) (by first | exact hr_wtc | omega) (by first | exact hr_wcl | omega) (by first | exact hl53_3 | omega) (by first | exact hl53_4 | omega) (by first | exact hr_shu | omega) (by first | exact hr_sfa | omega) (by first | exact hr_swr | omega) (by omega) hq4_4 (hiwg.1)) (cwV 1 hts gg_6 rfl rfl rfl (by decide +kernel) ⟨Nat.le_of_ble_eq_true rfl, Nat.le_of_ble_eq_true rfl⟩) ⟨pcW.blind, (va_recv hG.1 hP (ci := 12) (q0 := 8) rfl rfl), pre9⟩ rfl rfl hlv.1 rfl (lv_room (Nat.le_of_ble_eq_true rfl)) dX12_moved_63 ⟨Nat.le_of_ble_eq_true rfl, Nat.le_of_ble_eq_true rfl⟩)) hP hD hS hA hG hT [8, 7, 9] rfl (by decide +kernel) (fun r6 u6 H locs hw6 hq9 hS => ?_)
            obtain ⟨rfl, hq6_1, hq6_2, hq6_3⟩ := hw6
            obtain ⟨hP, hD⟩ := pd9 [zI m23 (cy 0) 2480 f23, zI m24 (cy 0) 2480 f24, zI m25 (cy 0) 20 f25, zI m26 (cy 0) 20 f26, zI m27 (cy 0) 620 kg, zI m28 (cy 0) 7 ng, zI m1 (cy 0) 4 (u4.2.2 0), zI m14 (cy 0) 389 (u5.2.2 0), zO mm 12 [vI (u4.2.1 1), vR m1, vI tp, vI sz_, vI ap, vI bad, vI bk, vI opn, vI fp, vR m9, vR m10, vR m11, vR m12, vR m13, vR m14, vR m15, vI im, vI nr, vI nl, vR m19, vR m20, vR m21, vI sp_, vR m23, vR m24, vR m25, vR m26, vR m27, vR m28, vI wtc, vI wcl, vI qi, vI qp, vR m33, vI shu, vR m35, vI sfa, vI swr], zI m10 (cy 0) 68 f10, zI m12 (cy 0) 389 wg] hq9
            refine iz_ne (tgt := 72) hx hb dX12_moved_66 (by decide) (by first | exact rgw hq6_1 (by decide) (by decide) | omega) (fun c_6 => ?_) (fun c_6 => ?_)
            · refine lv_iconst (v := iI 0) hx hb dX12_moved_72 (by decide) ?_
              refine lv_istore (lv' := [(6, vI 0), (5, vI q5), (4, vI q4), (3, vI q3), (0, vR mm), (1, vI n), (2, vI k)]) hx hb dX12_moved_73 hlv (by decide) rfl (fun ls hlv => ?_)
              refine (?_ : ∀ (fu : Nat) (q6 : Int) (wj : Nat → Int32) (H : Heap) (locs : List Loc) (ls : Array Slot), 8 - q6 < (fu : Int) → (0 ≤ q6 ∧ q6 ≤ 8) → SQ qs 8 wj → va_P D vwCl [zI m23 (cy 0) 2480 f23, zI m24 (cy 0) 2480 f24, zI m25 (cy 0) 20 f25, zI m26 (cy 0) 20 f26, zI m27 (cy 0) 620 kg, zI m28 (cy 0) 7 ng, zI m1 (cy 0) 4 (u4.2.2 0), zI m14 (cy 0) 389 (u5.2.2 0), zO mm 12 [vI (u4.2.1 1), vR m1, vI tp, vI sz_, vI ap, vI bad, vI bk, vI opn, vI fp, vR m9, vR m10, vR m11, vR m12, vR m13, vR m14, vR m15, vI im, vI nr, vI nl, vR m19, vR m20, vR m21, vI sp_, vR m23, vR m24, vR m25, vR m26, vR m27, vR m28, vI wtc, vI wcl, vI qi, vI qp, vR m33, vI shu, vR m35, vI sfa, vI swr], zI m10 (cy 0) 68 f10, zI m12 (cy 0) 389 wj] H → va_D A [zI m23 (cy 0) 2480 f23, zI m24 (cy 0) 2480 f24, zI m25 (cy 0) 20 f25, zI m26 (cy 0) 20 f26, zI m27 (cy 0) 620 kg, zI m28 (cy 0) 7 ng, zI m1 (cy 0) 4 (u4.2.2 0), zI m14 (cy 0) 389 (u5.2.2 0), zO mm 12 [vI (u4.2.1 1), vR m1, vI tp, vI sz_, vI ap, vI bad, vI bk, vI opn, vI fp, vR m9, vR m10, vR m11, vR m12, vR m13, vR m14, vR m15, vI im, vI nr, vI nl, vR m19, vR m20, vR m21, vI sp_, vR m23, vR m24, vR m25, vR m26, vR m27, vR m28, vI wtc, vI wcl, vI qi, vI qp, vR m33, vI shu, vR m35, vI sfa, vI swr], zI m10 (cy 0) 68 f10, zI m12 (cy 0) 389 wj] → va_S A s.heap H locs → lv_has ls 7 [(6, vI q6), (5, vI q5), (4, vI q4), (3, vI q3), (0, vR mm), (1, vI n), (2, vI k)] → W p l e _ s m _ below meth c H locs _ _ _ (F0 m 75 ls [])) (((8 - 0) + 1 : Int)).toNat 0 wg _ _ _ (by omega) (by show (0 : Int) ≤ 0 ∧ (0 : Int) ≤ 8; decide) hiwg hP hD hS hlv
              clear hP hD hS hlv
              intro fu
              induction fu with
              | zero => intro q6 wj H locs ls hm75 hl75_0 hiwj hP hD hS hlv; omega
              | succ fu ih75 =>
                intro q6 wj H locs ls hm75 hl75_0 hiwj hP hD hS hlv
                refine lv_iload hx hb dX12_moved_75 (lv_at hlv 0 rfl) ?_
                refine lv_aload_n hx hb dX12_moved_77 rfl (lv_at hlv 4 rfl) ?_
                refine va_get (D := D) (ci := 12) (v := vR m12) (C := RX12) (T := TX12) (N := 38) hx hb hts hi12 hown hG.1 hP 8 rfl rfl 12 (by decide) lf29 (fun _ h9 => h9) rfl dX12_moved_78 ?_
                refine lv_sipush (v := iI 215) hx hb dX12_moved_81 (by decide) ?_
                refine va_iald hx hb hG.1 hP 10 0 rfl rfl (iI_in (by omega) (by decide)) dX12_moved_84 ?_
                refine lt_nz (i := 215) (by omega) (fun z_7 hz_7 lz_7 uz_7 => ?_)
                have hz_7 : z_7 = nz wj 215 := hz_7
                have hbz_7_7 := (hiwj.1).2.2.1
                refine ir_ge (tgt := 110) hx hb dX12_moved_85 (by decide) (by first | exact rgw hl75_0 (by decide) (by decide) | omega) (by omega) (fun c_8 => ?_) (fun c_8 => ?_)
                · refine lv_aload_n hx hb dX12_moved_110 rfl (lv_at hlv 4 rfl) ?_
                  refine lv_iload_n hx hb dX12_moved_111 rfl (lv_at hlv 5 rfl) ?_
                  refine cjr_i [false, false, false, false, false, false, true, true, false, false, false] (fun pre9 => (va_runV (As := [vI n]) (rest := []) ⟨hx, hb, hml, hown, hts⟩ (m_allPass l hl D cy sa mm m1 m9 m10 m11 m12 m13 m14 m15 m19 m20 m21 m23 m24 m25 m26 m27 m28 m33 m35 (u4.2.1 1) tp sz_ ap bad bk opn fp im nr nl sp_ wtc wcl qi qp shu sfa swr f10 wj f23 f24 f25 f26 kg ng n qs 8 H.size (by first | exact hq4_1 | omega) (by first | exact hr_tp | omega) (by first | exact hr_sz_ | omega) (by first | exact hr_ap | omega) (by first | exact hr_bad | omega) (by first | exact hr_bk | omega) (by first | exact hr_opn | omega) (by first | exact hr_fp | omega) (by first | exact hr_im | omega) (by first | exact hr_nr | omega) (by first | exact hr_nl | omega) (by first | exact hr_sp_ | omega) (by first | exact hr_wtc | omega) (by first | exact hr_wcl | omega) (by first | exact hl53_3 | omega) (by first | exact hl53_4 | omega) (by first | exact hr_shu | omega) (by first | exact hr_sfa | omega) (by first | exact hr_swr | omega) (by omega) (by show (8 : Int) ≤ 8 ∧ (8 : Int) ≤ 9; decide) (by omega) (by omega) hn_li hq6_2 hiwj) (cwV 1 hts gg_7 rfl rfl rfl (by decide +kernel) ⟨Nat.le_of_ble_eq_true rfl, Nat.le_of_ble_eq_true rfl⟩) ⟨pcW.blind, (va_recv hG.1 hP (ci := 12) (q0 := 8) rfl rfl), pre9⟩ rfl rfl hlv.1 rfl (lv_room (Nat.le_of_ble_eq_true rfl)) dX12_moved_112 ⟨Nat.le_of_ble_eq_true rfl, Nat.le_of_ble_eq_true rfl⟩)) hP hD hS hA hG hT [8, 9, 10, 0, 1, 2, 3, 4, 5] rfl (by decide +kernel) (fun r7 u7 H locs hw7 hq9 hS => ?_)
                  obtain ⟨rfl, hq7_1, hq7_2, hq7_3, hq7_4, hq7_5⟩ := hw7
                  obtain ⟨hP, hD⟩ := pd9 [zI m1 (cy 0) 4 (u4.2.2 0), zI m14 (cy 0) 389 (u5.2.2 0), zO mm 12 [vI (u4.2.1 1), vR m1, vI tp, vI sz_, vI ap, vI bad, vI bk, vI opn, vI fp, vR m9, vR m10, vR m11, vR m12, vR m13, vR m14, vR m15, vI im, vI nr, vI nl, vR m19, vR m20, vR m21, vI sp_, vR m23, vR m24, vR m25, vR m26, vR m27, vR m28, vI wtc, vI wcl, vI (u7.2.1 1), vI (u7.2.1 2), vR m33, vI shu, vR m35, vI sfa, vI swr], zI m10 (cy 0) 68 f10, zI m12 (cy 0) 389 (u7.2.2 0), zI m23 (cy 0) 2480 f23, zI m24 (cy 0) 2480 f24, zI m25 (cy 0) 20 f25, zI m26 (cy 0) 20 f26, zI m27 (cy 0) 620 (u7.2.2 1), zI m28 (cy 0) 7 (u7.2.2 2)] hq9
                  refine lv_istore (lv' := [(6, vI (u7.2.1 0)), (5, vI q5), (4, vI q4), (3, vI q3), (0, vR mm), (1, vI n), (2, vI k)]) hx hb dX12_moved_115 hlv (by decide) rfl (fun ls hlv => ?_)
                  refine lv_aload_n hx hb dX12_moved_117 rfl (lv_at hlv 4 rfl) ?_
                  refine cjr_v [true, false, false, true, false, true, true, true, true, true, true] (fun pre9 => (va_runV (As := []) (rest := []) ⟨hx, hb, hml, hown, hts⟩ (m_back l hl D cy sa mm m1 m9 m10 m11 m12 m13 m14 m15 m19 m20 m21 m23 m24 m25 m26 m27 m28 m33 m35 (u4.2.1 1) tp sz_ ap bad bk opn fp im nr nl sp_ wtc wcl (u7.2.1 1) (u7.2.1 2) shu sfa swr (u7.2.2 0) (u5.2.2 0) 8 qs H.size (by first | exact hq4_1 | omega) (by first | exact hr_tp | omega) (by first | exact hr_sz_ | omega) (by first | exact hr_ap | omega) (by first | exact hr_bad | omega) (by first | exact hr_bk | omega) (by first | exact hr_opn | omega) (by first | exact hr_fp | omega) (by first | exact hr_im | omega) (by first | exact hr_nr | omega) (by first | exact hr_nl | omega) (by first | exact hr_sp_ | omega) (by first | exact hr_wtc | omega) (by first | exact hr_wcl | omega) (by first | exact hq7_1 | omega) (by first | exact hq7_2 | omega) (by first | exact hr_shu | omega) (by first | exact hr_sfa | omega) (by first | exact hr_swr | omega) (by show (8 : Int) ≤ 8 ∧ (8 : Int) ≤ 9; decide) (hq7_5.1) hq5_1) (cwV 0 hts gg_8 rfl rfl rfl (by decide +kernel) ⟨Nat.le_of_ble_eq_true rfl, Nat.le_of_ble_eq_true rfl⟩) ⟨pcW.blind, (va_recv hG.1 hP (ci := 12) (q0 := 2) rfl rfl), pre9⟩ rfl rfl hlv.1 rfl (lv_room (Nat.le_of_ble_eq_true rfl)) dX12_moved_118 ⟨Nat.le_of_ble_eq_true rfl, Nat.le_of_ble_eq_true rfl⟩)) hP hD hS hA hG hT [2, 4, 1] rfl (by decide +kernel) (fun u8 H locs hw8 hq9 hS => ?_)
                  obtain ⟨hq8_0, hq8_1⟩ := hw8
                  obtain ⟨hP, hD⟩ := pd9 [zI m1 (cy 0) 4 (u4.2.2 0), zI m10 (cy 0) 68 f10, zI m23 (cy 0) 2480 f23, zI m24 (cy 0) 2480 f24, zI m25 (cy 0) 20 f25, zI m26 (cy 0) 20 f26, zI m27 (cy 0) 620 (u7.2.2 1), zI m28 (cy 0) 7 (u7.2.2 2), zO mm 12 [vI (u4.2.1 1), vR m1, vI tp, vI sz_, vI ap, vI bad, vI bk, vI opn, vI fp, vR m9, vR m10, vR m11, vR m12, vR m13, vR m14, vR m15, vI im, vI nr, vI nl, vR m19, vR m20, vR m21, vI sp_, vR m23, vR m24, vR m25, vR m26, vR m27, vR m28, vI wtc, vI wcl, vI (u7.2.1 1), vI (u7.2.1 2), vR m33, vI shu, vR m35, vI sfa, vI swr], zI m12 (cy 0) 389 (u8.2.2 0), zI m14 (cy 0) 389 (u5.2.2 0)] hq9
                  refine lv_iload_n hx hb dX12_moved_121 rfl (lv_at hlv 3 rfl) ?_
                  refine lv_bipush (v := iI (-99)) hx hb dX12_moved_122 (by decide) ?_
                  refine ir_eq (tgt := 137) hx hb dX12_moved_124 (by decide) (by first | exact rgw hl53_0 (by decide) (by decide) | omega) (by show ((-2147483648) : Int) ≤ (-99) ∧ ((-99) : Int) ≤ 2147483647; decide) (fun c_9 => ?_) (fun c_9 => ?_)
                  · refine lv_iload hx hb dX12_moved_137 (lv_at hlv 1 rfl) ?_
                    refine lv_istore_n (lv' := [(3, vI q5), (6, vI (u7.2.1 0)), (5, vI q5), (4, vI q4), (0, vR mm), (1, vI n), (2, vI k)]) hx hb dX12_moved_139 rfl hlv (by decide) rfl (fun ls hlv => ?_)
                    refine lv_iload hx hb dX12_moved_140 (lv_at hlv 1 rfl) ?_
                    refine lv_istore (lv' := [(4, vI (u7.2.1 0)), (3, vI q5), (6, vI (u7.2.1 0)), (5, vI q5), (0, vR mm), (1, vI n), (2, vI k)]) hx hb dX12_moved_142 hlv (by decide) rfl (fun ls hlv => ?_)
                    obtain ⟨z_10, hz_10⟩ : ∃ z : Int, z = q5 + 1 := ⟨_, rfl⟩
                    refine lv_iinc (v := iI z_10) (lv' := [(5, vI z_10), (4, vI (u7.2.1 0)), (3, vI q5), (6, vI (u7.2.1 0)), (0, vR mm), (1, vI n), (2, vI k)]) hx hb dX12_moved_144 hlv (k := 3) rfl (by rw [hz_10]; exact (Int32.ofInt_add _ _).symm) (by decide) rfl (fun ls hlv => ?_)
                    refine lv_goto (tgt := 53) hx hb dX12_moved_147 (by decide) ?_
                    exact ih53 q5 (u7.2.1 0) z_10 (u7.2.1 1) (u7.2.1 2) (u8.2.2 0) (u7.2.2 1) (u7.2.2 2) H locs ls (by omega) (by omega) (by first | exact hq7_3 | omega) (by omega) (by first | exact hq7_1 | omega) (by first | exact hq7_2 | omega) hq8_0 (hP.sub [2, 3, 4, 5, 6, 7, 0, 1, 8, 9, 10] rfl) (hD.sub [2, 3, 4, 5, 6, 7, 0, 1, 8, 9, 10] (by decide) rfl) hS (lv_sub hlv [0, 1, 2, 4, 5, 6] rfl)
                  · refine lv_iload hx hb dX12_moved_127 (lv_at hlv 0 rfl) ?_
                    refine lv_iload hx hb dX12_moved_129 (lv_at hlv 2 rfl) ?_
                    refine ir_lt (tgt := 137) hx hb dX12_moved_131 (by decide) (by first | exact hq7_3 | omega) (by first | exact hl53_1 | omega) (fun c_11 => ?_) (fun c_11 => ?_)
                    · refine lv_iload hx hb dX12_moved_137 (lv_at hlv 1 rfl) ?_
                      refine lv_istore_n (lv' := [(3, vI q5), (6, vI (u7.2.1 0)), (5, vI q5), (4, vI q4), (0, vR mm), (1, vI n), (2, vI k)]) hx hb dX12_moved_139 rfl hlv (by decide) rfl (fun ls hlv => ?_)
                      refine lv_iload hx hb dX12_moved_140 (lv_at hlv 1 rfl) ?_
                      refine lv_istore (lv' := [(4, vI (u7.2.1 0)), (3, vI q5), (6, vI (u7.2.1 0)), (5, vI q5), (0, vR mm), (1, vI n), (2, vI k)]) hx hb dX12_moved_142 hlv (by decide) rfl (fun ls hlv => ?_)
                      obtain ⟨z_12, hz_12⟩ : ∃ z : Int, z = q5 + 1 := ⟨_, rfl⟩
                      refine lv_iinc (v := iI z_12) (lv' := [(5, vI z_12), (4, vI (u7.2.1 0)), (3, vI q5), (6, vI (u7.2.1 0)), (0, vR mm), (1, vI n), (2, vI k)]) hx hb dX12_moved_144 hlv (k := 3) rfl (by rw [hz_12]; exact (Int32.ofInt_add _ _).symm) (by decide) rfl (fun ls hlv => ?_)
                      refine lv_goto (tgt := 53) hx hb dX12_moved_147 (by decide) ?_
                      exact ih53 q5 (u7.2.1 0) z_12 (u7.2.1 1) (u7.2.1 2) (u8.2.2 0) (u7.2.2 1) (u7.2.2 2) H locs ls (by omega) (by omega) (by first | exact hq7_3 | omega) (by omega) (by first | exact hq7_1 | omega) (by first | exact hq7_2 | omega) hq8_0 (hP.sub [2, 3, 4, 5, 6, 7, 0, 1, 8, 9, 10] rfl) (hD.sub [2, 3, 4, 5, 6, 7, 0, 1, 8, 9, 10] (by decide) rfl) hS (lv_sub hlv [0, 1, 2, 4, 5, 6] rfl)
                    · refine lv_goto (tgt := 144) hx hb dX12_moved_134 (by decide) ?_
                      obtain ⟨z_13, hz_13⟩ : ∃ z : Int, z = q5 + 1 := ⟨_, rfl⟩
                      refine lv_iinc (v := iI z_13) (lv' := [(5, vI z_13), (6, vI (u7.2.1 0)), (4, vI q4), (3, vI q3), (0, vR mm), (1, vI n), (2, vI k)]) hx hb dX12_moved_144 hlv (k := 1) rfl (by rw [hz_13]; exact (Int32.ofInt_add _ _).symm) (by decide) rfl (fun ls hlv => ?_)
                      refine lv_goto (tgt := 53) hx hb dX12_moved_147 (by decide) ?_
                      exact ih53 q3 q4 z_13 (u7.2.1 1) (u7.2.1 2) (u8.2.2 0) (u7.2.2 1) (u7.2.2 2) H locs ls (by omega) (by first | exact hl53_0 | omega) (by first | exact hl53_1 | omega) (by omega) (by first | exact hq7_1 | omega) (by first | exact hq7_2 | omega) hq8_0 (hP.sub [2, 3, 4, 5, 6, 7, 0, 1, 8, 9, 10] rfl) (hD.sub [2, 3, 4, 5, 6, 7, 0, 1, 8, 9, 10] (by decide) rfl) hS (lv_sub hlv [0, 2, 3, 4, 5, 6] rfl)
                · refine lv_aload_n hx hb dX12_moved_88 rfl (lv_at hlv 4 rfl) ?_
                  refine va_get (D := D) (ci := 12) (v := vR m12) (C := RX12) (T := TX12) (N := 38) hx hb hts hi12 hown hG.1 hP 8 rfl rfl 12 (by decide) lf29 (fun _ h9 => h9) rfl dX12_moved_89 ?_
                  refine lv_sipush (v := iI 216) hx hb dX12_moved_92 (by decide) ?_
                  refine lv_iload hx hb dX12_moved_95 (lv_at hlv 0 rfl) ?_
                  refine lv_iadd hx hb dX12_moved_97 ?_
                  refine lt_e (e0 := 216 + q6) (Int32.ofInt_add _ _).symm (fun z_14 hz_14 => ?_)
                  refine lv_dup2_11 hx hb dX12_moved_98 rfl rfl ?_
                  refine va_iald hx hb hG.1 hP 10 0 rfl rfl (iI_in (by omega) (by decide)) dX12_moved_99 ?_
                  refine lt_nz (i := z_14) (by omega) (fun z_15 hz_15 lz_15 uz_15 => ?_)
                  refine lv_iload hx hb dX12_moved_100 (lv_at hlv 1 rfl) ?_
                  refine lv_iadd hx hb dX12_moved_102 ?_
                  refine lt_z (fun z_16 ez_16 lz_16 hz_16 => ?_)
                  refine va_iast hx hb hG.1 hP hD hS 10 0 rfl rfl (iI_in (by omega) (by decide)) dX12_moved_103 (fun H locs hP hD hS => ?_)
                  obtain ⟨f_17, hdf_17, hP, hD⟩ := pe9e (fun f_17 => [zI m23 (cy 0) 2480 f23, zI m24 (cy 0) 2480 f24, zI m25 (cy 0) 20 f25, zI m26 (cy 0) 20 f26, zI m27 (cy 0) 620 kg, zI m28 (cy 0) 7 ng, zI m1 (cy 0) 4 (u4.2.2 0), zI m14 (cy 0) 389 (u5.2.2 0), zO mm 12 [vI (u4.2.1 1), vR m1, vI tp, vI sz_, vI ap, vI bad, vI bk, vI opn, vI fp, vR m9, vR m10, vR m11, vR m12, vR m13, vR m14, vR m15, vI im, vI nr, vI nl, vR m19, vR m20, vR m21, vI sp_, vR m23, vR m24, vR m25, vR m26, vR m27, vR m28, vI wtc, vI wcl, vI qi, vI qp, vR m33, vI shu, vR m35, vI sfa, vI swr], zI m10 (cy 0) 68 f10, zI m12 (cy 0) 389 f_17]) (upd wj (iI z_14).toNatClampNeg (iI z_16)) hP hD
                  have hif_17 : SQ qs 8 f_17 := ⟨SI.wo (hiwj.1) hdf_17 (by omega) (by omega) (by omega) (by omega), (SQ.fr hiwj.2 hdf_17 (by omega) (by omega))⟩
                  obtain ⟨z_18, hz_18⟩ : ∃ z : Int, z = q6 + 1 := ⟨_, rfl⟩
                  refine lv_iinc (v := iI z_18) (lv' := [(6, vI z_18), (5, vI q5), (4, vI q4), (3, vI q3), (0, vR mm), (1, vI n), (2, vI k)]) hx hb dX12_moved_104 hlv (k := 0) rfl (by rw [hz_18]; exact (Int32.ofInt_add _ _).symm) (by decide) rfl (fun ls hlv => ?_)
                  refine lv_goto (tgt := 75) hx hb dX12_moved_107 (by decide) ?_
                  exact ih75 z_18 f_17 H locs ls (by omega) (by omega) hif_17 (hP.sub [0, 1, 2, 3, 4, 5, 6, 7, 8, 9, 10] rfl) (hD.sub [0, 1, 2, 3, 4, 5, 6, 7, 8, 9, 10] (by decide) rfl) hS (lv_sub hlv [0, 1, 2, 3, 4, 5, 6] rfl)
            · refine lv_goto (tgt := 144) hx hb dX12_moved_69 (by decide) ?_
              obtain ⟨z_19, hz_19⟩ : ∃ z : Int, z = q5 + 1 := ⟨_, rfl⟩
              refine lv_iinc (v := iI z_19) (lv' := [(5, vI z_19), (4, vI q4), (3, vI q3), (0, vR mm), (1, vI n), (2, vI k)]) hx hb dX12_moved_144 hlv (k := 0) rfl (by rw [hz_19]; exact (Int32.ofInt_add _ _).symm) (by decide) rfl (fun ls hlv => ?_)
              refine lv_goto (tgt := 53) hx hb dX12_moved_147 (by decide) ?_
              exact ih53 q3 q4 z_19 qi qp wg kg ng H locs ls (by omega) (by first | exact hl53_0 | omega) (by first | exact hl53_1 | omega) (by omega) (by first | exact hl53_3 | omega) (by first | exact hl53_4 | omega) hiwg (hP.sub [0, 1, 2, 3, 4, 5, 6, 9, 8, 10, 7] rfl) (hD.sub [0, 1, 2, 3, 4, 5, 6, 9, 8, 10, 7] (by decide) rfl) hS (lv_sub hlv [0, 1, 2, 3, 4, 5] rfl)
      · refine lv_iconst (v := iI 0) hx hb dX12_moved_37 (by decide) ?_
        refine W.widen (k := 0) (n := 0) (Nat.le_of_ble_eq_true rfl) (Nat.le_of_ble_eq_true rfl) ?_
        exact W.iret (v := iI 0) hx hb hr (fun t ht hW => ⟨⟨iI 0, ((fun k => ([] : List Nat).getD k 0), (fun k => ([0, (u4.2.1 1), ir, ip] : List Int).getD k 0), (fun k => ([(u4.2.2 0), f12, f14, f27, f28] : List (Nat → Int32)).getD k (fun _ => 0))), rfl, ⟨rfl, (by show ((-2147483648) ≤ (u4.2.1 1) ∧ (u4.2.1 1) ≤ 2147483647); first | exact hq4_1 | omega), (by show (0 ≤ ir ∧ ir ≤ 5); first | exact hr_ir | omega), (by show ((-2147483648) ≤ ip ∧ ip ≤ 2147483647); first | exact hr_ip | omega), (by show ((-2147483648) ≤ 0 ∧ 0 ≤ 2147483647); show ((-2147483648) : Int) ≤ 0 ∧ (0 : Int) ≤ 2147483647; decide), hq4_4, hf12, hf14⟩, at9 ht hP hD [8, 9, 10, 0, 1, 2, 3, 4, 5, 6, 7] (by decide +kernel) rfl⟩, hS.F ht⟩) hS.2.2 dX12_moved_38
