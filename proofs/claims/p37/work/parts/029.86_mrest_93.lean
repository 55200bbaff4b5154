section
theorem dX12_count_0 : decode cX12_count 0 = .ok (.aload_n 0, 1) := by decide +kernel
theorem dX12_count_1 : decode cX12_count 1 = .ok (.iconst 0, 1) := by decide +kernel
theorem dX12_count_10 : decode cX12_count 10 = .ok (.getfield 29, 3) := by decide +kernel
theorem dX12_count_13 : decode cX12_count 13 = .ok (.sipush 252, 3) := by decide +kernel
theorem dX12_count_16 : decode cX12_count 16 = .ok (.iaload, 1) := by decide +kernel
theorem dX12_count_17 : decode cX12_count 17 = .ok (.goto 44, 3) := by decide +kernel
theorem dX12_count_2 : decode cX12_count 2 = .ok (.putfield 1, 3) := by decide +kernel
theorem dX12_count_20 : decode cX12_count 20 = .ok (.iload_n 1, 1) := by decide +kernel
theorem dX12_count_21 : decode cX12_count 21 = .ok (.iconst 1, 1) := by decide +kernel
theorem dX12_count_22 : decode cX12_count 22 = .ok (.if_icmp .ne 14, 3) := by decide +kernel
theorem dX12_count_25 : decode cX12_count 25 = .ok (.aload_n 0, 1) := by decide +kernel
theorem dX12_count_26 : decode cX12_count 26 = .ok (.getfield 29, 3) := by decide +kernel
theorem dX12_count_29 : decode cX12_count 29 = .ok (.sipush 357, 3) := by decide +kernel
theorem dX12_count_32 : decode cX12_count 32 = .ok (.iaload, 1) := by decide +kernel
theorem dX12_count_33 : decode cX12_count 33 = .ok (.goto 28, 3) := by decide +kernel
theorem dX12_count_36 : decode cX12_count 36 = .ok (.iload_n 1, 1) := by decide +kernel
theorem dX12_count_37 : decode cX12_count 37 = .ok (.iconst 2, 1) := by decide +kernel
theorem dX12_count_38 : decode cX12_count 38 = .ok (.if_icmp .ne 10, 3) := by decide +kernel
theorem dX12_count_41 : decode cX12_count 41 = .ok (.aload_n 0, 1) := by decide +kernel
theorem dX12_count_42 : decode cX12_count 42 = .ok (.getfield 201, 3) := by decide +kernel
theorem dX12_count_45 : decode cX12_count 45 = .ok (.goto 16, 3) := by decide +kernel
theorem dX12_count_48 : decode cX12_count 48 = .ok (.iload_n 1, 1) := by decide +kernel
theorem dX12_count_49 : decode cX12_count 49 = .ok (.iconst 3, 1) := by decide +kernel
theorem dX12_count_5 : decode cX12_count 5 = .ok (.iload_n 1, 1) := by decide +kernel
theorem dX12_count_50 : decode cX12_count 50 = .ok (.if_icmp .ne 10, 3) := by decide +kernel
theorem dX12_count_53 : decode cX12_count 53 = .ok (.aload_n 0, 1) := by decide +kernel
theorem dX12_count_54 : decode cX12_count 54 = .ok (.getfield 77, 3) := by decide +kernel
theorem dX12_count_57 : decode cX12_count 57 = .ok (.goto 4, 3) := by decide +kernel
theorem dX12_count_6 : decode cX12_count 6 = .ok (.ifCond .ne 14, 3) := by decide +kernel
theorem dX12_count_60 : decode cX12_count 60 = .ok (.iconst (-1), 1) := by decide +kernel
theorem dX12_count_61 : decode cX12_count 61 = .ok (.ireturn, 1) := by decide +kernel
theorem dX12_count_9 : decode cX12_count 9 = .ok (.aload_n 0, 1) := by decide +kernel
theorem dX12_dip_0 : decode cX12_dip 0 = .ok (.aload_n 0, 1) := by decide +kernel
theorem dX12_dip_1 : decode cX12_dip 1 = .ok (.iconst 0, 1) := by decide +kernel
theorem dX12_dip_10 : decode cX12_dip 10 = .ok (.invokestatic 279, 3) := by decide +kernel
theorem dX12_dip_100 : decode cX12_dip 100 = .ok (.aload_n 0, 1) := by decide +kernel
theorem dX12_dip_101 : decode cX12_dip 101 = .ok (.getfield 29, 3) := by decide +kernel
theorem dX12_dip_104 : decode cX12_dip 104 = .ok (.iload 4, 2) := by decide +kernel
theorem dX12_dip_106 : decode cX12_dip 106 = .ok (.iconst 2, 1) := by decide +kernel
theorem dX12_dip_107 : decode cX12_dip 107 = .ok (.iadd, 1) := by decide +kernel
theorem dX12_dip_108 : decode cX12_dip 108 = .ok (.iload_n 3, 1) := by decide +kernel
theorem dX12_dip_109 : decode cX12_dip 109 = .ok (.iastore, 1) := by decide +kernel
theorem dX12_dip_110 : decode cX12_dip 110 = .ok (.aload_n 0, 1) := by decide +kernel
theorem dX12_dip_111 : decode cX12_dip 111 = .ok (.getfield 29, 3) := by decide +kernel
theorem dX12_dip_114 : decode cX12_dip 114 = .ok (.sipush 357, 3) := by decide +kernel
theorem dX12_dip_117 : decode cX12_dip 117 = .ok (.dup2, 1) := by decide +kernel
theorem dX12_dip_118 : decode cX12_dip 118 = .ok (.iaload, 1) := by decide +kernel
theorem dX12_dip_119 : decode cX12_dip 119 = .ok (.iconst 1, 1) := by decide +kernel
theorem dX12_dip_120 : decode cX12_dip 120 = .ok (.iadd, 1) := by decide +kernel
theorem dX12_dip_121 : decode cX12_dip 121 = .ok (.iastore, 1) := by decide +kernel
theorem dX12_dip_122 : decode cX12_dip 122 = .ok (.aload_n 0, 1) := by decide +kernel
theorem dX12_dip_123 : decode cX12_dip 123 = .ok (.getfield 29, 3) := by decide +kernel
theorem dX12_dip_126 : decode cX12_dip 126 = .ok (.sipush 357, 3) := by decide +kernel
theorem dX12_dip_129 : decode cX12_dip 129 = .ok (.iaload, 1) := by decide +kernel
theorem dX12_dip_13 : decode cX12_dip 13 = .ok (.ifCond .eq 27, 3) := by decide +kernel
theorem dX12_dip_130 : decode cX12_dip 130 = .ok (.ireturn, 1) := by decide +kernel
theorem dX12_dip_16 : decode cX12_dip 16 = .ok (.iload_n 2, 1) := by decide +kernel
theorem dX12_dip_17 : decode cX12_dip 17 = .ok (.iconst 1, 1) := by decide +kernel
theorem dX12_dip_18 : decode cX12_dip 18 = .ok (.bipush 30, 2) := by decide +kernel
theorem dX12_dip_2 : decode cX12_dip 2 = .ok (.putfield 1, 3) := by decide +kernel
theorem dX12_dip_20 : decode cX12_dip 20 = .ok (.invokestatic 279, 3) := by decide +kernel
theorem dX12_dip_23 : decode cX12_dip 23 = .ok (.ifCond .eq 17, 3) := by decide +kernel
theorem dX12_dip_26 : decode cX12_dip 26 = .ok (.iload_n 3, 1) := by decide +kernel
theorem dX12_dip_27 : decode cX12_dip 27 = .ok (.iconst 1, 1) := by decide +kernel
theorem dX12_dip_28 : decode cX12_dip 28 = .ok (.bipush 99, 2) := by decide +kernel
theorem dX12_dip_30 : decode cX12_dip 30 = .ok (.invokestatic 279, 3) := by decide +kernel
theorem dX12_dip_33 : decode cX12_dip 33 = .ok (.ifCond .eq 7, 3) := by decide +kernel
theorem dX12_dip_36 : decode cX12_dip 36 = .ok (.iconst 1, 1) := by decide +kernel
theorem dX12_dip_37 : decode cX12_dip 37 = .ok (.goto 4, 3) := by decide +kernel
theorem dX12_dip_40 : decode cX12_dip 40 = .ok (.iconst 0, 1) := by decide +kernel
theorem dX12_dip_41 : decode cX12_dip 41 = .ok (.iconst 1, 1) := by decide +kernel
theorem dX12_dip_42 : decode cX12_dip 42 = .ok (.iconst 2, 1) := by decide +kernel
theorem dX12_dip_43 : decode cX12_dip 43 = .ok (.invokevirtual 175, 3) := by decide +kernel
theorem dX12_dip_46 : decode cX12_dip 46 = .ok (.ifCond .ne 5, 3) := by decide +kernel
theorem dX12_dip_49 : decode cX12_dip 49 = .ok (.iconst 0, 1) := by decide +kernel
theorem dX12_dip_5 : decode cX12_dip 5 = .ok (.aload_n 0, 1) := by decide +kernel
theorem dX12_dip_50 : decode cX12_dip 50 = .ok (.ireturn, 1) := by decide +kernel
theorem dX12_dip_51 : decode cX12_dip 51 = .ok (.aload_n 0, 1) := by decide +kernel
theorem dX12_dip_52 : decode cX12_dip 52 = .ok (.getfield 29, 3) := by decide +kernel
theorem dX12_dip_55 : decode cX12_dip 55 = .ok (.sipush 357, 3) := by decide +kernel
theorem dX12_dip_58 : decode cX12_dip 58 = .ok (.iaload, 1) := by decide +kernel
theorem dX12_dip_59 : decode cX12_dip 59 = .ok (.bipush 9, 2) := by decide +kernel
theorem dX12_dip_6 : decode cX12_dip 6 = .ok (.iload_n 1, 1) := by decide +kernel
theorem dX12_dip_61 : decode cX12_dip 61 = .ok (.if_icmp .ne 5, 3) := by decide +kernel
theorem dX12_dip_64 : decode cX12_dip 64 = .ok (.iconst (-1), 1) := by decide +kernel
theorem dX12_dip_65 : decode cX12_dip 65 = .ok (.ireturn, 1) := by decide +kernel
theorem dX12_dip_66 : decode cX12_dip 66 = .ok (.sipush 358, 3) := by decide +kernel
theorem dX12_dip_69 : decode cX12_dip 69 = .ok (.iconst 3, 1) := by decide +kernel
theorem dX12_dip_7 : decode cX12_dip 7 = .ok (.iconst 1, 1) := by decide +kernel
theorem dX12_dip_70 : decode cX12_dip 70 = .ok (.aload_n 0, 1) := by decide +kernel
theorem dX12_dip_71 : decode cX12_dip 71 = .ok (.getfield 29, 3) := by decide +kernel
theorem dX12_dip_74 : decode cX12_dip 74 = .ok (.sipush 357, 3) := by decide +kernel
theorem dX12_dip_77 : decode cX12_dip 77 = .ok (.iaload, 1) := by decide +kernel
theorem dX12_dip_78 : decode cX12_dip 78 = .ok (.imul, 1) := by decide +kernel
theorem dX12_dip_79 : decode cX12_dip 79 = .ok (.iadd, 1) := by decide +kernel
theorem dX12_dip_8 : decode cX12_dip 8 = .ok (.bipush 99, 2) := by decide +kernel
theorem dX12_dip_80 : decode cX12_dip 80 = .ok (.istore 4, 2) := by decide +kernel
theorem dX12_dip_82 : decode cX12_dip 82 = .ok (.aload_n 0, 1) := by decide +kernel
theorem dX12_dip_83 : decode cX12_dip 83 = .ok (.getfield 29, 3) := by decide +kernel
theorem dX12_dip_86 : decode cX12_dip 86 = .ok (.iload 4, 2) := by decide +kernel
theorem dX12_dip_88 : decode cX12_dip 88 = .ok (.iload_n 1, 1) := by decide +kernel
theorem dX12_dip_89 : decode cX12_dip 89 = .ok (.iastore, 1) := by decide +kernel
theorem dX12_dip_90 : decode cX12_dip 90 = .ok (.aload_n 0, 1) := by decide +kernel
theorem dX12_dip_91 : decode cX12_dip 91 = .ok (.getfield 29, 3) := by decide +kernel
theorem dX12_dip_94 : decode cX12_dip 94 = .ok (.iload 4, 2) := by decide +kernel
theorem dX12_dip_96 : decode cX12_dip 96 = .ok (.iconst 1, 1) := by decide +kernel
theorem dX12_dip_97 : decode cX12_dip 97 = .ok (.iadd, 1) := by decide +kernel
theorem dX12_dip_98 : decode cX12_dip 98 = .ok (.iload_n 2, 1) := by decide +kernel
theorem dX12_dip_99 : decode cX12_dip 99 = .ok (.iastore, 1) := by decide +kernel
theorem dX12_ice_0 : decode cX12_ice 0 = .ok (.aload_n 0, 1) := by decide +kernel
theorem dX12_ice_1 : decode cX12_ice 1 = .ok (.iconst 0, 1) := by decide +kernel
theorem dX12_ice_100 : decode cX12_ice 100 = .ok (.goto 4, 3) := by decide +kernel
theorem dX12_ice_103 : decode cX12_ice 103 = .ok (.iconst 0, 1) := by decide +kernel
theorem dX12_ice_104 : decode cX12_ice 104 = .ok (.istore 9, 2) := by decide +kernel
theorem dX12_ice_106 : decode cX12_ice 106 = .ok (.iload_n 3, 1) := by decide +kernel
theorem dX12_ice_107 : decode cX12_ice 107 = .ok (.iload 9, 2) := by decide +kernel
theorem dX12_ice_109 : decode cX12_ice 109 = .ok (.ifCond .eq 7, 3) := by decide +kernel
theorem dX12_ice_11 : decode cX12_ice 11 = .ok (.invokestatic 279, 3) := by decide +kernel
theorem dX12_ice_112 : decode cX12_ice 112 = .ok (.iconst 1, 1) := by decide +kernel
theorem dX12_ice_113 : decode cX12_ice 113 = .ok (.goto 4, 3) := by decide +kernel
theorem dX12_ice_116 : decode cX12_ice 116 = .ok (.iconst 0, 1) := by decide +kernel
theorem dX12_ice_117 : decode cX12_ice 117 = .ok (.iadd, 1) := by decide +kernel
theorem dX12_ice_118 : decode cX12_ice 118 = .ok (.istore_n 3, 1) := by decide +kernel
theorem dX12_ice_119 : decode cX12_ice 119 = .ok (.iload 9, 2) := by decide +kernel
theorem dX12_ice_121 : decode cX12_ice 121 = .ok (.ifCond .eq 10, 3) := by decide +kernel
theorem dX12_ice_124 : decode cX12_ice 124 = .ok (.iload 7, 2) := by decide +kernel
theorem dX12_ice_126 : decode cX12_ice 126 = .ok (.iconst 1, 1) := by decide +kernel
theorem dX12_ice_127 : decode cX12_ice 127 = .ok (.iadd, 1) := by decide +kernel
theorem dX12_ice_128 : decode cX12_ice 128 = .ok (.goto 4, 3) := by decide +kernel
theorem dX12_ice_131 : decode cX12_ice 131 = .ok (.iconst 0, 1) := by decide +kernel
theorem dX12_ice_132 : decode cX12_ice 132 = .ok (.istore 7, 2) := by decide +kernel
theorem dX12_ice_134 : decode cX12_ice 134 = .ok (.iload 7, 2) := by decide +kernel
theorem dX12_ice_136 : decode cX12_ice 136 = .ok (.iload 4, 2) := by decide +kernel
theorem dX12_ice_138 : decode cX12_ice 138 = .ok (.if_icmp .le 8, 3) := by decide +kernel
theorem dX12_ice_14 : decode cX12_ice 14 = .ok (.ifCond .eq 16, 3) := by decide +kernel
theorem dX12_ice_141 : decode cX12_ice 141 = .ok (.iload 7, 2) := by decide +kernel
theorem dX12_ice_143 : decode cX12_ice 143 = .ok (.goto 5, 3) := by decide +kernel
theorem dX12_ice_146 : decode cX12_ice 146 = .ok (.iload 4, 2) := by decide +kernel
theorem dX12_ice_148 : decode cX12_ice 148 = .ok (.istore 4, 2) := by decide +kernel
theorem dX12_ice_150 : decode cX12_ice 150 = .ok (.iload 5, 2) := by decide +kernel
theorem dX12_ice_152 : decode cX12_ice 152 = .ok (.iload 9, 2) := by decide +kernel
theorem dX12_ice_154 : decode cX12_ice 154 = .ok (.ifCond .eq 17, 3) := by decide +kernel
theorem dX12_ice_157 : decode cX12_ice 157 = .ok (.iload 6, 2) := by decide +kernel
theorem dX12_ice_159 : decode cX12_ice 159 = .ok (.ifCond .ne 12, 3) := by decide +kernel
theorem dX12_ice_162 : decode cX12_ice 162 = .ok (.aload_n 0, 1) := by decide +kernel
theorem dX12_ice_163 : decode cX12_ice 163 = .ok (.iload 8, 2) := by decide +kernel
theorem dX12_ice_165 : decode cX12_ice 165 = .ok (.invokevirtual 347, 3) := by decide +kernel
theorem dX12_ice_168 : decode cX12_ice 168 = .ok (.goto 4, 3) := by decide +kernel
theorem dX12_ice_17 : decode cX12_ice 17 = .ok (.iload_n 2, 1) := by decide +kernel
theorem dX12_ice_171 : decode cX12_ice 171 = .ok (.iconst 0, 1) := by decide +kernel
theorem dX12_ice_172 : decode cX12_ice 172 = .ok (.iadd, 1) := by decide +kernel
theorem dX12_ice_173 : decode cX12_ice 173 = .ok (.istore 5, 2) := by decide +kernel
theorem dX12_ice_175 : decode cX12_ice 175 = .ok (.iinc 8 1, 3) := by decide +kernel
theorem dX12_ice_178 : decode cX12_ice 178 = .ok (.goto (-109), 3) := by decide +kernel
theorem dX12_ice_18 : decode cX12_ice 18 = .ok (.iconst 0, 1) := by decide +kernel
theorem dX12_ice_181 : decode cX12_ice 181 = .ok (.iinc 6 1, 3) := by decide +kernel
theorem dX12_ice_184 : decode cX12_ice 184 = .ok (.goto (-132), 3) := by decide +kernel
theorem dX12_ice_187 : decode cX12_ice 187 = .ok (.iload_n 2, 1) := by decide +kernel
theorem dX12_ice_188 : decode cX12_ice 188 = .ok (.ifCond .ne 7, 3) := by decide +kernel
theorem dX12_ice_19 : decode cX12_ice 19 = .ok (.iconst 2, 1) := by decide +kernel
theorem dX12_ice_191 : decode cX12_ice 191 = .ok (.iload_n 3, 1) := by decide +kernel
theorem dX12_ice_192 : decode cX12_ice 192 = .ok (.goto 15, 3) := by decide +kernel
theorem dX12_ice_195 : decode cX12_ice 195 = .ok (.iload_n 2, 1) := by decide +kernel
theorem dX12_ice_196 : decode cX12_ice 196 = .ok (.iconst 1, 1) := by decide +kernel
theorem dX12_ice_197 : decode cX12_ice 197 = .ok (.if_icmp .ne 8, 3) := by decide +kernel
theorem dX12_ice_2 : decode cX12_ice 2 = .ok (.putfield 1, 3) := by decide +kernel
theorem dX12_ice_20 : decode cX12_ice 20 = .ok (.invokestatic 279, 3) := by decide +kernel
theorem dX12_ice_200 : decode cX12_ice 200 = .ok (.iload 4, 2) := by decide +kernel
theorem dX12_ice_202 : decode cX12_ice 202 = .ok (.goto 5, 3) := by decide +kernel
theorem dX12_ice_205 : decode cX12_ice 205 = .ok (.iload 5, 2) := by decide +kernel
theorem dX12_ice_207 : decode cX12_ice 207 = .ok (.ireturn, 1) := by decide +kernel
theorem dX12_ice_23 : decode cX12_ice 23 = .ok (.ifCond .eq 7, 3) := by decide +kernel
theorem dX12_ice_26 : decode cX12_ice 26 = .ok (.iconst 1, 1) := by decide +kernel
theorem dX12_ice_27 : decode cX12_ice 27 = .ok (.goto 4, 3) := by decide +kernel
theorem dX12_ice_30 : decode cX12_ice 30 = .ok (.iconst 0, 1) := by decide +kernel
theorem dX12_ice_31 : decode cX12_ice 31 = .ok (.iconst 1, 1) := by decide +kernel
theorem dX12_ice_32 : decode cX12_ice 32 = .ok (.iconst 2, 1) := by decide +kernel
theorem dX12_ice_33 : decode cX12_ice 33 = .ok (.invokevirtual 175, 3) := by decide +kernel
theorem dX12_ice_36 : decode cX12_ice 36 = .ok (.ifCond .ne 5, 3) := by decide +kernel
theorem dX12_ice_39 : decode cX12_ice 39 = .ok (.iconst 0, 1) := by decide +kernel
theorem dX12_ice_40 : decode cX12_ice 40 = .ok (.ireturn, 1) := by decide +kernel
theorem dX12_ice_41 : decode cX12_ice 41 = .ok (.iconst 0, 1) := by decide +kernel
theorem dX12_ice_42 : decode cX12_ice 42 = .ok (.istore_n 3, 1) := by decide +kernel
theorem dX12_ice_43 : decode cX12_ice 43 = .ok (.iconst 0, 1) := by decide +kernel
theorem dX12_ice_44 : decode cX12_ice 44 = .ok (.istore 4, 2) := by decide +kernel
theorem dX12_ice_46 : decode cX12_ice 46 = .ok (.iconst 0, 1) := by decide +kernel
theorem dX12_ice_47 : decode cX12_ice 47 = .ok (.istore 5, 2) := by decide +kernel
theorem dX12_ice_49 : decode cX12_ice 49 = .ok (.iconst 0, 1) := by decide +kernel
theorem dX12_ice_5 : decode cX12_ice 5 = .ok (.aload_n 0, 1) := by decide +kernel
theorem dX12_ice_50 : decode cX12_ice 50 = .ok (.istore 6, 2) := by decide +kernel
theorem dX12_ice_52 : decode cX12_ice 52 = .ok (.iload 6, 2) := by decide +kernel
theorem dX12_ice_54 : decode cX12_ice 54 = .ok (.aload_n 0, 1) := by decide +kernel
theorem dX12_ice_55 : decode cX12_ice 55 = .ok (.getfield 23, 3) := by decide +kernel
theorem dX12_ice_58 : decode cX12_ice 58 = .ok (.iconst 1, 1) := by decide +kernel
theorem dX12_ice_59 : decode cX12_ice 59 = .ok (.iaload, 1) := by decide +kernel
theorem dX12_ice_6 : decode cX12_ice 6 = .ok (.iload_n 1, 1) := by decide +kernel
theorem dX12_ice_60 : decode cX12_ice 60 = .ok (.if_icmp .ge 127, 3) := by decide +kernel
theorem dX12_ice_63 : decode cX12_ice 63 = .ok (.iconst 0, 1) := by decide +kernel
theorem dX12_ice_64 : decode cX12_ice 64 = .ok (.istore 7, 2) := by decide +kernel
theorem dX12_ice_66 : decode cX12_ice 66 = .ok (.iconst 0, 1) := by decide +kernel
theorem dX12_ice_67 : decode cX12_ice 67 = .ok (.istore 8, 2) := by decide +kernel
theorem dX12_ice_69 : decode cX12_ice 69 = .ok (.iload 8, 2) := by decide +kernel
theorem dX12_ice_7 : decode cX12_ice 7 = .ok (.iconst 1, 1) := by decide +kernel
theorem dX12_ice_71 : decode cX12_ice 71 = .ok (.aload_n 0, 1) := by decide +kernel
theorem dX12_ice_72 : decode cX12_ice 72 = .ok (.getfield 23, 3) := by decide +kernel
theorem dX12_ice_75 : decode cX12_ice 75 = .ok (.iconst 0, 1) := by decide +kernel
theorem dX12_ice_76 : decode cX12_ice 76 = .ok (.iaload, 1) := by decide +kernel
theorem dX12_ice_77 : decode cX12_ice 77 = .ok (.if_icmp .ge 104, 3) := by decide +kernel
theorem dX12_ice_8 : decode cX12_ice 8 = .ok (.sipush 9999, 3) := by decide +kernel
theorem dX12_ice_80 : decode cX12_ice 80 = .ok (.aload_n 0, 1) := by decide +kernel
theorem dX12_ice_81 : decode cX12_ice 81 = .ok (.getfield 29, 3) := by decide +kernel
theorem dX12_ice_84 : decode cX12_ice 84 = .ok (.bipush 96, 2) := by decide +kernel
theorem dX12_ice_86 : decode cX12_ice 86 = .ok (.iload 8, 2) := by decide +kernel
theorem dX12_ice_88 : decode cX12_ice 88 = .ok (.iload 6, 2) := by decide +kernel
theorem dX12_ice_90 : decode cX12_ice 90 = .ok (.invokestatic 289, 3) := by decide +kernel
theorem dX12_ice_93 : decode cX12_ice 93 = .ok (.iadd, 1) := by decide +kernel
theorem dX12_ice_94 : decode cX12_ice 94 = .ok (.iaload, 1) := by decide +kernel
theorem dX12_ice_95 : decode cX12_ice 95 = .ok (.iload_n 1, 1) := by decide +kernel
theorem dX12_ice_96 : decode cX12_ice 96 = .ok (.if_icmp .lt 7, 3) := by decide +kernel
theorem dX12_ice_99 : decode cX12_ice 99 = .ok (.iconst 1, 1) := by decide +kernel
theorem dX12_meant_0 : decode cX12_meant 0 = .ok (.aload_n 0, 1) := by decide +kernel
theorem dX12_meant_1 : decode cX12_meant 1 = .ok (.iconst 0, 1) := by decide +kernel
theorem dX12_meant_102 : decode cX12_meant 102 = .ok (.aload_n 0, 1) := by decide +kernel
theorem dX12_meant_103 : decode cX12_meant 103 = .ok (.getfield 344, 3) := by decide +kernel
theorem dX12_meant_106 : decode cX12_meant 106 = .ok (.iload_n 3, 1) := by decide +kernel
theorem dX12_meant_107 : decode cX12_meant 107 = .ok (.if_icmp .ne 57, 3) := by decide +kernel
theorem dX12_meant_110 : decode cX12_meant 110 = .ok (.aload_n 0, 1) := by decide +kernel
theorem dX12_meant_111 : decode cX12_meant 111 = .ok (.getfield 353, 3) := by decide +kernel
theorem dX12_meant_114 : decode cX12_meant 114 = .ok (.iload 4, 2) := by decide +kernel
theorem dX12_meant_116 : decode cX12_meant 116 = .ok (.if_icmp .eq 6, 3) := by decide +kernel
theorem dX12_meant_119 : decode cX12_meant 119 = .ok (.goto 45, 3) := by decide +kernel
theorem dX12_meant_12 : decode cX12_meant 12 = .ok (.ifCond .eq 59, 3) := by decide +kernel
theorem dX12_meant_122 : decode cX12_meant 122 = .ok (.iload 8, 2) := by decide +kernel
theorem dX12_meant_124 : decode cX12_meant 124 = .ok (.aload_n 0, 1) := by decide +kernel
theorem dX12_meant_125 : decode cX12_meant 125 = .ok (.getfield 29, 3) := by decide +kernel
theorem dX12_meant_128 : decode cX12_meant 128 = .ok (.sipush 353, 3) := by decide +kernel
theorem dX12_meant_131 : decode cX12_meant 131 = .ok (.iload 10, 2) := by decide +kernel
theorem dX12_meant_133 : decode cX12_meant 133 = .ok (.iadd, 1) := by decide +kernel
theorem dX12_meant_134 : decode cX12_meant 134 = .ok (.iaload, 1) := by decide +kernel
theorem dX12_meant_135 : decode cX12_meant 135 = .ok (.iadd, 1) := by decide +kernel
theorem dX12_meant_136 : decode cX12_meant 136 = .ok (.istore 8, 2) := by decide +kernel
theorem dX12_meant_138 : decode cX12_meant 138 = .ok (.iload 9, 2) := by decide +kernel
theorem dX12_meant_140 : decode cX12_meant 140 = .ok (.iload 10, 2) := by decide +kernel
theorem dX12_meant_142 : decode cX12_meant 142 = .ok (.iconst 3, 1) := by decide +kernel
theorem dX12_meant_143 : decode cX12_meant 143 = .ok (.if_icmp .ne 17, 3) := by decide +kernel
theorem dX12_meant_146 : decode cX12_meant 146 = .ok (.aload_n 0, 1) := by decide +kernel
theorem dX12_meant_147 : decode cX12_meant 147 = .ok (.getfield 29, 3) := by decide +kernel
theorem dX12_meant_15 : decode cX12_meant 15 = .ok (.aload_n 0, 1) := by decide +kernel
theorem dX12_meant_150 : decode cX12_meant 150 = .ok (.sipush 353, 3) := by decide +kernel
theorem dX12_meant_153 : decode cX12_meant 153 = .ok (.iload 10, 2) := by decide +kernel
theorem dX12_meant_155 : decode cX12_meant 155 = .ok (.iadd, 1) := by decide +kernel
theorem dX12_meant_156 : decode cX12_meant 156 = .ok (.iaload, 1) := by decide +kernel
theorem dX12_meant_157 : decode cX12_meant 157 = .ok (.goto 4, 3) := by decide +kernel
theorem dX12_meant_16 : decode cX12_meant 16 = .ok (.iload_n 1, 1) := by decide +kernel
theorem dX12_meant_160 : decode cX12_meant 160 = .ok (.iconst 0, 1) := by decide +kernel
theorem dX12_meant_161 : decode cX12_meant 161 = .ok (.iadd, 1) := by decide +kernel
theorem dX12_meant_162 : decode cX12_meant 162 = .ok (.istore 9, 2) := by decide +kernel
theorem dX12_meant_164 : decode cX12_meant 164 = .ok (.iinc 10 1, 3) := by decide +kernel
theorem dX12_meant_167 : decode cX12_meant 167 = .ok (.goto (-85), 3) := by decide +kernel
theorem dX12_meant_17 : decode cX12_meant 17 = .ok (.iconst 2, 1) := by decide +kernel
theorem dX12_meant_170 : decode cX12_meant 170 = .ok (.iload 8, 2) := by decide +kernel
theorem dX12_meant_172 : decode cX12_meant 172 = .ok (.ifCond .ne 7, 3) := by decide +kernel
theorem dX12_meant_175 : decode cX12_meant 175 = .ok (.iconst 0, 1) := by decide +kernel
theorem dX12_meant_176 : decode cX12_meant 176 = .ok (.goto 12, 3) := by decide +kernel
theorem dX12_meant_179 : decode cX12_meant 179 = .ok (.sipush 1000, 3) := by decide +kernel
theorem dX12_meant_18 : decode cX12_meant 18 = .ok (.invokevirtual 334, 3) := by decide +kernel
theorem dX12_meant_182 : decode cX12_meant 182 = .ok (.iload 9, 2) := by decide +kernel
theorem dX12_meant_184 : decode cX12_meant 184 = .ok (.imul, 1) := by decide +kernel
theorem dX12_meant_185 : decode cX12_meant 185 = .ok (.iload 8, 2) := by decide +kernel
theorem dX12_meant_187 : decode cX12_meant 187 = .ok (.idiv, 1) := by decide +kernel
theorem dX12_meant_188 : decode cX12_meant 188 = .ok (.ireturn, 1) := by decide +kernel
theorem dX12_meant_2 : decode cX12_meant 2 = .ok (.putfield 1, 3) := by decide +kernel
theorem dX12_meant_21 : decode cX12_meant 21 = .ok (.ifCond .eq 50, 3) := by decide +kernel
theorem dX12_meant_24 : decode cX12_meant 24 = .ok (.aload_n 0, 1) := by decide +kernel
theorem dX12_meant_25 : decode cX12_meant 25 = .ok (.aload_n 0, 1) := by decide +kernel
theorem dX12_meant_26 : decode cX12_meant 26 = .ok (.iload 5, 2) := by decide +kernel
theorem dX12_meant_28 : decode cX12_meant 28 = .ok (.iload 6, 2) := by decide +kernel
theorem dX12_meant_30 : decode cX12_meant 30 = .ok (.iload 7, 2) := by decide +kernel
theorem dX12_meant_32 : decode cX12_meant 32 = .ok (.iconst 0, 1) := by decide +kernel
theorem dX12_meant_33 : decode cX12_meant 33 = .ok (.invokevirtual 367, 3) := by decide +kernel
theorem dX12_meant_36 : decode cX12_meant 36 = .ok (.ifCond .eq 18, 3) := by decide +kernel
theorem dX12_meant_39 : decode cX12_meant 39 = .ok (.iload 4, 2) := by decide +kernel
theorem dX12_meant_41 : decode cX12_meant 41 = .ok (.iconst 1, 1) := by decide +kernel
theorem dX12_meant_42 : decode cX12_meant 42 = .ok (.bipush 60, 2) := by decide +kernel
theorem dX12_meant_44 : decode cX12_meant 44 = .ok (.invokestatic 279, 3) := by decide +kernel
theorem dX12_meant_47 : decode cX12_meant 47 = .ok (.ifCond .eq 7, 3) := by decide +kernel
theorem dX12_meant_5 : decode cX12_meant 5 = .ok (.aload_n 0, 1) := by decide +kernel
theorem dX12_meant_50 : decode cX12_meant 50 = .ok (.iconst 1, 1) := by decide +kernel
theorem dX12_meant_51 : decode cX12_meant 51 = .ok (.goto 4, 3) := by decide +kernel
theorem dX12_meant_54 : decode cX12_meant 54 = .ok (.iconst 0, 1) := by decide +kernel
theorem dX12_meant_55 : decode cX12_meant 55 = .ok (.iconst 3, 1) := by decide +kernel
theorem dX12_meant_56 : decode cX12_meant 56 = .ok (.iconst 2, 1) := by decide +kernel
theorem dX12_meant_57 : decode cX12_meant 57 = .ok (.invokevirtual 175, 3) := by decide +kernel
theorem dX12_meant_6 : decode cX12_meant 6 = .ok (.iload_n 2, 1) := by decide +kernel
theorem dX12_meant_60 : decode cX12_meant 60 = .ok (.ifCond .eq 11, 3) := by decide +kernel
theorem dX12_meant_63 : decode cX12_meant 63 = .ok (.aload_n 0, 1) := by decide +kernel
theorem dX12_meant_64 : decode cX12_meant 64 = .ok (.iconst 4, 1) := by decide +kernel
theorem dX12_meant_65 : decode cX12_meant 65 = .ok (.invokevirtual 371, 3) := by decide +kernel
theorem dX12_meant_68 : decode cX12_meant 68 = .ok (.ifCond .ne 5, 3) := by decide +kernel
theorem dX12_meant_7 : decode cX12_meant 7 = .ok (.iload_n 3, 1) := by decide +kernel
theorem dX12_meant_71 : decode cX12_meant 71 = .ok (.iconst 0, 1) := by decide +kernel
theorem dX12_meant_72 : decode cX12_meant 72 = .ok (.ireturn, 1) := by decide +kernel
theorem dX12_meant_73 : decode cX12_meant 73 = .ok (.iconst 0, 1) := by decide +kernel
theorem dX12_meant_74 : decode cX12_meant 74 = .ok (.istore 8, 2) := by decide +kernel
theorem dX12_meant_76 : decode cX12_meant 76 = .ok (.iconst 0, 1) := by decide +kernel
theorem dX12_meant_77 : decode cX12_meant 77 = .ok (.istore 9, 2) := by decide +kernel
theorem dX12_meant_79 : decode cX12_meant 79 = .ok (.iconst 0, 1) := by decide +kernel
theorem dX12_meant_8 : decode cX12_meant 8 = .ok (.iconst 1, 1) := by decide +kernel
theorem dX12_meant_80 : decode cX12_meant 80 = .ok (.istore 10, 2) := by decide +kernel
theorem dX12_meant_82 : decode cX12_meant 82 = .ok (.iload 10, 2) := by decide +kernel
theorem dX12_meant_84 : decode cX12_meant 84 = .ok (.iconst 4, 1) := by decide +kernel
theorem dX12_meant_85 : decode cX12_meant 85 = .ok (.if_icmp .ge 85, 3) := by decide +kernel
theorem dX12_meant_88 : decode cX12_meant 88 = .ok (.aload_n 0, 1) := by decide +kernel
theorem dX12_meant_89 : decode cX12_meant 89 = .ok (.iload_n 1, 1) := by decide +kernel
theorem dX12_meant_9 : decode cX12_meant 9 = .ok (.invokevirtual 286, 3) := by decide +kernel
theorem dX12_meant_90 : decode cX12_meant 90 = .ok (.iload_n 2, 1) := by decide +kernel
theorem dX12_meant_91 : decode cX12_meant 91 = .ok (.iload 5, 2) := by decide +kernel
theorem dX12_meant_93 : decode cX12_meant 93 = .ok (.iload 6, 2) := by decide +kernel
theorem dX12_meant_95 : decode cX12_meant 95 = .ok (.iload 7, 2) := by decide +kernel
theorem dX12_meant_97 : decode cX12_meant 97 = .ok (.iload 10, 2) := by decide +kernel
theorem dX12_meant_99 : decode cX12_meant 99 = .ok (.invokevirtual 360, 3) := by decide +kernel
theorem dX12_says_0 : decode cX12_says 0 = .ok (.aload_n 0, 1) := by decide +kernel
theorem dX12_says_1 : decode cX12_says 1 = .ok (.iconst 0, 1) := by decide +kernel
theorem dX12_says_11 : decode cX12_says 11 = .ok (.ifCond .eq 18, 3) := by decide +kernel
theorem dX12_says_14 : decode cX12_says 14 = .ok (.aload_n 0, 1) := by decide +kernel
theorem dX12_says_15 : decode cX12_says 15 = .ok (.iload_n 2, 1) := by decide +kernel
theorem dX12_says_16 : decode cX12_says 16 = .ok (.iconst 0, 1) := by decide +kernel
theorem dX12_says_17 : decode cX12_says 17 = .ok (.iconst 4, 1) := by decide +kernel
theorem dX12_says_18 : decode cX12_says 18 = .ok (.invokestatic 279, 3) := by decide +kernel
theorem dX12_says_2 : decode cX12_says 2 = .ok (.putfield 1, 3) := by decide +kernel
theorem dX12_says_21 : decode cX12_says 21 = .ok (.iconst 2, 1) := by decide +kernel
theorem dX12_says_22 : decode cX12_says 22 = .ok (.iconst 2, 1) := by decide +kernel
theorem dX12_says_23 : decode cX12_says 23 = .ok (.invokevirtual 175, 3) := by decide +kernel
theorem dX12_says_26 : decode cX12_says 26 = .ok (.ifCond .ne 5, 3) := by decide +kernel
theorem dX12_says_29 : decode cX12_says 29 = .ok (.iconst 0, 1) := by decide +kernel
theorem dX12_says_30 : decode cX12_says 30 = .ok (.ireturn, 1) := by decide +kernel
theorem dX12_says_31 : decode cX12_says 31 = .ok (.aload_n 0, 1) := by decide +kernel
theorem dX12_says_32 : decode cX12_says 32 = .ok (.iload_n 3, 1) := by decide +kernel
theorem dX12_says_33 : decode cX12_says 33 = .ok (.iload 4, 2) := by decide +kernel
theorem dX12_says_35 : decode cX12_says 35 = .ok (.iload 5, 2) := by decide +kernel
theorem dX12_says_37 : decode cX12_says 37 = .ok (.iload 6, 2) := by decide +kernel
theorem dX12_says_39 : decode cX12_says 39 = .ok (.iload 8, 2) := by decide +kernel
theorem dX12_says_41 : decode cX12_says 41 = .ok (.invokevirtual 337, 3) := by decide +kernel
theorem dX12_says_44 : decode cX12_says 44 = .ok (.aload_n 0, 1) := by decide +kernel
theorem dX12_says_45 : decode cX12_says 45 = .ok (.getfield 65, 3) := by decide +kernel
theorem dX12_says_48 : decode cX12_says 48 = .ok (.iconst 4, 1) := by decide +kernel
theorem dX12_says_49 : decode cX12_says 49 = .ok (.iload 7, 2) := by decide +kernel
theorem dX12_says_5 : decode cX12_says 5 = .ok (.aload_n 0, 1) := by decide +kernel
theorem dX12_says_51 : decode cX12_says 51 = .ok (.iastore, 1) := by decide +kernel
theorem dX12_says_52 : decode cX12_says 52 = .ok (.aload_n 0, 1) := by decide +kernel
theorem dX12_says_53 : decode cX12_says 53 = .ok (.getfield 65, 3) := by decide +kernel
theorem dX12_says_56 : decode cX12_says 56 = .ok (.bipush 6, 2) := by decide +kernel
theorem dX12_says_58 : decode cX12_says 58 = .ok (.iload 9, 2) := by decide +kernel
theorem dX12_says_6 : decode cX12_says 6 = .ok (.iload_n 1, 1) := by decide +kernel
theorem dX12_says_60 : decode cX12_says 60 = .ok (.iastore, 1) := by decide +kernel
theorem dX12_says_61 : decode cX12_says 61 = .ok (.aload_n 0, 1) := by decide +kernel
theorem dX12_says_62 : decode cX12_says 62 = .ok (.iconst 5, 1) := by decide +kernel
theorem dX12_says_63 : decode cX12_says 63 = .ok (.iload_n 1, 1) := by decide +kernel
theorem dX12_says_64 : decode cX12_says 64 = .ok (.imul, 1) := by decide +kernel
theorem dX12_says_65 : decode cX12_says 65 = .ok (.iload_n 2, 1) := by decide +kernel
theorem dX12_says_66 : decode cX12_says 66 = .ok (.iadd, 1) := by decide +kernel
theorem dX12_says_67 : decode cX12_says 67 = .ok (.invokevirtual 341, 3) := by decide +kernel
theorem dX12_says_7 : decode cX12_says 7 = .ok (.iconst 1, 1) := by decide +kernel
theorem dX12_says_70 : decode cX12_says 70 = .ok (.ireturn, 1) := by decide +kernel
theorem dX12_says_8 : decode cX12_says 8 = .ok (.invokevirtual 334, 3) := by decide +kernel
theorem dX12_share_0 : decode cX12_share 0 = .ok (.aload_n 0, 1) := by decide +kernel
theorem dX12_share_1 : decode cX12_share 1 = .ok (.iconst 0, 1) := by decide +kernel
theorem dX12_share_12 : decode cX12_share 12 = .ok (.ifCond .eq 17, 3) := by decide +kernel
theorem dX12_share_15 : decode cX12_share 15 = .ok (.iload_n 2, 1) := by decide +kernel
theorem dX12_share_16 : decode cX12_share 16 = .ok (.iconst 0, 1) := by decide +kernel
theorem dX12_share_17 : decode cX12_share 17 = .ok (.bipush 99, 2) := by decide +kernel
theorem dX12_share_19 : decode cX12_share 19 = .ok (.invokestatic 279, 3) := by decide +kernel
theorem dX12_share_2 : decode cX12_share 2 = .ok (.putfield 1, 3) := by decide +kernel
theorem dX12_share_22 : decode cX12_share 22 = .ok (.ifCond .eq 7, 3) := by decide +kernel
theorem dX12_share_25 : decode cX12_share 25 = .ok (.iconst 1, 1) := by decide +kernel
theorem dX12_share_26 : decode cX12_share 26 = .ok (.goto 4, 3) := by decide +kernel
theorem dX12_share_29 : decode cX12_share 29 = .ok (.iconst 0, 1) := by decide +kernel
theorem dX12_share_30 : decode cX12_share 30 = .ok (.iconst 1, 1) := by decide +kernel
theorem dX12_share_31 : decode cX12_share 31 = .ok (.iconst 2, 1) := by decide +kernel
theorem dX12_share_32 : decode cX12_share 32 = .ok (.invokevirtual 175, 3) := by decide +kernel
theorem dX12_share_35 : decode cX12_share 35 = .ok (.ifCond .ne 5, 3) := by decide +kernel
theorem dX12_share_38 : decode cX12_share 38 = .ok (.iconst 0, 1) := by decide +kernel
theorem dX12_share_39 : decode cX12_share 39 = .ok (.ireturn, 1) := by decide +kernel
theorem dX12_share_40 : decode cX12_share 40 = .ok (.aload_n 0, 1) := by decide +kernel
theorem dX12_share_41 : decode cX12_share 41 = .ok (.getfield 29, 3) := by decide +kernel
theorem dX12_share_44 : decode cX12_share 44 = .ok (.sipush 353, 3) := by decide +kernel
theorem dX12_share_47 : decode cX12_share 47 = .ok (.iload_n 1, 1) := by decide +kernel
theorem dX12_share_48 : decode cX12_share 48 = .ok (.iadd, 1) := by decide +kernel
theorem dX12_share_49 : decode cX12_share 49 = .ok (.iaload, 1) := by decide +kernel
theorem dX12_share_5 : decode cX12_share 5 = .ok (.aload_n 0, 1) := by decide +kernel
theorem dX12_share_50 : decode cX12_share 50 = .ok (.istore_n 3, 1) := by decide +kernel
theorem dX12_share_51 : decode cX12_share 51 = .ok (.aload_n 0, 1) := by decide +kernel
theorem dX12_share_52 : decode cX12_share 52 = .ok (.getfield 29, 3) := by decide +kernel
theorem dX12_share_55 : decode cX12_share 55 = .ok (.sipush 353, 3) := by decide +kernel
theorem dX12_share_58 : decode cX12_share 58 = .ok (.iload_n 1, 1) := by decide +kernel
theorem dX12_share_59 : decode cX12_share 59 = .ok (.iadd, 1) := by decide +kernel
theorem dX12_share_6 : decode cX12_share 6 = .ok (.iload_n 1, 1) := by decide +kernel
theorem dX12_share_60 : decode cX12_share 60 = .ok (.iload_n 2, 1) := by decide +kernel
theorem dX12_share_61 : decode cX12_share 61 = .ok (.iastore, 1) := by decide +kernel
theorem dX12_share_62 : decode cX12_share 62 = .ok (.iload_n 3, 1) := by decide +kernel
theorem dX12_share_63 : decode cX12_share 63 = .ok (.ireturn, 1) := by decide +kernel
theorem dX12_share_7 : decode cX12_share 7 = .ok (.iconst 0, 1) := by decide +kernel
theorem dX12_share_8 : decode cX12_share 8 = .ok (.iconst 3, 1) := by decide +kernel
theorem dX12_share_9 : decode cX12_share 9 = .ok (.invokestatic 279, 3) := by decide +kernel
theorem dX12_status_0 : decode cX12_status 0 = .ok (.aload_n 0, 1) := by decide +kernel
theorem dX12_status_1 : decode cX12_status 1 = .ok (.iconst 0, 1) := by decide +kernel
theorem dX12_status_11 : decode cX12_status 11 = .ok (.ifCond .eq 12, 3) := by decide +kernel
theorem dX12_status_14 : decode cX12_status 14 = .ok (.aload_n 0, 1) := by decide +kernel
theorem dX12_status_15 : decode cX12_status 15 = .ok (.getfield 7, 3) := by decide +kernel
theorem dX12_status_18 : decode cX12_status 18 = .ok (.iload_n 1, 1) := by decide +kernel
theorem dX12_status_19 : decode cX12_status 19 = .ok (.iaload, 1) := by decide +kernel
theorem dX12_status_2 : decode cX12_status 2 = .ok (.putfield 1, 3) := by decide +kernel
theorem dX12_status_20 : decode cX12_status 20 = .ok (.goto 4, 3) := by decide +kernel
theorem dX12_status_23 : decode cX12_status 23 = .ok (.iconst (-1), 1) := by decide +kernel
theorem dX12_status_24 : decode cX12_status 24 = .ok (.ireturn, 1) := by decide +kernel
theorem dX12_status_5 : decode cX12_status 5 = .ok (.iload_n 1, 1) := by decide +kernel
theorem dX12_status_6 : decode cX12_status 6 = .ok (.iconst 0, 1) := by decide +kernel
theorem dX12_status_7 : decode cX12_status 7 = .ok (.iconst 3, 1) := by decide +kernel
theorem dX12_status_8 : decode cX12_status 8 = .ok (.invokestatic 279, 3) := by decide +kernel
def vs_m_meant : List Cond := .code yX12_meant cX12_meant 11 (some .int) :: (([.fieldLink RX12 1 "KerbSplashModel" "thrown" "I", .fieldLink RX12 344 "KerbSplashModel" "itsRow" "I", .fieldLink RX12 353 "KerbSplashModel" "itsPace" "I", .fieldLink RX12 29 "KerbSplashModel" "s" "[I"] : List Cond) ++ ((wsX120) ++ ((wsV RX12 286 RX12 yX12_isCell vs_m_isCell) ++ ((wsV RX12 334 RX12 yX12_isLaw vs_m_isLaw) ++ ((wsV RX12 367 RX12 yX12_isCar vs_m_isCar) ++ ((wsV RX12 175 RX12 yX12_may vs_m_may) ++ ((va_wsS RX12 279 yX12_within vs_m_within) ++ ((wsV RX12 371 RX12 yX12_isStreet vs_m_isStreet) ++ ((wsV RX12 360 RX12 yX12_drives vs_m_drives) ++ ([]))))))))))
set_option maxHeartbeats 4000000 in
set_option maxRecDepth 100000 in
theorem m_meant (l : Launch) (hl : l.stackTraces = false) (D : va_G) (cy : Nat → ClassId) (sa : Nat → Nat) (mm m1 m9 m10 m11 m12 m13 m14 m15 m19 m20 m21 m23 m24 m25 m26 m27 m28 m33 m35 : Nat) (th tp sz_ ap bad bk opn fp im nr nl sp_ wtc wcl ir ip shu sfa swr : Int) (f1 f10 f12 f23 f24 f25 f26 f27 f28 : Nat → Int32) (n x y p0 p1 p2 p3 : Int) (sz : Nat) (hr_th : (-2147483648) ≤ th ∧ th ≤ 2147483647) (hr_tp : 0 ≤ tp ∧ tp ≤ 600) (hr_sz_ : 0 ≤ sz_ ∧ sz_ ≤ 600) (hr_ap : 0 ≤ ap ∧ ap ≤ 602) (hr_bad : (-1) ≤ bad ∧ bad ≤ 602) (hr_bk : 0 ≤ bk ∧ bk ≤ 4) (hr_opn : 0 ≤ opn ∧ opn ≤ 7) (hr_fp : (-2147483648) ≤ fp ∧ fp ≤ 2147483647) (hr_im : 0 ≤ im ∧ im ≤ 3) (hr_nr : 0 ≤ nr ∧ nr ≤ 4) (hr_nl : 0 ≤ nl ∧ nl ≤ 4) (hr_sp_ : 0 ≤ sp_ ∧ sp_ ≤ 602) (hr_wtc : (-2147483648) ≤ wtc ∧ wtc ≤ 2147483647) (hr_wcl : 0 ≤ wcl ∧ wcl ≤ 95) (hr_ir : 0 ≤ ir ∧ ir ≤ 5) (hr_ip : (-2147483648) ≤ ip ∧ ip ≤ 2147483647) (hr_shu : (-2147483648) ≤ shu ∧ shu ≤ 2147483647) (hr_sfa : (-2147483648) ≤ sfa ∧ sfa ≤ 2147483647) (hr_swr : (-2147483648) ≤ swr ∧ swr ≤ 2147483647) (hr_n : (-2147483648) ≤ n ∧ n ≤ 2147483647) (hr_x : (-2147483648) ≤ x ∧ x ≤ 2147483647) (hr_y : (-2147483648) ≤ y ∧ y ≤ 2147483647) (hr_p0 : (-2147483648) ≤ p0 ∧ p0 ≤ 2147483647) (hr_p1 : (-2147483648) ≤ p1 ∧ p1 ≤ 2147483647) (hr_p2 : (-2147483648) ≤ p2 ∧ p2 ≤ 2147483647) (hr_p3 : (-2147483648) ≤ p3 ∧ p3 ≤ 2147483647) (hn_li : LI nl f23 f24 f25 f26) (hf10 : BI f10) (hf12 : SI 8 f12) : mI9 l yX12_meant vs_m_meant ({ frames := 2, cells := 0, slots := 0, locals := 53 }) D cy sa sz [vR mm, vI n, vI x, vI y, vI p0, vI p1, vI p2, vI p3] [zO mm 12 [vI th, vR m1, vI tp, vI sz_, vI ap, vI bad, vI bk, vI opn, vI fp, vR m9, vR m10, vR m11, vR m12, vR m13, vR m14, vR m15, vI im, vI nr, vI nl, vR m19, vR m20, vR m21, vI sp_, vR m23, vR m24, vR m25, vR m26, vR m27, vR m28, vI wtc, vI wcl, vI ir, vI ip, vR m33, vI shu, vR m35, vI sfa, vI swr], zI m1 (cy 0) 4 f1, zI m10 (cy 0) 68 f10, zI m12 (cy 0) 389 f12, zI m23 (cy 0) 2480 f23, zI m24 (cy 0) 2480 f24, zI m25 (cy 0) 20 f25, zI m26 (cy 0) 20 f26, zI m27 (cy 0) 620 f27, zI m28 (cy 0) 7 f28] (fun (r : Int32) (u : SV) => r = iI (u.2.1 0) ∧ ((-2147483648) ≤ u.2.1 1 ∧ u.2.1 1 ≤ 2147483647) ∧ (0 ≤ u.2.1 2 ∧ u.2.1 2 ≤ 5) ∧ ((-2147483648) ≤ u.2.1 3 ∧ u.2.1 3 ≤ 2147483647) ∧ ((-2147483648) ≤ u.2.1 0 ∧ u.2.1 0 ≤ 2147483647) ∧ BI f10 ∧ SI 8 f12) (fun u : SV => [zO mm 12 [vI (u.2.1 1), vR m1, vI tp, vI sz_, vI ap, vI bad, vI bk, vI opn, vI fp, vR m9, vR m10, vR m11, vR m12, vR m13, vR m14, vR m15, vI im, vI nr, vI nl, vR m19, vR m20, vR m21, vI sp_, vR m23, vR m24, vR m25, vR m26, vR m27, vR m28, vI wtc, vI wcl, vI (u.2.1 2), vI (u.2.1 3), vR m33, vI shu, vR m35, vI sfa, vI swr], zI m1 (cy 0) 4 (u.2.2 0), zI m10 (cy 0) 68 f10, zI m12 (cy 0) 389 f12, zI m23 (cy 0) 2480 f23, zI m24 (cy 0) 2480 f24, zI m25 (cy 0) 20 f25, zI m26 (cy 0) 20 f26, zI m27 (cy 0) 620 (u.2.2 1), zI m28 (cy 0) 7 (u.2.2 2)]) 0 0 := by
  refine Met.ofW (cc := cX12_meant) (maxL := 11) (ret := (some .int)) (by decide) rfl ?_
  intro p e s m args below meth c s₁ B hml hv
  obtain ⟨rfl, hsz, hP, hG, hD0, hT⟩ := hv
  have hx := B.exec
  have hb := B.bytes
  have hr := B.returns
  have hts := atoms_spec (ws := vs_m_meant) B.pre
  have hown : s.vm.findClass RX12 = some m.cls := findClass_of_methodNamed B.named
  have hlocks := B.notSynchronized
  subst hsz
  have hD := hD0.self (sz := s.heap.size)
  generalize hAe : va_A [zO mm 12 [vI th, vR m1, vI tp, vI sz_, vI ap, vI bad, vI bk, vI opn, vI fp, vR m9, vR m10, vR m11, vR m12, vR m13, vR m14, vR m15, vI im, vI nr, vI nl, vR m19, vR m20, vR m21, vI sp_, vR m23, vR m24, vR m25, vR m26, vR m27, vR m28, vI wtc, vI wcl, vI ir, vI ip, vR m33, vI shu, vR m35, vI sfa, vI swr], zI m1 (cy 0) 4 f1, zI m10 (cy 0) 68 f10, zI m12 (cy 0) 389 f12, zI m23 (cy 0) 2480 f23, zI m24 (cy 0) 2480 f24, zI m25 (cy 0) 20 f25, zI m26 (cy 0) 20 f26, zI m27 (cy 0) 620 f27, zI m28 (cy 0) 7 f28] s.heap.size = A at hD hT ⊢
  have hA : ∀ q : Nat, s.heap.size ≤ q → A q := fun q h => by rw [← hAe]; exact Or.inr h
  have hS : va_S A s.heap s.heap [] := va_S.rf
  have hl0 := lv_entry ([vR mm, vI n, vI x, vI y, vI p0, vI p1, vI p2, vI p3]) (n := 11) (Nat.le_of_ble_eq_true rfl)
  rw [lg_entry_eq]
  generalize (lg_sl ([vR mm, vI n, vI x, vI y, vI p0, vI p1, vI p2, vI p3]) ++ List.replicate (11 - (lg_sl ([vR mm, vI n, vI x, vI y, vI p0, vI p1, vI p2, vI p3])).length) Slot.unset).toArray = ls at hl0 ⊢
  have hlv : lv_has ls 11 [(0, vR mm), (1, vI n), (2, vI x), (3, vI y), (4, vI p0), (5, vI p1), (6, vI p2), (7, vI p3)] := hl0
  have lf1 := hts (.fieldLink RX12 1 "KerbSplashModel" "thrown" "I") (List.mem_of_getElem? (i := 1) rfl)
  have hi12 : ∀ w ∈ wsX120, w ∈ vs_m_meant := fun w h => List.mem_cons_of_mem _ (List.mem_append_right _ (List.mem_append_left _ h))
  have gg_1 : GoodIn vs_m_meant (wsV RX12 286 RX12 yX12_isCell vs_m_isCell) := goodIn_sub (fun w h => List.mem_cons_of_mem _ (List.mem_append_right _ (List.mem_append_right _ (List.mem_append_left _ h)))) (gd_V gd_m_isCell (by decide +kernel))
  have gg_2 : GoodIn vs_m_meant (wsV RX12 334 RX12 yX12_isLaw vs_m_isLaw) := goodIn_sub (fun w h => List.mem_cons_of_mem _ (List.mem_append_right _ (List.mem_append_right _ (List.mem_append_right _ (List.mem_append_left _ h))))) (gd_V gd_m_isLaw (by decide +kernel))
  have gg_3 : GoodIn vs_m_meant (wsV RX12 367 RX12 yX12_isCar vs_m_isCar) := goodIn_sub (fun w h => List.mem_cons_of_mem _ (List.mem_append_right _ (List.mem_append_right _ (List.mem_append_right _ (List.mem_append_right _ (List.mem_append_left _ h)))))) (gd_V gd_m_isCar (by decide +kernel))
  have gg_4 : GoodIn vs_m_meant (wsV RX12 175 RX12 yX12_may vs_m_may) := goodIn_sub (fun w h => List.mem_cons_of_mem _ (List.mem_append_right _ (List.mem_append_right _ (List.mem_append_right _ (List.mem_append_right _ (List.mem_append_right _ (List.mem_append_left _ h))))))) (gd_V gd_m_may (by decide +kernel))
  have gg_5 : GoodIn vs_m_meant (va_wsS RX12 279 yX12_within vs_m_within) := goodIn_sub (fun w h => List.mem_cons_of_mem _ (List.mem_append_right _ (List.mem_append_right _ (List.mem_append_right _ (List.mem_append_right _ (List.mem_append_right _ (List.mem_append_right _ (List.mem_append_left _ h)))))))) (gd_S gd_m_within (by decide +kernel))
  have gg_6 : GoodIn vs_m_meant (wsV RX12 371 RX12 yX12_isStreet vs_m_isStreet) := goodIn_sub (fun w h => List.mem_cons_of_mem _ (List.mem_append_right _ (List.mem_append_right _ (List.mem_append_right _ (List.mem_append_right _ (List.mem_append_right _ (List.mem_append_right _ (List.mem_append_right _ (List.mem_append_left _ h))))))))) (gd_V gd_m_isStreet (by decide +kernel))
  have gg_7 : GoodIn vs_m_meant (wsV RX12 360 RX12 yX12_drives vs_m_drives) := goodIn_sub (fun w h => List.mem_cons_of_mem _ (List.mem_append_right _ (List.mem_append_right _ (List.mem_append_right _ (List.mem_append_right _ (List.mem_append_right _ (List.mem_append_right _ (List.mem_append_right _ (List.mem_append_right _ (List.mem_append_left _ h)))))))))) (gd_V gd_m_drives (by decide +kernel))
  have lf344 := hts (.fieldLink RX12 344 "KerbSplashModel" "itsRow" "I") (List.mem_of_getElem? (i := 2) rfl)
  have lf353 := hts (.fieldLink RX12 353 "KerbSplashModel" "itsPace" "I") (List.mem_of_getElem? (i := 3) rfl)
  have lf29 := hts (.fieldLink RX12 29 "KerbSplashModel" "s" "[I") (List.mem_of_getElem? (i := 4) rfl)
  refine lv_aload_n hx hb dX12_meant_0 rfl (lv_at hlv 0 rfl) ?_
  refine lv_iconst (v := iI 0) hx hb dX12_meant_1 (by decide) ?_
  refine va_put (D := D) (ci := 12) (v := vI 0) (ty := .int) (C := RX12) (T := TX12) (N := 38) hx hb hts hi12 tyX12 tyX12_ok nmX12 hown hG.1 hP hD hS 0 rfl rfl 0 (by decide) lf1 (fun _ h9 => h9) rfl (by decide +kernel) rfl rfl (Nat.le_of_ble_eq_true rfl) dX12_meant_2 (fun H locs hP hD hS => ?_)
  obtain ⟨hP, hD⟩ := pw9 [zO mm 12 [vI 0, vR m1, vI tp, vI sz_, vI ap, vI bad, vI bk, vI opn, vI fp, vR m9, vR m10, vR m11, vR m12, vR m13, vR m14, vR m15, vI im, vI nr, vI nl, vR m19, vR m20, vR m21, vI sp_, vR m23, vR m24, vR m25, vR m26, vR m27, vR m28, vI wtc, vI wcl, vI ir, vI ip, vR m33, vI shu, vR m35, vI sfa, vI swr], zI m1 (cy 0) 4 f1, zI m10 (cy 0) 68 f10, zI m12 (cy 0) 389 f12, zI m23 (cy 0) 2480 f23, zI m24 (cy 0) 2480 f24, zI m25 (cy 0) 20 f25, zI m26 (cy 0) 20 f26, zI m27 (cy 0) 620 f27, zI m28 (cy 0) 7 f28] hP hD
  refine lv_aload_n hx hb dX12_meant_5 rfl (lv_at hlv 0 rfl) ?_
  refine lv_iload_n hx hb dX12_meant_6 rfl (lv_at hlv 2 rfl) ?_
  refine lv_iload_n hx hb dX12_meant_7 rfl (lv_at hlv 3 rfl) ?_
  refine lv_iconst (v := iI 1) hx hb dX12_meant_8 (by decide) ?_
  refine cjr_i [false, false, false, true, true, true, true, true, true, true] (fun pre9 => (va_runV (As := [vI x, vI y, vI 1]) (rest := []) ⟨hx, hb, hml, hown, hts⟩ (m_isCell l hl D cy sa mm m1 m9 m10 m11 m12 m13 m14 m15 m19 m20 m21 m23 m24 m25 m26 m27 m28 m33 m35 0 tp sz_ ap bad bk opn fp im nr nl sp_ wtc wcl ir ip shu sfa swr f1 f10 x y 1 H.size (by show ((-2147483648) : Int) ≤ 0 ∧ (0 : Int) ≤ 2147483647; decide) (by first | exact hr_tp | omega) (by first | exact hr_sz_ | omega) (by first | exact hr_ap | omega) (by first | exact hr_bad | omega) (by first | exact hr_bk | omega) (by first | exact hr_opn | omega) (by first | exact hr_fp | omega) (by first | exact hr_im | omega) (by first | exact hr_nr | omega) (by first | exact hr_nl | omega) (by first | exact hr_sp_ | omega) (by first | exact hr_wtc | omega) (by first | exact hr_wcl | omega) (by first | exact hr_ir | omega) (by first | exact hr_ip | omega) (by first | exact hr_shu | omega) (by first | exact hr_sfa | omega) (by first | exact hr_swr | omega) (by first | exact hr_x | omega) (by first | exact hr_y | omega) (by show (1 : Int) ≤ 1 ∧ (1 : Int) ≤ 4; decide) hf10) (cwV 3 hts gg_1 rfl rfl rfl (by decide +kernel) ⟨Nat.le_of_ble_eq_true rfl, Nat.le_of_ble_eq_true rfl⟩) ⟨pcW.blind, (va_recv hG.1 hP (ci := 12) (q0 := 0) rfl rfl), pre9⟩ rfl rfl hlv.1 rfl (lv_room (Nat.le_of_ble_eq_true rfl)) dX12_meant_9 ⟨Nat.le_of_ble_eq_true rfl, Nat.le_of_ble_eq_true rfl⟩)) hP hD hS hA hG hT [0, 1, 2] rfl (by decide +kernel) (fun r1 u1 H locs hw1 hq9 hS => ?_)
  obtain ⟨rfl, hq1_1, hq1_2, hq1_3, hq1_4⟩ := hw1
  obtain ⟨hP, hD⟩ := pd9 [zI m12 (cy 0) 389 f12, zI m23 (cy 0) 2480 f23, zI m24 (cy 0) 2480 f24, zI m25 (cy 0) 20 f25, zI m26 (cy 0) 20 f26, zI m27 (cy 0) 620 f27, zI m28 (cy 0) 7 f28, zO mm 12 [vI (u1.2.1 1), vR m1, vI tp, vI sz_, vI ap, vI bad, vI bk, vI opn, vI fp, vR m9, vR m10, vR m11, vR m12, vR m13, vR m14, vR m15, vI im, vI nr, vI nl, vR m19, vR m20, vR m21, vI sp_, vR m23, vR m24, vR m25, vR m26, vR m27, vR m28, vI wtc, vI wcl, vI ir, vI ip, vR m33, vI shu, vR m35, vI sfa, vI swr], zI m1 (cy 0) 4 (u1.2.2 0), zI m10 (cy 0) 68 f10] hq9
  refine iz_eq (tgt := 71) hx hb dX12_meant_12 (by decide) (by first | exact rgw hq1_2 (by decide) (by decide) | omega) (fun c_1 => ?_) (fun c_1 => ?_)
  · refine lv_iconst (v := iI 0) hx hb dX12_meant_71 (by decide) ?_
    refine W.widen (k := 0) (n := 0) (Nat.le_of_ble_eq_true rfl) (Nat.le_of_ble_eq_true rfl) ?_
    exact W.iret (v := iI 0) hx hb hr (fun t ht hW => ⟨⟨iI 0, ((fun k => ([] : List Nat).getD k 0), (fun k => ([0, (u1.2.1 1), ir, ip] : List Int).getD k 0), (fun k => ([(u1.2.2 0), f27, f28] : List (Nat → Int32)).getD k (fun _ => 0))), rfl, ⟨rfl, (by show ((-2147483648) ≤ (u1.2.1 1) ∧ (u1.2.1 1) ≤ 2147483647); first | exact hq1_1 | omega), (by show (0 ≤ ir ∧ ir ≤ 5); first | exact hr_ir | omega), (by show ((-2147483648) ≤ ip ∧ ip ≤ 2147483647); first | exact hr_ip | omega), (by show ((-2147483648) ≤ 0 ∧ 0 ≤ 2147483647); show ((-2147483648) : Int) ≤ 0 ∧ (0 : Int) ≤ 2147483647; decide), hq1_4, hf12⟩, at9 ht hP hD [7, 8, 9, 0, 1, 2, 3, 4, 5, 6] (by decide +kernel) rfl⟩, hS.F ht⟩) hS.2.2 dX12_meant_72
  · refine lv_aload_n hx hb dX12_meant_15 rfl (lv_at hlv 0 rfl) ?_
    refine lv_iload_n hx hb dX12_meant_16 rfl (lv_at hlv 1 rfl) ?_
    refine lv_iconst (v := iI 2) hx hb dX12_meant_17 (by decide) ?_
    refine cjr_i [true, true, true, true, true, true, true, false, false, true] (fun pre9 => (va_runV (As := [vI n, vI 2]) (rest := []) ⟨hx, hb, hml, hown, hts⟩ (m_isLaw l hl D cy sa mm m1 m9 m10 m11 m12 m13 m14 m15 m19 m20 m21 m23 m24 m25 m26 m27 m28 m33 m35 (u1.2.1 1) tp sz_ ap bad bk opn fp im nr nl sp_ wtc wcl ir ip shu sfa swr (u1.2.2 0) n 2 H.size (by first | exact hq1_1 | omega) (by first | exact hr_tp | omega) (by first | exact hr_sz_ | omega) (by first | exact hr_ap | omega) (by first | exact hr_bad | omega) (by first | exact hr_bk | omega) (by first | exact hr_opn | omega) (by first | exact hr_fp | omega) (by first | exact hr_im | omega) (by first | exact hr_nr | omega) (by first | exact hr_nl | omega) (by first | exact hr_sp_ | omega) (by first | exact hr_wtc | omega) (by first | exact hr_wcl | omega) (by first | exact hr_ir | omega) (by first | exact hr_ip | omega) (by first | exact hr_shu | omega) (by first | exact hr_sfa | omega) (by first | exact hr_swr | omega) (by first | exact hr_n | omega) (by show (1 : Int) ≤ 2 ∧ (2 : Int) ≤ 4; decide)) (cwV 2 hts gg_2 rfl rfl rfl (by decide +kernel) ⟨Nat.le_of_ble_eq_true rfl, Nat.le_of_ble_eq_true rfl⟩) ⟨pcW.blind, (va_recv hG.1 hP (ci := 12) (q0 := 7) rfl rfl), pre9⟩ rfl rfl hlv.1 rfl (lv_room (Nat.le_of_ble_eq_true rfl)) dX12_meant_18 ⟨Nat.le_of_ble_eq_true rfl, Nat.le_of_ble_eq_true rfl⟩)) hP hD hS hA hG hT [7, 8] rfl (by decide +kernel) (fun r2 u2 H locs hw2 hq9 hS => ?_)
    obtain ⟨rfl, hq2_1, hq2_2, hq2_3⟩ := hw2
    obtain ⟨hP, hD⟩ := pd9 [zI m12 (cy 0) 389 f12, zI m23 (cy 0) 2480 f23, zI m24 (cy 0) 2480 f24, zI m25 (cy 0) 20 f25, zI m26 (cy 0) 20 f26, zI m27 (cy 0) 620 f27, zI m28 (cy 0) 7 f28, zI m10 (cy 0) 68 f10, zO mm 12 [vI (u2.2.1 1), vR m1, vI tp, vI sz_, vI ap, vI bad, vI bk, vI opn, vI fp, vR m9, vR m10, vR m11, vR m12, vR m13, vR m14, vR m15, vI im, vI nr, vI nl, vR m19, vR m20, vR m21, vI sp_, vR m23, vR m24, vR m25, vR m26, vR m27, vR m28, vI wtc, vI wcl, vI ir, vI ip, vR m33, vI shu, vR m35, vI sfa, vI swr], zI m1 (cy 0) 4 (u2.2.2 0)] hq9
    refine iz_eq (tgt := 71) hx hb dX12_meant_21 (by decide) (by first | exact rgw hq2_2 (by decide) (by decide) | omega) (fun c_2 => ?_) (fun c_2 => ?_)
    · refine lv_iconst (v := iI 0) hx hb dX12_meant_71 (by decide) ?_
      refine W.widen (k := 0) (n := 0) (Nat.le_of_ble_eq_true rfl) (Nat.le_of_ble_eq_true rfl) ?_
      exact W.iret (v := iI 0) hx hb hr (fun t ht hW => ⟨⟨iI 0, ((fun k => ([] : List Nat).getD k 0), (fun k => ([0, (u2.2.1 1), ir, ip] : List Int).getD k 0), (fun k => ([(u2.2.2 0), f27, f28] : List (Nat → Int32)).getD k (fun _ => 0))), rfl, ⟨rfl, (by show ((-2147483648) ≤ (u2.2.1 1) ∧ (u2.2.1 1) ≤ 2147483647); first | exact hq2_1 | omega), (by show (0 ≤ ir ∧ ir ≤ 5); first | exact hr_ir | omega), (by show ((-2147483648) ≤ ip ∧ ip ≤ 2147483647); first | exact hr_ip | omega), (by show ((-2147483648) ≤ 0 ∧ 0 ≤ 2147483647); show ((-2147483648) : Int) ≤ 0 ∧ (0 : Int) ≤ 2147483647; decide), hq1_4, hf12⟩, at9 ht hP hD [8, 9, 7, 0, 1, 2, 3, 4, 5, 6] (by decide +kernel) rfl⟩, hS.F ht⟩) hS.2.2 dX12_meant_72
    · refine lv_aload_n hx hb dX12_meant_24 rfl (lv_at hlv 0 rfl) ?_
      refine lv_aload_n hx hb dX12_meant_25 rfl (lv_at hlv 0 rfl) ?_
      refine lv_iload hx hb dX12_meant_26 (lv_at hlv 5 rfl) ?_
      refine lv_iload hx hb dX12_meant_28 (lv_at hlv 6 rfl) ?_
      refine lv_iload hx hb dX12_meant_30 (lv_at hlv 7 rfl) ?_
      refine lv_iconst (v := iI 0) hx hb dX12_meant_32 (by decide) ?_
      refine cjr_i [true, true, true, true, true, true, true, false, false, true] (fun pre9 => (va_runV (As := [vI p1, vI p2, vI p3, vI 0]) (rest := [vR mm]) ⟨hx, hb, hml, hown, hts⟩ (m_isCar l hl D cy sa mm m1 m9 m10 m11 m12 m13 m14 m15 m19 m20 m21 m23 m24 m25 m26 m27 m28 m33 m35 (u2.2.1 1) tp sz_ ap bad bk opn fp im nr nl sp_ wtc wcl ir ip shu sfa swr f10 p1 p2 p3 0 H.size (by first | exact hq2_1 | omega) (by first | exact hr_tp | omega) (by first | exact hr_sz_ | omega) (by first | exact hr_ap | omega) (by first | exact hr_bad | omega) (by first | exact hr_bk | omega) (by first | exact hr_opn | omega) (by first | exact hr_fp | omega) (by first | exact hr_im | omega) (by first | exact hr_nr | omega) (by first | exact hr_nl | omega) (by first | exact hr_sp_ | omega) (by first | exact hr_wtc | omega) (by first | exact hr_wcl | omega) (by first | exact hr_ir | omega) (by first | exact hr_ip | omega) (by first | exact hr_shu | omega) (by first | exact hr_sfa | omega) (by first | exact hr_swr | omega) (by first | exact hr_p1 | omega) (by first | exact hr_p2 | omega) (by first | exact hr_p3 | omega) (by show ((-2147483648) : Int) ≤ 0 ∧ (0 : Int) ≤ 2147483647; decide) hq1_4) (cwV 4 hts gg_3 rfl rfl rfl (by decide +kernel) ⟨Nat.le_of_ble_eq_true rfl, Nat.le_of_ble_eq_true rfl⟩) ⟨pcW.blind, (va_recv hG.1 hP (ci := 12) (q0 := 8) rfl rfl), pre9⟩ rfl rfl hlv.1 rfl (lv_room (Nat.le_of_ble_eq_true rfl)) dX12_meant_33 ⟨Nat.le_of_ble_eq_true rfl, Nat.le_of_ble_eq_true rfl⟩)) hP hD hS hA hG hT [8, 7] rfl (by decide +kernel) (fun r3 u3 H locs hw3 hq9 hS => ?_)
      obtain ⟨rfl, hq3_1, hq3_2, hq3_3⟩ := hw3
      obtain ⟨hP, hD⟩ := pd9 [zI m12 (cy 0) 389 f12, zI m23 (cy 0) 2480 f23, zI m24 (cy 0) 2480 f24, zI m25 (cy 0) 20 f25, zI m26 (cy 0) 20 f26, zI m27 (cy 0) 620 f27, zI m28 (cy 0) 7 f28, zI m1 (cy 0) 4 (u2.2.2 0), zO mm 12 [vI (u2.2.1 1), vR m1, vI tp, vI sz_, vI ap, vI bad, vI bk, vI opn, vI fp, vR m9, vR m10, vR m11, vR m12, vR m13, vR m14, vR m15, vI im, vI nr, vI nl, vR m19, vR m20, vR m21, vI sp_, vR m23, vR m24, vR m25, vR m26, vR m27, vR m28, vI wtc, vI wcl, vI ir, vI ip, vR m33, vI shu, vR m35, vI sfa, vI swr], zI m10 (cy 0) 68 f10] hq9
      refine iz_eq (tgt := 54) hx hb dX12_meant_36 (by decide) (by first | exact rgw hq3_1 (by decide) (by decide) | omega) (fun c_3 => ?_) (fun c_3 => ?_)
      · refine lv_iconst (v := iI 0) hx hb dX12_meant_54 (by decide) ?_
        refine lv_iconst (v := iI 3) hx hb dX12_meant_55 (by decide) ?_
        refine lv_iconst (v := iI 2) hx hb dX12_meant_56 (by decide) ?_
        refine cjr_i [true, true, true, true, true, true, true, false, false, true] (fun pre9 => (va_runV (As := [vI 0, vI 3, vI 2]) (rest := []) ⟨hx, hb, hml, hown, hts⟩ (m_may l hl D cy sa mm m1 m9 m10 m11 m12 m13 m14 m15 m19 m20 m21 m23 m24 m25 m26 m27 m28 m33 m35 (u2.2.1 1) tp sz_ ap bad bk opn fp im nr nl sp_ wtc wcl ir ip shu sfa swr (u2.2.2 0) 0 3 2 H.size (by first | exact hq2_1 | omega) (by first | exact hr_tp | omega) (by first | exact hr_sz_ | omega) (by first | exact hr_ap | omega) (by first | exact hr_bad | omega) (by first | exact hr_bk | omega) (by first | exact hr_opn | omega) (by first | exact hr_fp | omega) (by first | exact hr_im | omega) (by first | exact hr_nr | omega) (by first | exact hr_nl | omega) (by first | exact hr_sp_ | omega) (by first | exact hr_wtc | omega) (by first | exact hr_wcl | omega) (by first | exact hr_ir | omega) (by first | exact hr_ip | omega) (by first | exact hr_shu | omega) (by first | exact hr_sfa | omega) (by first | exact hr_swr | omega) (by show (0 : Int) ≤ 0 ∧ (0 : Int) ≤ 1; decide) (by show (1 : Int) ≤ 3 ∧ (3 : Int) ≤ 4; decide) (by show (0 : Int) ≤ 2 ∧ (2 : Int) ≤ 3; decide)) (cwV 3 hts gg_4 rfl rfl rfl (by decide +kernel) ⟨Nat.le_of_ble_eq_true rfl, Nat.le_of_ble_eq_true rfl⟩) ⟨pcW.blind, (va_recv hG.1 hP (ci := 12) (q0 := 8) rfl rfl), pre9⟩ rfl rfl hlv.1 rfl (lv_room (Nat.le_of_ble_eq_true rfl)) dX12_meant_57 ⟨Nat.le_of_ble_eq_true rfl, Nat.le_of_ble_eq_true rfl⟩)) hP hD hS hA hG hT [8, 7] rfl (by decide +kernel) (fun r4 u4 H locs hw4 hq9 hS => ?_)
        obtain ⟨rfl, hq4_1, hq4_2, hq4_3, hq4_4⟩ := hw4
        obtain ⟨hP, hD⟩ := pd9 [zI m12 (cy 0) 389 f12, zI m23 (cy 0) 2480 f23, zI m24 (cy 0) 2480 f24, zI m25 (cy 0) 20 f25, zI m26 (cy 0) 20 f26, zI m27 (cy 0) 620 f27, zI m28 (cy 0) 7 f28, zI m10 (cy 0) 68 f10, zO mm 12 [vI (u4.2.1 1), vR m1, vI tp, vI sz_, vI ap, vI bad, vI bk, vI opn, vI fp, vR m9, vR m10, vR m11, vR m12, vR m13, vR m14, vR m15, vI im, vI nr, vI nl, vR m19, vR m20, vR m21, vI sp_, vR m23, vR m24, vR m25, vR m26, vR m27, vR m28, vI wtc, vI wcl, vI ir, vI ip, vR m33, vI shu, vR m35, vI sfa, vI swr], zI m1 (cy 0) 4 (u4.2.2 0)] hq9
        refine lt_i (y := iI 0) (by rw [show (u4.2.1 0) = 0 by omega]) ?_
        refine iz_eq (tgt := 71) hx hb dX12_meant_60 (by decide) (by show ((-2147483648) : Int) ≤ 0 ∧ (0 : Int) ≤ 2147483647; decide) (fun c_4 => ?_) (fun c_4 => by exfalso; omega)
        refine lv_iconst (v := iI 0) hx hb dX12_meant_71 (by decide) ?_
        refine W.widen (k := 0) (n := 0) (Nat.le_of_ble_eq_true rfl) (Nat.le_of_ble_eq_true rfl) ?_
        exact W.iret (v := iI 0) hx hb hr (fun t ht hW => ⟨⟨iI 0, ((fun k => ([] : List Nat).getD k 0), (fun k => ([0, (u4.2.1 1), ir, ip] : List Int).getD k 0), (fun k => ([(u4.2.2 0), f27, f28] : List (Nat → Int32)).getD k (fun _ => 0))), rfl, ⟨rfl, (by show ((-2147483648) ≤ (u4.2.1 1) ∧ (u4.2.1 1) ≤ 2147483647); first | exact hq4_1 | omega), (by show (0 ≤ ir ∧ ir ≤ 5); first | exact hr_ir | omega), (by show ((-2147483648) ≤ ip ∧ ip ≤ 2147483647); first | exact hr_ip | omega), (by show ((-2147483648) ≤ 0 ∧ 0 ≤ 2147483647); show ((-2147483648) : Int) ≤ 0 ∧ (0 : Int) ≤ 2147483647; decide), hq3_3, hf12⟩, at9 ht hP hD [8, 9, 7, 0, 1, 2, 3, 4, 5, 6] (by decide +kernel) rfl⟩, hS.F ht⟩) hS.2.2 dX12_meant_72
      · refine lv_iload hx hb dX12_meant_39 (lv_at hlv 4 rfl) ?_
        refine lv_iconst (v := iI 1) hx hb dX12_meant_41 (by decide) ?_
        refine lv_bipush (v := iI 60) hx hb dX12_meant_42 (by decide) ?_
        refine cjr_i [true, true, true, true, true, true, true, true, true, true] (fun pre9 => (va_runS (As := [vI p0, vI 1, vI 60]) (rest := [vR mm]) ⟨hx, hb, hml, hown, hts⟩ (m_within l hl D cy sa p0 1 60 H.size (by first | exact hr_p0 | omega) (by show ((-2147483648) : Int) ≤ 1 ∧ (1 : Int) ≤ 2147483647; decide) (by show ((-2147483648) : Int) ≤ 60 ∧ (60 : Int) ≤ 2147483647; decide)) (va_cwS 3 hts gg_5 rfl rfl rfl (by decide +kernel) ⟨Nat.le_of_ble_eq_true rfl, Nat.le_of_ble_eq_true rfl⟩) ⟨pcW.blind, pre9⟩ rfl rfl hlv.1 rfl (lv_room (Nat.le_of_ble_eq_true rfl)) dX12_meant_44 ⟨Nat.le_of_ble_eq_true rfl, Nat.le_of_ble_eq_true rfl⟩)) hP hD hS hA hG hT [] rfl (by decide +kernel) (fun r5 u5 H locs hw5 hq9 hS => ?_)
        obtain ⟨rfl, hq5_1, hq5_2, hq5_3⟩ := hw5
        obtain ⟨hP, hD⟩ := pd9 [zI m12 (cy 0) 389 f12, zI m23 (cy 0) 2480 f23, zI m24 (cy 0) 2480 f24, zI m25 (cy 0) 20 f25, zI m26 (cy 0) 20 f26, zI m27 (cy 0) 620 f27, zI m28 (cy 0) 7 f28, zI m1 (cy 0) 4 (u2.2.2 0), zO mm 12 [vI (u2.2.1 1), vR m1, vI tp, vI sz_, vI ap, vI bad, vI bk, vI opn, vI fp, vR m9, vR m10, vR m11, vR m12, vR m13, vR m14, vR m15, vI im, vI nr, vI nl, vR m19, vR m20, vR m21, vI sp_, vR m23, vR m24, vR m25, vR m26, vR m27, vR m28, vI wtc, vI wcl, vI ir, vI ip, vR m33, vI shu, vR m35, vI sfa, vI swr], zI m10 (cy 0) 68 f10] hq9
        refine iz_eq (tgt := 54) hx hb dX12_meant_47 (by decide) (by first | exact rgw hq5_1 (by decide) (by decide) | omega) (fun c_5 => ?_) (fun c_5 => ?_)
        · refine lv_iconst (v := iI 0) hx hb dX12_meant_54 (by decide) ?_
          refine lv_iconst (v := iI 3) hx hb dX12_meant_55 (by decide) ?_
          refine lv_iconst (v := iI 2) hx hb dX12_meant_56 (by decide) ?_
          refine cjr_i [true, true, true, true, true, true, true, false, false, true] (fun pre9 => (va_runV (As := [vI 0, vI 3, vI 2]) (rest := []) ⟨hx, hb, hml, hown, hts⟩ (m_may l hl D cy sa mm m1 m9 m10 m11 m12 m13 m14 m15 m19 m20 m21 m23 m24 m25 m26 m27 m28 m33 m35 (u2.2.1 1) tp sz_ ap bad bk opn fp im nr nl sp_ wtc wcl ir ip shu sfa swr (u2.2.2 0) 0 3 2 H.size (by first | exact hq2_1 | omega) (by first | exact hr_tp | omega) (by first | exact hr_sz_ | omega) (by first | exact hr_ap | omega) (by first | exact hr_bad | omega) (by first | exact hr_bk | omega) (by first | exact hr_opn | omega) (by first | exact hr_fp | omega) (by first | exact hr_im | omega) (by first | exact hr_nr | omega) (by first | exact hr_nl | omega) (by first | exact hr_sp_ | omega) (by first | exact hr_wtc | omega) (by first | exact hr_wcl | omega) (by first | exact hr_ir | omega) (by first | exact hr_ip | omega) (by first | exact hr_shu | omega) (by first | exact hr_sfa | omega) (by first | exact hr_swr | omega) (by show (0 : Int) ≤ 0 ∧ (0 : Int) ≤ 1; decide) (by show (1 : Int) ≤ 3 ∧ (3 : Int) ≤ 4; decide) (by show (0 : Int) ≤ 2 ∧ (2 : Int) ≤ 3; decide)) (cwV 3 hts gg_4 rfl rfl rfl (by decide +kernel) ⟨Nat.le_of_ble_eq_true rfl, Nat.le_of_ble_eq_true rfl⟩) ⟨pcW.blind, (va_recv hG.1 hP (ci := 12) (q0 := 8) rfl rfl), pre9⟩ rfl rfl hlv.1 rfl (lv_room (Nat.le_of_ble_eq_true rfl)) dX12_meant_57 ⟨Nat.le_of_ble_eq_true rfl, Nat.le_of_ble_eq_true rfl⟩)) hP hD hS hA hG hT [8, 7] rfl (by decide +kernel) (fun r6 u6 H locs hw6 hq9 hS => ?_)
          obtain ⟨rfl, hq6_1, hq6_2, hq6_3, hq6_4⟩ := hw6
          obtain ⟨hP, hD⟩ := pd9 [zI m12 (cy 0) 389 f12, zI m23 (cy 0) 2480 f23, zI m24 (cy 0) 2480 f24, zI m25 (cy 0) 20 f25, zI m26 (cy 0) 20 f26, zI m27 (cy 0) 620 f27, zI m28 (cy 0) 7 f28, zI m10 (cy 0) 68 f10, zO mm 12 [vI (u6.2.1 1), vR m1, vI tp, vI sz_, vI ap, vI bad, vI bk, vI opn, vI fp, vR m9, vR m10, vR m11, vR m12, vR m13, vR m14, vR m15, vI im, vI nr, vI nl, vR m19, vR m20, vR m21, vI sp_, vR m23, vR m24, vR m25, vR m26, vR m27, vR m28, vI wtc, vI wcl, vI ir, vI ip, vR m33, vI shu, vR m35, vI sfa, vI swr], zI m1 (cy 0) 4 (u6.2.2 0)] hq9
          refine lt_i (y := iI 0) (by rw [show (u6.2.1 0) = 0 by omega]) ?_
          refine iz_eq (tgt := 71) hx hb dX12_meant_60 (by decide) (by show ((-2147483648) : Int) ≤ 0 ∧ (0 : Int) ≤ 2147483647; decide) (fun c_6 => ?_) (fun c_6 => by exfalso; omega)
          refine lv_iconst (v := iI 0) hx hb dX12_meant_71 (by decide) ?_
          refine W.widen (k := 0) (n := 0) (Nat.le_of_ble_eq_true rfl) (Nat.le_of_ble_eq_true rfl) ?_
          exact W.iret (v := iI 0) hx hb hr (fun t ht hW => ⟨⟨iI 0, ((fun k => ([] : List Nat).getD k 0), (fun k => ([0, (u6.2.1 1), ir, ip] : List Int).getD k 0), (fun k => ([(u6.2.2 0), f27, f28] : List (Nat → Int32)).getD k (fun _ => 0))), rfl, ⟨rfl, (by show ((-2147483648) ≤ (u6.2.1 1) ∧ (u6.2.1 1) ≤ 2147483647); first | exact hq6_1 | omega), (by show (0 ≤ ir ∧ ir ≤ 5); first | exact hr_ir | omega), (by show ((-2147483648) ≤ ip ∧ ip ≤ 2147483647); first | exact hr_ip | omega), (by show ((-2147483648) ≤ 0 ∧ 0 ≤ 2147483647); show ((-2147483648) : Int) ≤ 0 ∧ (0 : Int) ≤ 2147483647; decide), hq3_3, hf12⟩, at9 ht hP hD [8, 9, 7, 0, 1, 2, 3, 4, 5, 6] (by decide +kernel) rfl⟩, hS.F ht⟩) hS.2.2 dX12_meant_72
        · refine lv_iconst (v := iI 1) hx hb dX12_meant_50 (by decide) ?_
          refine lv_goto (tgt := 55) hx hb dX12_meant_51 (by decide) ?_
          refine lv_iconst (v := iI 3) hx hb dX12_meant_55 (by decide) ?_
          refine lv_iconst (v := iI 2) hx hb dX12_meant_56 (by decide) ?_
          refine cjr_i [true, true, true, true, true, true, true, false, false, true] (fun pre9 => (va_runV (As := [vI 1, vI 3, vI 2]) (rest := []) ⟨hx, hb, hml, hown, hts⟩ (m_may l hl D cy sa mm m1 m9 m10 m11 m12 m13 m14 m15 m19 m20 m21 m23 m24 m25 m26 m27 m28 m33 m35 (u2.2.1 1) tp sz_ ap bad bk opn fp im nr nl sp_ wtc wcl ir ip shu sfa swr (u2.2.2 0) 1 3 2 H.size (by first | exact hq2_1 | omega) (by first | exact hr_tp | omega) (by first | exact hr_sz_ | omega) (by first | exact hr_ap | omega) (by first | exact hr_bad | omega) (by first | exact hr_bk | omega) (by first | exact hr_opn | omega) (by first | exact hr_fp | omega) (by first | exact hr_im | omega) (by first | exact hr_nr | omega) (by first | exact hr_nl | omega) (by first | exact hr_sp_ | omega) (by first | exact hr_wtc | omega) (by first | exact hr_wcl | omega) (by first | exact hr_ir | omega) (by first | exact hr_ip | omega) (by first | exact hr_shu | omega) (by first | exact hr_sfa | omega) (by first | exact hr_swr | omega) (by show (0 : Int) ≤ 1 ∧ (1 : Int) ≤ 1; decide) (by show (1 : Int) ≤ 3 ∧ (3 : Int) ≤ 4; decide) (by show (0 : Int) ≤ 2 ∧ (2 : Int) ≤ 3; decide)) (cwV 3 hts gg_4 rfl rfl rfl (by decide +kernel) ⟨Nat.le_of_ble_eq_true rfl, Nat.le_of_ble_eq_true rfl⟩) ⟨pcW.blind, (va_recv hG.1 hP (ci := 12) (q0 := 8) rfl rfl), pre9⟩ rfl rfl hlv.1 rfl (lv_room (Nat.le_of_ble_eq_true rfl)) dX12_meant_57 ⟨Nat.le_of_ble_eq_true rfl, Nat.le_of_ble_eq_true rfl⟩)) hP hD hS hA hG hT [8, 7] rfl (by decide +kernel) (fun r7 u7 H locs hw7 hq9 hS => ?_)
          obtain ⟨rfl, hq7_1, hq7_2, hq7_3, hq7_4⟩ := hw7
          obtain ⟨hP, hD⟩ := pd9 [zI m12 (cy 0) 389 f12, zI m23 (cy 0) 2480 f23, zI m24 (cy 0) 2480 f24, zI m25 (cy 0) 20 f25, zI m26 (cy 0) 20 f26, zI m27 (cy 0) 620 f27, zI m28 (cy 0) 7 f28, zI m10 (cy 0) 68 f10, zO mm 12 [vI (u7.2.1 1), vR m1, vI tp, vI sz_, vI ap, vI bad, vI bk, vI opn, vI fp, vR m9, vR m10, vR m11, vR m12, vR m13, vR m14, vR m15, vI im, vI nr, vI nl, vR m19, vR m20, vR m21, vI sp_, vR m23, vR m24, vR m25, vR m26, vR m27, vR m28, vI wtc, vI wcl, vI ir, vI ip, vR m33, vI shu, vR m35, vI sfa, vI swr], zI m1 (cy 0) 4 (u7.2.2 0)] hq9
          refine iz_eq (tgt := 71) hx hb dX12_meant_60 (by decide) (by first | exact rgw hq7_2 (by decide) (by decide) | omega) (fun c_7 => ?_) (fun c_7 => ?_)
          · refine lv_iconst (v := iI 0) hx hb dX12_meant_71 (by decide) ?_
            refine W.widen (k := 0) (n := 0) (Nat.le_of_ble_eq_true rfl) (Nat.le_of_ble_eq_true rfl) ?_
            exact W.iret (v := iI 0) hx hb hr (fun t ht hW => ⟨⟨iI 0, ((fun k => ([] : List Nat).getD k 0), (fun k => ([0, (u7.2.1 1), ir, ip] : List Int).getD k 0), (fun k => ([(u7.2.2 0), f27, f28] : List (Nat → Int32)).getD k (fun _ => 0))), rfl, ⟨rfl, (by show ((-2147483648) ≤ (u7.2.1 1) ∧ (u7.2.1 1) ≤ 2147483647); first | exact hq7_1 | omega), (by show (0 ≤ ir ∧ ir ≤ 5); first | exact hr_ir | omega), (by show ((-2147483648) ≤ ip ∧ ip ≤ 2147483647); first | exact hr_ip | omega), (by show ((-2147483648) ≤ 0 ∧ 0 ≤ 2147483647); show ((-2147483648) : Int) ≤ 0 ∧ (0 : Int) ≤ 2147483647; decide), hq3_3, hf12⟩, at9 ht hP hD [8, 9, 7, 0, 1, 2, 3, 4, 5, 6] (by decide +kernel) rfl⟩, hS.F ht⟩) hS.2.2 dX12_meant_72
          · refine lv_aload_n hx hb dX12_meant_63 rfl (lv_at hlv 0 rfl) ?_
            refine lv_iconst (v := iI 4) hx hb dX12_meant_64 (by decide) ?_
            refine cjr_i [true, true, true, true, true, true, true, false, false, false] (fun pre9 => (va_runV (As := [vI 4]) (rest := []) ⟨hx, hb, hml, hown, hts⟩ (m_isStreet l hl D cy sa mm m1 m9 m10 m11 m12 m13 m14 m15 m19 m20 m21 m23 m24 m25 m26 m27 m28 m33 m35 (u7.2.1 1) tp sz_ ap bad bk opn fp im nr nl sp_ wtc wcl ir ip shu sfa swr (u7.2.2 0) f10 4 H.size (by first | exact hq7_1 | omega) (by first | exact hr_tp | omega) (by first | exact hr_sz_ | omega) (by first | exact hr_ap | omega) (by first | exact hr_bad | omega) (by first | exact hr_bk | omega) (by first | exact hr_opn | omega) (by first | exact hr_fp | omega) (by first | exact hr_im | omega) (by first | exact hr_nr | omega) (by first | exact hr_nl | omega) (by first | exact hr_sp_ | omega) (by first | exact hr_wtc | omega) (by first | exact hr_wcl | omega) (by first | exact hr_ir | omega) (by first | exact hr_ip | omega) (by first | exact hr_shu | omega) (by first | exact hr_sfa | omega) (by first | exact hr_swr | omega) (by show (1 : Int) ≤ 4 ∧ (4 : Int) ≤ 4; decide) hq3_3) (cwV 1 hts gg_6 rfl rfl rfl (by decide +kernel) ⟨Nat.le_of_ble_eq_true rfl, Nat.le_of_ble_eq_true rfl⟩) ⟨pcW.blind, (va_recv hG.1 hP (ci := 12) (q0 := 8) rfl rfl), pre9⟩ rfl rfl hlv.1 rfl (lv_room (Nat.le_of_ble_eq_true rfl)) dX12_meant_65 ⟨Nat.le_of_ble_eq_true rfl, Nat.le_of_ble_eq_true rfl⟩)) hP hD hS hA hG hT [8, 9, 7] rfl (by decide +kernel) (fun r8 u8 H locs hw8 hq9 hS => ?_)
            obtain ⟨rfl, hq8_1, hq8_2, hq8_3, hq8_4⟩ := hw8
            obtain ⟨hP, hD⟩ := pd9 [zI m12 (cy 0) 389 f12, zI m23 (cy 0) 2480 f23, zI m24 (cy 0) 2480 f24, zI m25 (cy 0) 20 f25, zI m26 (cy 0) 20 f26, zI m27 (cy 0) 620 f27, zI m28 (cy 0) 7 f28, zO mm 12 [vI (u8.2.1 1), vR m1, vI tp, vI sz_, vI ap, vI bad, vI bk, vI opn, vI fp, vR m9, vR m10, vR m11, vR m12, vR m13, vR m14, vR m15, vI im, vI nr, vI nl, vR m19, vR m20, vR m21, vI sp_, vR m23, vR m24, vR m25, vR m26, vR m27, vR m28, vI wtc, vI wcl, vI ir, vI ip, vR m33, vI shu, vR m35, vI sfa, vI swr], zI m1 (cy 0) 4 (u8.2.2 0), zI m10 (cy 0) 68 f10] hq9
            refine iz_ne (tgt := 73) hx hb dX12_meant_68 (by decide) (by first | exact rgw hq8_2 (by decide) (by decide) | omega) (fun c_8 => ?_) (fun c_8 => ?_)
            · refine lv_iconst (v := iI 0) hx hb dX12_meant_73 (by decide) ?_
              refine lv_istore (lv' := [(8, vI 0), (0, vR mm), (1, vI n), (2, vI x), (3, vI y), (4, vI p0), (5, vI p1), (6, vI p2), (7, vI p3)]) hx hb dX12_meant_74 hlv (by decide) rfl (fun ls hlv => ?_)
              refine lv_iconst (v := iI 0) hx hb dX12_meant_76 (by decide) ?_
              refine lv_istore (lv' := [(9, vI 0), (8, vI 0), (0, vR mm), (1, vI n), (2, vI x), (3, vI y), (4, vI p0), (5, vI p1), (6, vI p2), (7, vI p3)]) hx hb dX12_meant_77 hlv (by decide) rfl (fun ls hlv => ?_)
              refine lv_iconst (v := iI 0) hx hb dX12_meant_79 (by decide) ?_
              refine lv_istore (lv' := [(10, vI 0), (9, vI 0), (8, vI 0), (0, vR mm), (1, vI n), (2, vI x), (3, vI y), (4, vI p0), (5, vI p1), (6, vI p2), (7, vI p3)]) hx hb dX12_meant_80 hlv (by decide) rfl (fun ls hlv => ?_)
              refine (?_ : ∀ (fu : Nat) (q8 : Int) (q9_ : Int) (q10 : Int) (qi : Int) (qp : Int) (kg : Nat → Int32) (ng : Nat → Int32) (H : Heap) (locs : List Loc) (ls : Array Slot), 4 - q10 < (fu : Int) → ((-2147483648) ≤ q8 ∧ q8 ≤ 2147483647) → ((-2147483648) ≤ q9_ ∧ q9_ ≤ 2147483647) → (0 ≤ q10 ∧ q10 ≤ 4) → (0 ≤ qi ∧ qi ≤ 5) → ((-2147483648) ≤ qp ∧ qp ≤ 2147483647) → va_P D vwCl [zI m12 (cy 0) 389 f12, zI m23 (cy 0) 2480 f23, zI m24 (cy 0) 2480 f24, zI m25 (cy 0) 20 f25, zI m26 (cy 0) 20 f26, zI m27 (cy 0) 620 kg, zI m28 (cy 0) 7 ng, zO mm 12 [vI (u8.2.1 1), vR m1, vI tp, vI sz_, vI ap, vI bad, vI bk, vI opn, vI fp, vR m9, vR m10, vR m11, vR m12, vR m13, vR m14, vR m15, vI im, vI nr, vI nl, vR m19, vR m20, vR m21, vI sp_, vR m23, vR m24, vR m25, vR m26, vR m27, vR m28, vI wtc, vI wcl, vI qi, vI qp, vR m33, vI shu, vR m35, vI sfa, vI swr], zI m1 (cy 0) 4 (u8.2.2 0), zI m10 (cy 0) 68 f10] H → va_D A [zI m12 (cy 0) 389 f12, zI m23 (cy 0) 2480 f23, zI m24 (cy 0) 2480 f24, zI m25 (cy 0) 20 f25, zI m26 (cy 0) 20 f26, zI m27 (cy 0) 620 kg, zI m28 (cy 0) 7 ng, zO mm 12 [vI (u8.2.1 1), vR m1, vI tp, vI sz_, vI ap, vI bad, vI bk, vI opn, vI fp, vR m9, vR m10, vR m11, vR m12, vR m13, vR m14, vR m15, vI im, vI nr, vI nl, vR m19, vR m20, vR m21, vI sp_, vR m23, vR m24, vR m25, vR m26, vR m27, vR m28, vI wtc, vI wcl, vI qi, vI qp, vR m33, vI shu, vR m35, vI sfa, vI swr], zI m1 (cy 0) 4 (u8.2.2 0), zI m10 (cy 0) 68 f10] → va_S A s.heap H locs → lv_has ls 11 [(10, vI q10), (9, vI q9_), (8, vI q8), (0, vR mm), (1, vI n), (2, vI x), (3, vI y), (4, vI p0), (5, vI p1), (6, vI p2), (7, vI p3)] → W p l e _ s m _ below meth c H locs _ _ _ (F0 m 82 ls [])) (((4 - 0) + 1 : Int)).toNat 0 0 0 ir ip f27 f28 _ _ _ (by omega) (by show ((-2147483648) : Int) ≤ 0 ∧ (0 : Int) ≤ 2147483647; decide) (by show ((-2147483648) : Int) ≤ 0 ∧ (0 : Int) ≤ 2147483647; decide) (by show (0 : Int) ≤ 0 ∧ (0 : Int) ≤ 4; decide) (by first | exact hr_ir | omega) (by first | exact hr_ip | omega)  hP hD hS hlv
              clear hP hD hS hlv
              intro fu
              induction fu with
              | zero => intro q8 q9_ q10 qi qp kg ng H locs ls hm82 hl82_0 hl82_1 hl82_2 hl82_3 hl82_4  hP hD hS hlv; omega
              | succ fu ih82 =>
                intro q8 q9_ q10 qi qp kg ng H locs ls hm82 hl82_0 hl82_1 hl82_2 hl82_3 hl82_4  hP hD hS hlv
                refine lv_iload hx hb dX12_meant_82 (lv_at hlv 0 rfl) ?_
                refine lv_iconst (v := iI 4) hx hb dX12_meant_84 (by decide) ?_
                refine ir_ge (tgt := 170) hx hb dX12_meant_85 (by decide) (by first | exact rgw hl82_2 (by decide) (by decide) | omega) (by show ((-2147483648) : Int) ≤ 4 ∧ (4 : Int) ≤ 2147483647; decide) (fun c_9 => ?_) (fun c_9 => ?_)
                · refine lv_iload hx hb dX12_meant_170 (lv_at hlv 2 rfl) ?_
                  refine iz_ne (tgt := 179) hx hb dX12_meant_172 (by decide) (by first | exact hl82_0 | omega) (fun c_10 => ?_) (fun c_10 => ?_)
                  · refine lv_sipush (v := iI 1000) hx hb dX12_meant_179 (by decide) ?_
                    refine lv_iload hx hb dX12_meant_182 (lv_at hlv 1 rfl) ?_
                    refine lv_imul hx hb dX12_meant_184 ?_
                    refine lt_z (fun z_11 ez_11 lz_11 hz_11 => ?_)
                    refine lv_iload hx hb dX12_meant_185 (lv_at hlv 2 rfl) ?_
                    refine lv_idiv hx hb dX12_meant_187 (fun q => absurd ((iI_eq (a := q8) (b := 0) (by omega) (by omega)).mp q) (by omega)) ?_
                    refine lt_z (fun z_12 ez_12 lz_12 hz_12 => ?_)
                    refine W.widen (k := 0) (n := 0) (Nat.le_of_ble_eq_true rfl) (Nat.le_of_ble_eq_true rfl) ?_
                    exact W.iret (v := iI z_12) hx hb hr (fun t ht hW => ⟨⟨iI z_12, ((fun k => ([] : List Nat).getD k 0), (fun k => ([z_12, (u8.2.1 1), qi, qp] : List Int).getD k 0), (fun k => ([(u8.2.2 0), kg, ng] : List (Nat → Int32)).getD k (fun _ => 0))), rfl, ⟨rfl, (by show ((-2147483648) ≤ (u8.2.1 1) ∧ (u8.2.1 1) ≤ 2147483647); first | exact hq8_1 | omega), (by show (0 ≤ qi ∧ qi ≤ 5); first | exact hl82_3 | omega), (by show ((-2147483648) ≤ qp ∧ qp ≤ 2147483647); first | exact hl82_4 | omega), (by show ((-2147483648) ≤ z_12 ∧ z_12 ≤ 2147483647); omega), hq8_4, hf12⟩, at9 ht hP hD [7, 8, 9, 0, 1, 2, 3, 4, 5, 6] (by decide +kernel) rfl⟩, hS.F ht⟩) hS.2.2 dX12_meant_188
                  · refine lv_iconst (v := iI 0) hx hb dX12_meant_175 (by decide) ?_
                    refine lv_goto (tgt := 188) hx hb dX12_meant_176 (by decide) ?_
                    refine W.widen (k := 0) (n := 0) (Nat.le_of_ble_eq_true rfl) (Nat.le_of_ble_eq_true rfl) ?_
                    exact W.iret (v := iI 0) hx hb hr (fun t ht hW => ⟨⟨iI 0, ((fun k => ([] : List Nat).getD k 0), (fun k => ([0, (u8.2.1 1), qi, qp] : List Int).getD k 0), (fun k => ([(u8.2.2 0), kg, ng] : List (Nat → Int32)).getD k (fun _ => 0))), rfl, ⟨rfl, (by show ((-2147483648) ≤ (u8.2.1 1) ∧ (u8.2.1 1) ≤ 2147483647); first | exact hq8_1 | omega), (by show (0 ≤ qi ∧ qi ≤ 5); first | exact hl82_3 | omega), (by show ((-2147483648) ≤ qp ∧ qp ≤ 2147483647); first | exact hl82_4 | omega), (by show ((-2147483648) ≤ 0 ∧ 0 ≤ 2147483647); show ((-2147483648) : Int) ≤ 0 ∧ (0 : Int) ≤ 2147483647; decide), hq8_4, hf12⟩, at9 ht hP hD [7, 8, 9, 0, 1, 2, 3, 4, 5, 6] (by decide +kernel) rfl⟩, hS.F ht⟩) hS.2.2 dX12_meant_188
                · refine lv_aload_n hx hb dX12_meant_88 rfl (lv_at hlv 3 rfl) ?_
                  refine lv_iload_n hx hb dX12_meant_89 rfl (lv_at hlv 4 rfl) ?_
                  refine lv_iload_n hx hb dX12_meant_90 rfl (lv_at hlv 5 rfl) ?_
                  refine lv_iload hx hb dX12_meant_91 (lv_at hlv 8 rfl) ?_
                  refine lv_iload hx hb dX12_meant_93 (lv_at hlv 9 rfl) ?_
                  refine lv_iload hx hb dX12_meant_95 (lv_at hlv 10 rfl) ?_
                  refine lv_iload hx hb dX12_meant_97 (lv_at hlv 0 rfl) ?_
                  refine cjr_v [false, false, false, false, false, false, false, false, true, false] (fun pre9 => (va_runV (As := [vI n, vI x, vI p1, vI p2, vI p3, vI q10]) (rest := []) ⟨hx, hb, hml, hown, hts⟩ (m_drives l hl D cy sa mm m1 m9 m10 m11 m12 m13 m14 m15 m19 m20 m21 m23 m24 m25 m26 m27 m28 m33 m35 (u8.2.1 1) tp sz_ ap bad bk opn fp im nr nl sp_ wtc wcl qi qp shu sfa swr f10 f12 f23 f24 f25 f26 kg ng n x p1 p2 p3 q10 8 H.size (by first | exact hq8_1 | omega) (by first | exact hr_tp | omega) (by first | exact hr_sz_ | omega) (by first | exact hr_ap | omega) (by first | exact hr_bad | omega) (by first | exact hr_bk | omega) (by first | exact hr_opn | omega) (by first | exact hr_fp | omega) (by first | exact hr_im | omega) (by first | exact hr_nr | omega) (by first | exact hr_nl | omega) (by first | exact hr_sp_ | omega) (by first | exact hr_wtc | omega) (by first | exact hr_wcl | omega) (by first | exact hl82_3 | omega) (by first | exact hl82_4 | omega) (by first | exact hr_shu | omega) (by first | exact hr_sfa | omega) (by first | exact hr_swr | omega) (by omega) (by omega) (by omega) (by first | exact hr_p2 | omega) (by first | exact hr_p3 | omega) (by first | exact rgw hl82_2 (by decide) (by decide) | omega) (by show (8 : Int) ≤ 8 ∧ (8 : Int) ≤ 9; decide) (by omega) (by omega) hn_li hq8_4 hf12) (cwV 6 hts gg_7 rfl rfl rfl (by decide +kernel) ⟨Nat.le_of_ble_eq_true rfl, Nat.le_of_ble_eq_true rfl⟩) ⟨pcW.blind, (va_recv hG.1 hP (ci := 12) (q0 := 7) rfl rfl), pre9⟩ rfl rfl hlv.1 rfl (lv_room (Nat.le_of_ble_eq_true rfl)) dX12_meant_99 ⟨Nat.le_of_ble_eq_true rfl, Nat.le_of_ble_eq_true rfl⟩)) hP hD hS hA hG hT [7, 9, 0, 1, 2, 3, 4, 5, 6] rfl (by decide +kernel) (fun u9 H locs hw9 hq9 hS => ?_)
                  obtain ⟨hq9_0, hq9_1, hq9_2, hq9_3⟩ := hw9
                  obtain ⟨hP, hD⟩ := pd9 [zI m1 (cy 0) 4 (u8.2.2 0), zO mm 12 [vI (u8.2.1 1), vR m1, vI tp, vI sz_, vI ap, vI bad, vI bk, vI opn, vI fp, vR m9, vR m10, vR m11, vR m12, vR m13, vR m14, vR m15, vI im, vI nr, vI nl, vR m19, vR m20, vR m21, vI sp_, vR m23, vR m24, vR m25, vR m26, vR m27, vR m28, vI wtc, vI wcl, vI (u9.2.1 0), vI (u9.2.1 1), vR m33, vI shu, vR m35, vI sfa, vI swr], zI m10 (cy 0) 68 f10, zI m12 (cy 0) 389 f12, zI m23 (cy 0) 2480 f23, zI m24 (cy 0) 2480 f24, zI m25 (cy 0) 20 f25, zI m26 (cy 0) 20 f26, zI m27 (cy 0) 620 (u9.2.2 0), zI m28 (cy 0) 7 (u9.2.2 1)] hq9
                  refine lv_aload_n hx hb dX12_meant_102 rfl (lv_at hlv 3 rfl) ?_
                  refine va_get (D := D) (ci := 12) (v := vI (u9.2.1 0)) (C := RX12) (T := TX12) (N := 38) hx hb hts hi12 hown hG.1 hP 1 rfl rfl 31 (by decide) lf344 (fun _ h9 => h9) rfl dX12_meant_103 ?_
                  refine lv_iload_n hx hb dX12_meant_106 rfl (lv_at hlv 6 rfl) ?_
                  refine ir_ne (tgt := 164) hx hb dX12_meant_107 (by decide) (by first | exact rgw hq9_0 (by decide) (by decide) | omega) (by first | exact hr_y | omega) (fun c_13 => ?_) (fun c_13 => ?_)
                  · obtain ⟨z_14, hz_14⟩ : ∃ z : Int, z = q10 + 1 := ⟨_, rfl⟩
                    refine lv_iinc (v := iI z_14) (lv' := [(10, vI z_14), (9, vI q9_), (8, vI q8), (0, vR mm), (1, vI n), (2, vI x), (3, vI y), (4, vI p0), (5, vI p1), (6, vI p2), (7, vI p3)]) hx hb dX12_meant_164 hlv (k := 0) rfl (by rw [hz_14]; exact (Int32.ofInt_add _ _).symm) (by decide) rfl (fun ls hlv => ?_)
                    refine lv_goto (tgt := 82) hx hb dX12_meant_167 (by decide) ?_
                    exact ih82 q8 q9_ z_14 (u9.2.1 0) (u9.2.1 1) (u9.2.2 0) (u9.2.2 1) H locs ls (by omega) (by first | exact hl82_0 | omega) (by first | exact hl82_1 | omega) (by omega) (by first | exact hq9_0 | omega) (by first | exact hq9_1 | omega)  (hP.sub [3, 4, 5, 6, 7, 8, 9, 1, 0, 2] rfl) (hD.sub [3, 4, 5, 6, 7, 8, 9, 1, 0, 2] (by decide) rfl) hS (lv_sub hlv [0, 1, 2, 3, 4, 5, 6, 7, 8, 9, 10] rfl)
                  · refine lv_aload_n hx hb dX12_meant_110 rfl (lv_at hlv 3 rfl) ?_
                    refine va_get (D := D) (ci := 12) (v := vI (u9.2.1 1)) (C := RX12) (T := TX12) (N := 38) hx hb hts hi12 hown hG.1 hP 1 rfl rfl 32 (by decide) lf353 (fun _ h9 => h9) rfl dX12_meant_111 ?_
                    refine lv_iload hx hb dX12_meant_114 (lv_at hlv 7 rfl) ?_
                    refine ir_eq (tgt := 122) hx hb dX12_meant_116 (by decide) (by first | exact hq9_1 | omega) (by first | exact hr_p0 | omega) (fun c_15 => ?_) (fun c_15 => ?_)
                    · refine lv_iload hx hb dX12_meant_122 (lv_at hlv 2 rfl) ?_
                      refine lv_aload_n hx hb dX12_meant_124 rfl (lv_at hlv 3 rfl) ?_
                      refine va_get (D := D) (ci := 12) (v := vR m12) (C := RX12) (T := TX12) (N := 38) hx hb hts hi12 hown hG.1 hP 1 rfl rfl 12 (by decide) lf29 (fun _ h9 => h9) rfl dX12_meant_125 ?_
                      refine lv_sipush (v := iI 353) hx hb dX12_meant_128 (by decide) ?_
                      refine lv_iload hx hb dX12_meant_131 (lv_at hlv 0 rfl) ?_
                      refine lv_iadd hx hb dX12_meant_133 ?_
                      refine lt_e (e0 := 353 + q10) (Int32.ofInt_add _ _).symm (fun z_16 hz_16 => ?_)
                      refine va_iald hx hb hG.1 hP 3 0 rfl rfl (iI_in (by omega) (by decide)) dX12_meant_134 ?_
                      refine lt_nz (i := z_16) (by omega) (fun z_17 hz_17 lz_17 uz_17 => ?_)
                      refine lv_iadd hx hb dX12_meant_135 ?_
                      refine lt_z (fun z_18 ez_18 lz_18 hz_18 => ?_)
                      refine lv_istore (lv' := [(8, vI z_18), (10, vI q10), (9, vI q9_), (0, vR mm), (1, vI n), (2, vI x), (3, vI y), (4, vI p0), (5, vI p1), (6, vI p2), (7, vI p3)]) hx hb dX12_meant_136 hlv (by decide) rfl (fun ls hlv => ?_)
                      refine lv_iload hx hb dX12_meant_138 (lv_at hlv 2 rfl) ?_
                      refine lv_iload hx hb dX12_meant_140 (lv_at hlv 1 rfl) ?_
                      refine lv_iconst (v := iI 3) hx hb dX12_meant_142 (by decide) ?_
                      refine ir_ne (tgt := 160) hx hb dX12_meant_143 (by decide) (by first | exact rgw hl82_2 (by decide) (by decide) | omega) (by show ((-2147483648) : Int) ≤ 3 ∧ (3 : Int) ≤ 2147483647; decide) (fun c_19 => ?_) (fun c_19 => ?_)
                      · refine lv_iconst (v := iI 0) hx hb dX12_meant_160 (by decide) ?_
                        refine lv_iadd hx hb dX12_meant_161 ?_
                        refine lt_i (y := iI q9_) (by rw [show iI q9_ + iI 0 = iI (q9_ + 0) from (Int32.ofInt_add _ _).symm, Int.add_zero]) ?_
                        refine lv_istore (lv' := [(9, vI q9_), (8, vI z_18), (10, vI q10), (0, vR mm), (1, vI n), (2, vI x), (3, vI y), (4, vI p0), (5, vI p1), (6, vI p2), (7, vI p3)]) hx hb dX12_meant_162 hlv (by decide) rfl (fun ls hlv => ?_)
                        obtain ⟨z_20, hz_20⟩ : ∃ z : Int, z = q10 + 1 := ⟨_, rfl⟩
                        refine lv_iinc (v := iI z_20) (lv' := [(10, vI z_20), (9, vI q9_), (8, vI z_18), (0, vR mm), (1, vI n), (2, vI x), (3, vI y), (4, vI p0), (5, vI p1), (6, vI p2), (7, vI p3)]) hx hb dX12_meant_164 hlv (k := 2) rfl (by rw [hz_20]; exact (Int32.ofInt_add _ _).symm) (by decide) rfl (fun ls hlv => ?_)
                        refine lv_goto (tgt := 82) hx hb dX12_meant_167 (by decide) ?_
                        exact ih82 z_18 q9_ z_20 (u9.2.1 0) (u9.2.1 1) (u9.2.2 0) (u9.2.2 1) H locs ls (by omega) (by omega) (by first | exact hl82_1 | omega) (by omega) (by first | exact hq9_0 | omega) (by first | exact hq9_1 | omega)  (hP.sub [3, 4, 5, 6, 7, 8, 9, 1, 0, 2] rfl) (hD.sub [3, 4, 5, 6, 7, 8, 9, 1, 0, 2] (by decide) rfl) hS (lv_sub hlv [0, 1, 2, 3, 4, 5, 6, 7, 8, 9, 10] rfl)
                      · refine lv_aload_n hx hb dX12_meant_146 rfl (lv_at hlv 3 rfl) ?_
                        refine va_get (D := D) (ci := 12) (v := vR m12) (C := RX12) (T := TX12) (N := 38) hx hb hts hi12 hown hG.1 hP 1 rfl rfl 12 (by decide) lf29 (fun _ h9 => h9) rfl dX12_meant_147 ?_
                        refine lv_sipush (v := iI 353) hx hb dX12_meant_150 (by decide) ?_
                        refine lv_iload hx hb dX12_meant_153 (lv_at hlv 1 rfl) ?_
                        refine lv_iadd hx hb dX12_meant_155 ?_
                        refine lt_e (e0 := 353 + q10) (Int32.ofInt_add _ _).symm (fun z_21 hz_21 => ?_)
                        refine va_iald hx hb hG.1 hP 3 0 rfl rfl (iI_in (by omega) (by decide)) dX12_meant_156 ?_
                        refine lt_nz (i := z_21) (by omega) (fun z_22 hz_22 lz_22 uz_22 => ?_)
                        refine lv_goto (tgt := 161) hx hb dX12_meant_157 (by decide) ?_
                        refine lv_iadd hx hb dX12_meant_161 ?_
                        refine lt_z (fun z_23 ez_23 lz_23 hz_23 => ?_)
                        refine lv_istore (lv' := [(9, vI z_23), (8, vI z_18), (10, vI q10), (0, vR mm), (1, vI n), (2, vI x), (3, vI y), (4, vI p0), (5, vI p1), (6, vI p2), (7, vI p3)]) hx hb dX12_meant_162 hlv (by decide) rfl (fun ls hlv => ?_)
                        obtain ⟨z_24, hz_24⟩ : ∃ z : Int, z = q10 + 1 := ⟨_, rfl⟩
                        refine lv_iinc (v := iI z_24) (lv' := [(10, vI z_24), (9, vI z_23), (8, vI z_18), (0, vR mm), (1, vI n), (2, vI x), (3, vI y), (4, vI p0), (5, vI p1), (6, vI p2), (7, vI p3)]) hx hb dX12_meant_164 hlv (k := 2) rfl (by rw [hz_24]; exact (Int32.ofInt_add _ _).symm) (by decide) rfl (fun ls hlv => ?_)
                        refine lv_goto (tgt := 82) hx hb dX12_meant_167 (by decide) ?_
                        exact ih82 z_18 z_23 z_24 (u9.2.1 0) (u9.2.1 1) (u9.2.2 0) (u9.2.2 1) H locs ls (by omega) (by omega) (by omega) (by omega) (by first | exact hq9_0 | omega) (by first | exact hq9_1 | omega)  (hP.sub [3, 4, 5, 6, 7, 8, 9, 1, 0, 2] rfl) (hD.sub [3, 4, 5, 6, 7, 8, 9, 1, 0, 2] (by decide) rfl) hS (lv_sub hlv [0, 1, 2, 3, 4, 5, 6, 7, 8, 9, 10] rfl)
                    · refine lv_goto (tgt := 164) hx hb dX12_meant_119 (by decide) ?_
                      obtain ⟨z_25, hz_25⟩ : ∃ z : Int, z = q10 + 1 := ⟨_, rfl⟩
                      refine lv_iinc (v := iI z_25) (lv' := [(10, vI z_25), (9, vI q9_), (8, vI q8), (0, vR mm), (1, vI n), (2, vI x), (3, vI y), (4, vI p0), (5, vI p1), (6, vI p2), (7, vI p3)]) hx hb dX12_meant_164 hlv (k := 0) rfl (by rw [hz_25]; exact (Int32.ofInt_add _ _).symm) (by decide) rfl (fun ls hlv => ?_)
                      refine lv_goto (tgt := 82) hx hb dX12_meant_167 (by decide) ?_
                      exact ih82 q8 q9_ z_25 (u9.2.1 0) (u9.2.1 1) (u9.2.2 0) (u9.2.2 1) H locs ls (by omega) (by first | exact hl82_0 | omega) (by first | exact hl82_1 | omega) (by omega) (by first | exact hq9_0 | omega) (by first | exact hq9_1 | omega)  (hP.sub [3, 4, 5, 6, 7, 8, 9, 1, 0, 2] rfl) (hD.sub [3, 4, 5, 6, 7, 8, 9, 1, 0, 2] (by decide) rfl) hS (lv_sub hlv [0, 1, 2, 3, 4, 5, 6, 7, 8, 9, 10] rfl)
            · refine lv_iconst (v := iI 0) hx hb dX12_meant_71 (by decide) ?_
              refine W.widen (k := 0) (n := 0) (Nat.le_of_ble_eq_true rfl) (Nat.le_of_ble_eq_true rfl) ?_
              exact W.iret (v := iI 0) hx hb hr (fun t ht hW => ⟨⟨iI 0, ((fun k => ([] : List Nat).getD k 0), (fun k => ([0, (u8.2.1 1), ir, ip] : List Int).getD k 0), (fun k => ([(u8.2.2 0), f27, f28] : List (Nat → Int32)).getD k (fun _ => 0))), rfl, ⟨rfl, (by show ((-2147483648) ≤ (u8.2.1 1) ∧ (u8.2.1 1) ≤ 2147483647); first | exact hq8_1 | omega), (by show (0 ≤ ir ∧ ir ≤ 5); first | exact hr_ir | omega), (by show ((-2147483648) ≤ ip ∧ ip ≤ 2147483647); first | exact hr_ip | omega), (by show ((-2147483648) ≤ 0 ∧ 0 ≤ 2147483647); show ((-2147483648) : Int) ≤ 0 ∧ (0 : Int) ≤ 2147483647; decide), hq8_4, hf12⟩, at9 ht hP hD [7, 8, 9, 0, 1, 2, 3, 4, 5, 6] (by decide +kernel) rfl⟩, hS.F ht⟩) hS.2.2 dX12_meant_72
def vs_m_says : List Cond := .code yX12_says cX12_says 10 (some .int) :: (([.fieldLink RX12 1 "KerbSplashModel" "thrown" "I", .fieldLink RX12 65 "KerbSplashModel" "names" "[I"] : List Cond) ++ ((wsX120) ++ ((wsV RX12 334 RX12 yX12_isLaw vs_m_isLaw) ++ ((va_wsS RX12 279 yX12_within vs_m_within) ++ ((wsV RX12 175 RX12 yX12_may vs_m_may) ++ ((wsV RX12 337 RX12 yX12_name vs_m_name) ++ ((wsV RX12 341 RX12 yX12_worked vs_m_worked) ++ ([]))))))))
set_option maxHeartbeats 4000000 in
set_option maxRecDepth 100000 in
theorem m_says (l : Launch) (hl : l.stackTraces = false) (D : va_G) (cy : Nat → ClassId) (sa : Nat → Nat) (mm m1 m9 m10 m11 m12 m13 m14 m15 m19 m20 m21 m23 m24 m25 m26 m27 m28 m33 m35 : Nat) (th tp sz_ ap bad bk opn fp im nr nl sp_ wtc wcl ir ip shu sfa swr : Int) (f1 f23 f24 f25 f26 f27 f28 : Nat → Int32) (n w_ a0 a1 a2 a3 a4 a5 a6 : Int) (sz : Nat) (hr_th : (-2147483648) ≤ th ∧ th ≤ 2147483647) (hr_tp : 0 ≤ tp ∧ tp ≤ 600) (hr_sz_ : 0 ≤ sz_ ∧ sz_ ≤ 600) (hr_ap : 0 ≤ ap ∧ ap ≤ 602) (hr_bad : (-1) ≤ bad ∧ bad ≤ 602) (hr_bk : 0 ≤ bk ∧ bk ≤ 4) (hr_opn : 0 ≤ opn ∧ opn ≤ 7) (hr_fp : (-2147483648) ≤ fp ∧ fp ≤ 2147483647) (hr_im : 0 ≤ im ∧ im ≤ 3) (hr_nr : 0 ≤ nr ∧ nr ≤ 4) (hr_nl : 0 ≤ nl ∧ nl ≤ 4) (hr_sp_ : 0 ≤ sp_ ∧ sp_ ≤ 602) (hr_wtc : (-2147483648) ≤ wtc ∧ wtc ≤ 2147483647) (hr_wcl : 0 ≤ wcl ∧ wcl ≤ 95) (hr_ir : 0 ≤ ir ∧ ir ≤ 5) (hr_ip : (-2147483648) ≤ ip ∧ ip ≤ 2147483647) (hr_shu : (-2147483648) ≤ shu ∧ shu ≤ 2147483647) (hr_sfa : (-2147483648) ≤ sfa ∧ sfa ≤ 2147483647) (hr_swr : (-2147483648) ≤ swr ∧ swr ≤ 2147483647) (hr_n : (-2147483648) ≤ n ∧ n ≤ 2147483647) (hr_w_ : (-2147483648) ≤ w_ ∧ w_ ≤ 2147483647) (hr_a0 : (-2147483648) ≤ a0 ∧ a0 ≤ 2147483647) (hr_a1 : (-2147483648) ≤ a1 ∧ a1 ≤ 2147483647) (hr_a2 : (-2147483648) ≤ a2 ∧ a2 ≤ 2147483647) (hr_a3 : (-2147483648) ≤ a3 ∧ a3 ≤ 2147483647) (hr_a4 : (-2147483648) ≤ a4 ∧ a4 ≤ 2147483647) (hr_a5 : (-2147483648) ≤ a5 ∧ a5 ≤ 2147483647) (hr_a6 : (-2147483648) ≤ a6 ∧ a6 ≤ 2147483647) (hn_li : LI nl f23 f24 f25 f26) : mI9 l yX12_says vs_m_says ({ frames := 2, cells := 0, slots := 0, locals := 45 }) D cy sa sz [vR mm, vI n, vI w_, vI a0, vI a1, vI a2, vI a3, vI a4, vI a5, vI a6] [zO mm 12 [vI th, vR m1, vI tp, vI sz_, vI ap, vI bad, vI bk, vI opn, vI fp, vR m9, vR m10, vR m11, vR m12, vR m13, vR m14, vR m15, vI im, vI nr, vI nl, vR m19, vR m20, vR m21, vI sp_, vR m23, vR m24, vR m25, vR m26, vR m27, vR m28, vI wtc, vI wcl, vI ir, vI ip, vR m33, vI shu, vR m35, vI sfa, vI swr], zI m1 (cy 0) 4 f1, zI m23 (cy 0) 2480 f23, zI m24 (cy 0) 2480 f24, zI m25 (cy 0) 20 f25, zI m26 (cy 0) 20 f26, zI m27 (cy 0) 620 f27, zI m28 (cy 0) 7 f28] (fun (r : Int32) (u : SV) => r = iI (u.2.1 0) ∧ ((-2147483648) ≤ u.2.1 1 ∧ u.2.1 1 ≤ 2147483647) ∧ ((-2147483648) ≤ u.2.1 0 ∧ u.2.1 0 ≤ 2147483647)) (fun u : SV => [zO mm 12 [vI (u.2.1 1), vR m1, vI tp, vI sz_, vI ap, vI bad, vI bk, vI opn, vI fp, vR m9, vR m10, vR m11, vR m12, vR m13, vR m14, vR m15, vI im, vI nr, vI nl, vR m19, vR m20, vR m21, vI sp_, vR m23, vR m24, vR m25, vR m26, vR m27, vR m28, vI wtc, vI wcl, vI ir, vI ip, vR m33, vI shu, vR m35, vI sfa, vI swr], zI m1 (cy 0) 4 (u.2.2 0), zI m23 (cy 0) 2480 f23, zI m24 (cy 0) 2480 f24, zI m25 (cy 0) 20 f25, zI m26 (cy 0) 20 f26, zI m27 (cy 0) 620 (u.2.2 1), zI m28 (cy 0) 7 (u.2.2 2)]) 0 0 := by
  refine Met.ofW (cc := cX12_says) (maxL := 10) (ret := (some .int)) (by decide) rfl ?_
  intro p e s m args below meth c s₁ B hml hv
  obtain ⟨rfl, hsz, hP, hG, hD0, hT⟩ := hv
  have hx := B.exec
  have hb := B.bytes
  have hr := B.returns
  have hts := atoms_spec (ws := vs_m_says) B.pre
  have hown : s.vm.findClass RX12 = some m.cls := findClass_of_methodNamed B.named
  have hlocks := B.notSynchronized
  subst hsz
  have hD := hD0.self (sz := s.heap.size)
  generalize hAe : va_A [zO mm 12 [vI th, vR m1, vI tp, vI sz_, vI ap, vI bad, vI bk, vI opn, vI fp, vR m9, vR m10, vR m11, vR m12, vR m13, vR m14, vR m15, vI im, vI nr, vI nl, vR m19, vR m20, vR m21, vI sp_, vR m23, vR m24, vR m25, vR m26, vR m27, vR m28, vI wtc, vI wcl, vI ir, vI ip, vR m33, vI shu, vR m35, vI sfa, vI swr], zI m1 (cy 0) 4 f1, zI m23 (cy 0) 2480 f23, zI m24 (cy 0) 2480 f24, zI m25 (cy 0) 20 f25, zI m26 (cy 0) 20 f26, zI m27 (cy 0) 620 f27, zI m28 (cy 0) 7 f28] s.heap.size = A at hD hT ⊢
  have hA : ∀ q : Nat, s.heap.size ≤ q → A q := fun q h => by rw [← hAe]; exact Or.inr h
  have hS : va_S A s.heap s.heap [] := va_S.rf
  have hl0 := lv_entry ([vR mm, vI n, vI w_, vI a0, vI a1, vI a2, vI a3, vI a4, vI a5, vI a6]) (n := 10) (Nat.le_of_ble_eq_true rfl)
  rw [lg_entry_eq]
  generalize (lg_sl ([vR mm, vI n, vI w_, vI a0, vI a1, vI a2, vI a3, vI a4, vI a5, vI a6]) ++ List.replicate (10 - (lg_sl ([vR mm, vI n, vI w_, vI a0, vI a1, vI a2, vI a3, vI a4, vI a5, vI a6])).length) Slot.unset).toArray = ls at hl0 ⊢
  have hlv : lv_has ls 10 [(0, vR mm), (1, vI n), (2, vI w_), (3, vI a0), (4, vI a1), (5, vI a2), (6, vI a3), (7, vI a4), (8, vI a5), (9, vI a6)] := hl0
  have lf1 := hts (.fieldLink RX12 1 "KerbSplashModel" "thrown" "I") (List.mem_of_getElem? (i := 1) rfl)
  have hi12 : ∀ w ∈ wsX120, w ∈ vs_m_says := fun w h => List.mem_cons_of_mem _ (List.mem_append_right _ (List.mem_append_left _ h))
  have gg_1 : GoodIn vs_m_says (wsV RX12 334 RX12 yX12_isLaw vs_m_isLaw) := goodIn_sub (fun w h => List.mem_cons_of_mem _ (List.mem_append_right _ (List.mem_append_right _ (List.mem_append_left _ h)))) (gd_V gd_m_isLaw (by decide +kernel))
  have gg_2 : GoodIn vs_m_says (va_wsS RX12 279 yX12_within vs_m_within) := goodIn_sub (fun w h => List.mem_cons_of_mem _ (List.mem_append_right _ (List.mem_append_right _ (List.mem_append_right _ (List.mem_append_left _ h))))) (gd_S gd_m_within (by decide +kernel))
  have gg_3 : GoodIn vs_m_says (wsV RX12 175 RX12 yX12_may vs_m_may) := goodIn_sub (fun w h => List.mem_cons_of_mem _ (List.mem_append_right _ (List.mem_append_right _ (List.mem_append_right _ (List.mem_append_right _ (List.mem_append_left _ h)))))) (gd_V gd_m_may (by decide +kernel))
  have gg_4 : GoodIn vs_m_says (wsV RX12 337 RX12 yX12_name vs_m_name) := goodIn_sub (fun w h => List.mem_cons_of_mem _ (List.mem_append_right _ (List.mem_append_right _ (List.mem_append_right _ (List.mem_append_right _ (List.mem_append_right _ (List.mem_append_left _ h))))))) (gd_V gd_m_name (by decide +kernel))
  have lf65 := hts (.fieldLink RX12 65 "KerbSplashModel" "names" "[I") (List.mem_of_getElem? (i := 2) rfl)
  have gg_5 : GoodIn vs_m_says (wsV RX12 341 RX12 yX12_worked vs_m_worked) := goodIn_sub (fun w h => List.mem_cons_of_mem _ (List.mem_append_right _ (List.mem_append_right _ (List.mem_append_right _ (List.mem_append_right _ (List.mem_append_right _ (List.mem_append_right _ (List.mem_append_left _ h)))))))) (gd_V gd_m_worked (by decide +kernel))
  refine lv_aload_n hx hb dX12_says_0 rfl (lv_at hlv 0 rfl) ?_
  refine lv_iconst (v := iI 0) hx hb dX12_says_1 (by decide) ?_
  refine va_put (D := D) (ci := 12) (v := vI 0) (ty := .int) (C := RX12) (T := TX12) (N := 38) hx hb hts hi12 tyX12 tyX12_ok nmX12 hown hG.1 hP hD hS 0 rfl rfl 0 (by decide) lf1 (fun _ h9 => h9) rfl (by decide +kernel) rfl rfl (Nat.le_of_ble_eq_true rfl) dX12_says_2 (fun H locs hP hD hS => ?_)
  obtain ⟨hP, hD⟩ := pw9 [zO mm 12 [vI 0, vR m1, vI tp, vI sz_, vI ap, vI bad, vI bk, vI opn, vI fp, vR m9, vR m10, vR m11, vR m12, vR m13, vR m14, vR m15, vI im, vI nr, vI nl, vR m19, vR m20, vR m21, vI sp_, vR m23, vR m24, vR m25, vR m26, vR m27, vR m28, vI wtc, vI wcl, vI ir, vI ip, vR m33, vI shu, vR m35, vI sfa, vI swr], zI m1 (cy 0) 4 f1, zI m23 (cy 0) 2480 f23, zI m24 (cy 0) 2480 f24, zI m25 (cy 0) 20 f25, zI m26 (cy 0) 20 f26, zI m27 (cy 0) 620 f27, zI m28 (cy 0) 7 f28] hP hD
  refine lv_aload_n hx hb dX12_says_5 rfl (lv_at hlv 0 rfl) ?_
  refine lv_iload_n hx hb dX12_says_6 rfl (lv_at hlv 1 rfl) ?_
  refine lv_iconst (v := iI 1) hx hb dX12_says_7 (by decide) ?_
  refine cjr_i [false, false, true, true, true, true, true, true] (fun pre9 => (va_runV (As := [vI n, vI 1]) (rest := []) ⟨hx, hb, hml, hown, hts⟩ (m_isLaw l hl D cy sa mm m1 m9 m10 m11 m12 m13 m14 m15 m19 m20 m21 m23 m24 m25 m26 m27 m28 m33 m35 0 tp sz_ ap bad bk opn fp im nr nl sp_ wtc wcl ir ip shu sfa swr f1 n 1 H.size (by show ((-2147483648) : Int) ≤ 0 ∧ (0 : Int) ≤ 2147483647; decide) (by first | exact hr_tp | omega) (by first | exact hr_sz_ | omega) (by first | exact hr_ap | omega) (by first | exact hr_bad | omega) (by first | exact hr_bk | omega) (by first | exact hr_opn | omega) (by first | exact hr_fp | omega) (by first | exact hr_im | omega) (by first | exact hr_nr | omega) (by first | exact hr_nl | omega) (by first | exact hr_sp_ | omega) (by first | exact hr_wtc | omega) (by first | exact hr_wcl | omega) (by first | exact hr_ir | omega) (by first | exact hr_ip | omega) (by first | exact hr_shu | omega) (by first | exact hr_sfa | omega) (by first | exact hr_swr | omega) (by first | exact hr_n | omega) (by show (1 : Int) ≤ 1 ∧ (1 : Int) ≤ 4; decide)) (cwV 2 hts gg_1 rfl rfl rfl (by decide +kernel) ⟨Nat.le_of_ble_eq_true rfl, Nat.le_of_ble_eq_true rfl⟩) ⟨pcW.blind, (va_recv hG.1 hP (ci := 12) (q0 := 0) rfl rfl), pre9⟩ rfl rfl hlv.1 rfl (lv_room (Nat.le_of_ble_eq_true rfl)) dX12_says_8 ⟨Nat.le_of_ble_eq_true rfl, Nat.le_of_ble_eq_true rfl⟩)) hP hD hS hA hG hT [0, 1] rfl (by decide +kernel) (fun r1 u1 H locs hw1 hq9 hS => ?_)
  obtain ⟨rfl, hq1_1, hq1_2, hq1_3⟩ := hw1
  obtain ⟨hP, hD⟩ := pd9 [zI m23 (cy 0) 2480 f23, zI m24 (cy 0) 2480 f24, zI m25 (cy 0) 20 f25, zI m26 (cy 0) 20 f26, zI m27 (cy 0) 620 f27, zI m28 (cy 0) 7 f28, zO mm 12 [vI (u1.2.1 1), vR m1, vI tp, vI sz_, vI ap, vI bad, vI bk, vI opn, vI fp, vR m9, vR m10, vR m11, vR m12, vR m13, vR m14, vR m15, vI im, vI nr, vI nl, vR m19, vR m20, vR m21, vI sp_, vR m23, vR m24, vR m25, vR m26, vR m27, vR m28, vI wtc, vI wcl, vI ir, vI ip, vR m33, vI shu, vR m35, vI sfa, vI swr], zI m1 (cy 0) 4 (u1.2.2 0)] hq9
  refine iz_eq (tgt := 29) hx hb dX12_says_11 (by decide) (by first | exact rgw hq1_2 (by decide) (by decide) | omega) (fun c_1 => ?_) (fun c_1 => ?_)
  · refine lv_iconst (v := iI 0) hx hb dX12_says_29 (by decide) ?_
    refine W.widen (k := 0) (n := 0) (Nat.le_of_ble_eq_true rfl) (Nat.le_of_ble_eq_true rfl) ?_
    exact W.iret (v := iI 0) hx hb hr (fun t ht hW => ⟨⟨iI 0, ((fun k => ([] : List Nat).getD k 0), (fun k => ([0, (u1.2.1 1)] : List Int).getD k 0), (fun k => ([(u1.2.2 0), f27, f28] : List (Nat → Int32)).getD k (fun _ => 0))), rfl, ⟨rfl, (by show ((-2147483648) ≤ (u1.2.1 1) ∧ (u1.2.1 1) ≤ 2147483647); first | exact hq1_1 | omega), (by show ((-2147483648) ≤ 0 ∧ 0 ≤ 2147483647); show ((-2147483648) : Int) ≤ 0 ∧ (0 : Int) ≤ 2147483647; decide)⟩, at9 ht hP hD [6, 7, 0, 1, 2, 3, 4, 5] (by decide +kernel) rfl⟩, hS.F ht⟩) hS.2.2 dX12_says_30
  · refine lv_aload_n hx hb dX12_says_14 rfl (lv_at hlv 0 rfl) ?_
    refine lv_iload_n hx hb dX12_says_15 rfl (lv_at hlv 2 rfl) ?_
    refine lv_iconst (v := iI 0) hx hb dX12_says_16 (by decide) ?_
    refine lv_iconst (v := iI 4) hx hb dX12_says_17 (by decide) ?_
    refine cjr_i [true, true, true, true, true, true, true, true] (fun pre9 => (va_runS (As := [vI w_, vI 0, vI 4]) (rest := [vR mm]) ⟨hx, hb, hml, hown, hts⟩ (m_within l hl D cy sa w_ 0 4 H.size (by first | exact hr_w_ | omega) (by show ((-2147483648) : Int) ≤ 0 ∧ (0 : Int) ≤ 2147483647; decide) (by show ((-2147483648) : Int) ≤ 4 ∧ (4 : Int) ≤ 2147483647; decide)) (va_cwS 3 hts gg_2 rfl rfl rfl (by decide +kernel) ⟨Nat.le_of_ble_eq_true rfl, Nat.le_of_ble_eq_true rfl⟩) ⟨pcW.blind, pre9⟩ rfl rfl hlv.1 rfl (lv_room (Nat.le_of_ble_eq_true rfl)) dX12_says_18 ⟨Nat.le_of_ble_eq_true rfl, Nat.le_of_ble_eq_true rfl⟩)) hP hD hS hA hG hT [] rfl (by decide +kernel) (fun r2 u2 H locs hw2 hq9 hS => ?_)
    obtain ⟨rfl, hq2_1, hq2_2, hq2_3⟩ := hw2
    obtain ⟨hP, hD⟩ := pd9 [zI m23 (cy 0) 2480 f23, zI m24 (cy 0) 2480 f24, zI m25 (cy 0) 20 f25, zI m26 (cy 0) 20 f26, zI m27 (cy 0) 620 f27, zI m28 (cy 0) 7 f28, zO mm 12 [vI (u1.2.1 1), vR m1, vI tp, vI sz_, vI ap, vI bad, vI bk, vI opn, vI fp, vR m9, vR m10, vR m11, vR m12, vR m13, vR m14, vR m15, vI im, vI nr, vI nl, vR m19, vR m20, vR m21, vI sp_, vR m23, vR m24, vR m25, vR m26, vR m27, vR m28, vI wtc, vI wcl, vI ir, vI ip, vR m33, vI shu, vR m35, vI sfa, vI swr], zI m1 (cy 0) 4 (u1.2.2 0)] hq9
    refine lv_iconst (v := iI 2) hx hb dX12_says_21 (by decide) ?_
    refine lv_iconst (v := iI 2) hx hb dX12_says_22 (by decide) ?_
    refine cjr_i [true, true, true, true, true, true, false, false] (fun pre9 => (va_runV (As := [vI (u2.2.1 0), vI 2, vI 2]) (rest := []) ⟨hx, hb, hml, hown, hts⟩ (m_may l hl D cy sa mm m1 m9 m10 m11 m12 m13 m14 m15 m19 m20 m21 m23 m24 m25 m26 m27 m28 m33 m35 (u1.2.1 1) tp sz_ ap bad bk opn fp im nr nl sp_ wtc wcl ir ip shu sfa swr (u1.2.2 0) (u2.2.1 0) 2 2 H.size (by first | exact hq1_1 | omega) (by first | exact hr_tp | omega) (by first | exact hr_sz_ | omega) (by first | exact hr_ap | omega) (by first | exact hr_bad | omega) (by first | exact hr_bk | omega) (by first | exact hr_opn | omega) (by first | exact hr_fp | omega) (by first | exact hr_im | omega) (by first | exact hr_nr | omega) (by first | exact hr_nl | omega) (by first | exact hr_sp_ | omega) (by first | exact hr_wtc | omega) (by first | exact hr_wcl | omega) (by first | exact hr_ir | omega) (by first | exact hr_ip | omega) (by first | exact hr_shu | omega) (by first | exact hr_sfa | omega) (by first | exact hr_swr | omega) (by first | exact hq2_1 | omega) (by show (1 : Int) ≤ 2 ∧ (2 : Int) ≤ 4; decide) (by show (0 : Int) ≤ 2 ∧ (2 : Int) ≤ 3; decide)) (cwV 3 hts gg_3 rfl rfl rfl (by decide +kernel) ⟨Nat.le_of_ble_eq_true rfl, Nat.le_of_ble_eq_true rfl⟩) ⟨pcW.blind, (va_recv hG.1 hP (ci := 12) (q0 := 6) rfl rfl), pre9⟩ rfl rfl hlv.1 rfl (lv_room (Nat.le_of_ble_eq_true rfl)) dX12_says_23 ⟨Nat.le_of_ble_eq_true rfl, Nat.le_of_ble_eq_true rfl⟩)) hP hD hS hA hG hT [6, 7] rfl (by decide +kernel) (fun r3 u3 H locs hw3 hq9 hS => ?_)
    obtain ⟨rfl, hq3_1, hq3_2, hq3_3, hq3_4⟩ := hw3
    obtain ⟨hP, hD⟩ := pd9 [zI m23 (cy 0) 2480 f23, zI m24 (cy 0) 2480 f24, zI m25 (cy 0) 20 f25, zI m26 (cy 0) 20 f26, zI m27 (cy 0) 620 f27, zI m28 (cy 0) 7 f28, zO mm 12 [vI (u3.2.1 1), vR m1, vI tp, vI sz_, vI ap, vI bad, vI bk, vI opn, vI fp, vR m9, vR m10, vR m11, vR m12, vR m13, vR m14, vR m15, vI im, vI nr, vI nl, vR m19, vR m20, vR m21, vI sp_, vR m23, vR m24, vR m25, vR m26, vR m27, vR m28, vI wtc, vI wcl, vI ir, vI ip, vR m33, vI shu, vR m35, vI sfa, vI swr], zI m1 (cy 0) 4 (u3.2.2 0)] hq9
    refine iz_ne (tgt := 31) hx hb dX12_says_26 (by decide) (by first | exact rgw hq3_2 (by decide) (by decide) | omega) (fun c_2 => ?_) (fun c_2 => ?_)
    · refine lv_aload_n hx hb dX12_says_31 rfl (lv_at hlv 0 rfl) ?_
      refine lv_iload_n hx hb dX12_says_32 rfl (lv_at hlv 3 rfl) ?_
      refine lv_iload hx hb dX12_says_33 (lv_at hlv 4 rfl) ?_
      refine lv_iload hx hb dX12_says_35 (lv_at hlv 5 rfl) ?_
      refine lv_iload hx hb dX12_says_37 (lv_at hlv 6 rfl) ?_
      refine lv_iload hx hb dX12_says_39 (lv_at hlv 8 rfl) ?_
      refine cjr_v [true, true, true, true, true, false, false, true] (fun pre9 => (va_runV (As := [vI a0, vI a1, vI a2, vI a3, vI a5]) (rest := []) ⟨hx, hb, hml, hown, hts⟩ (m_name l hl D cy sa mm m1 m9 m10 m11 m12 m13 m14 m15 m19 m20 m21 m23 m24 m25 m26 m27 m28 m33 m35 (u3.2.1 1) tp sz_ ap bad bk opn fp im nr nl sp_ wtc wcl ir ip shu sfa swr f28 a0 a1 a2 a3 a5 H.size (by first | exact hq3_1 | omega) (by first | exact hr_tp | omega) (by first | exact hr_sz_ | omega) (by first | exact hr_ap | omega) (by first | exact hr_bad | omega) (by first | exact hr_bk | omega) (by first | exact hr_opn | omega) (by first | exact hr_fp | omega) (by first | exact hr_im | omega) (by first | exact hr_nr | omega) (by first | exact hr_nl | omega) (by first | exact hr_sp_ | omega) (by first | exact hr_wtc | omega) (by first | exact hr_wcl | omega) (by first | exact hr_ir | omega) (by first | exact hr_ip | omega) (by first | exact hr_shu | omega) (by first | exact hr_sfa | omega) (by first | exact hr_swr | omega) (by first | exact hr_a0 | omega) (by first | exact hr_a1 | omega) (by first | exact hr_a2 | omega) (by first | exact hr_a3 | omega) (by first | exact hr_a5 | omega)) (cwV 5 hts gg_4 rfl rfl rfl (by decide +kernel) ⟨Nat.le_of_ble_eq_true rfl, Nat.le_of_ble_eq_true rfl⟩) ⟨pcW.blind, (va_recv hG.1 hP (ci := 12) (q0 := 6) rfl rfl), pre9⟩ rfl rfl hlv.1 rfl (lv_room (Nat.le_of_ble_eq_true rfl)) dX12_says_41 ⟨Nat.le_of_ble_eq_true rfl, Nat.le_of_ble_eq_true rfl⟩)) hP hD hS hA hG hT [6, 5] rfl (by decide +kernel) (fun u4 H locs hw4 hq9 hS => ?_)
      obtain ⟨hP, hD⟩ := pd9 [zI m23 (cy 0) 2480 f23, zI m24 (cy 0) 2480 f24, zI m25 (cy 0) 20 f25, zI m26 (cy 0) 20 f26, zI m27 (cy 0) 620 f27, zI m1 (cy 0) 4 (u3.2.2 0), zO mm 12 [vI (u3.2.1 1), vR m1, vI tp, vI sz_, vI ap, vI bad, vI bk, vI opn, vI fp, vR m9, vR m10, vR m11, vR m12, vR m13, vR m14, vR m15, vI im, vI nr, vI nl, vR m19, vR m20, vR m21, vI sp_, vR m23, vR m24, vR m25, vR m26, vR m27, vR m28, vI wtc, vI wcl, vI ir, vI ip, vR m33, vI shu, vR m35, vI sfa, vI swr], zI m28 (cy 0) 7 (u4.2.2 0)] hq9
      refine lv_aload_n hx hb dX12_says_44 rfl (lv_at hlv 0 rfl) ?_
      refine va_get (D := D) (ci := 12) (v := vR m28) (C := RX12) (T := TX12) (N := 38) hx hb hts hi12 hown hG.1 hP 6 rfl rfl 28 (by decide) lf65 (fun _ h9 => h9) rfl dX12_says_45 ?_
      refine lv_iconst (v := iI 4) hx hb dX12_says_48 (by decide) ?_
      refine lv_iload hx hb dX12_says_49 (lv_at hlv 7 rfl) ?_
      refine va_iast hx hb hG.1 hP hD hS 7 0 rfl rfl (iI_in (by omega) (by decide)) dX12_says_51 (fun H locs hP hD hS => ?_)
      obtain ⟨f_3, hP, hD⟩ := pe9 (fun f_3 => [zI m23 (cy 0) 2480 f23, zI m24 (cy 0) 2480 f24, zI m25 (cy 0) 20 f25, zI m26 (cy 0) 20 f26, zI m27 (cy 0) 620 f27, zI m1 (cy 0) 4 (u3.2.2 0), zO mm 12 [vI (u3.2.1 1), vR m1, vI tp, vI sz_, vI ap, vI bad, vI bk, vI opn, vI fp, vR m9, vR m10, vR m11, vR m12, vR m13, vR m14, vR m15, vI im, vI nr, vI nl, vR m19, vR m20, vR m21, vI sp_, vR m23, vR m24, vR m25, vR m26, vR m27, vR m28, vI wtc, vI wcl, vI ir, vI ip, vR m33, vI shu, vR m35, vI sfa, vI swr], zI m28 (cy 0) 7 f_3]) _ hP hD
      refine lv_aload_n hx hb dX12_says_52 rfl (lv_at hlv 0 rfl) ?_
      refine va_get (D := D) (ci := 12) (v := vR m28) (C := RX12) (T := TX12) (N := 38) hx hb hts hi12 hown hG.1 hP 6 rfl rfl 28 (by decide) lf65 (fun _ h9 => h9) rfl dX12_says_53 ?_
      refine lv_bipush (v := iI 6) hx hb dX12_says_56 (by decide) ?_
      refine lv_iload hx hb dX12_says_58 (lv_at hlv 9 rfl) ?_
      refine va_iast hx hb hG.1 hP hD hS 7 0 rfl rfl (iI_in (by omega) (by decide)) dX12_says_60 (fun H locs hP hD hS => ?_)
      obtain ⟨f_4, hP, hD⟩ := pe9 (fun f_4 => [zI m23 (cy 0) 2480 f23, zI m24 (cy 0) 2480 f24, zI m25 (cy 0) 20 f25, zI m26 (cy 0) 20 f26, zI m27 (cy 0) 620 f27, zI m1 (cy 0) 4 (u3.2.2 0), zO mm 12 [vI (u3.2.1 1), vR m1, vI tp, vI sz_, vI ap, vI bad, vI bk, vI opn, vI fp, vR m9, vR m10, vR m11, vR m12, vR m13, vR m14, vR m15, vI im, vI nr, vI nl, vR m19, vR m20, vR m21, vI sp_, vR m23, vR m24, vR m25, vR m26, vR m27, vR m28, vI wtc, vI wcl, vI ir, vI ip, vR m33, vI shu, vR m35, vI sfa, vI swr], zI m28 (cy 0) 7 f_4]) _ hP hD
      refine lv_aload_n hx hb dX12_says_61 rfl (lv_at hlv 0 rfl) ?_
      refine lv_iconst (v := iI 5) hx hb dX12_says_62 (by decide) ?_
      refine lv_iload_n hx hb dX12_says_63 rfl (lv_at hlv 1 rfl) ?_
      refine lv_imul hx hb dX12_says_64 ?_
      refine lt_e (e0 := 5 * n) (Int32.ofInt_mul _ _).symm (fun z_5 hz_5 => ?_)
      refine lv_iload_n hx hb dX12_says_65 rfl (lv_at hlv 2 rfl) ?_
      refine lv_iadd hx hb dX12_says_66 ?_
      refine lt_e (e0 := z_5 + w_) (Int32.ofInt_add _ _).symm (fun z_6 hz_6 => ?_)
      refine cjr_i [false, false, false, false, false, true, false, false] (fun pre9 => (va_runV (As := [vI z_6]) (rest := []) ⟨hx, hb, hml, hown, hts⟩ (m_worked l hl D cy sa mm m1 m9 m10 m11 m12 m13 m14 m15 m19 m20 m21 m23 m24 m25 m26 m27 m28 m33 m35 (u3.2.1 1) tp sz_ ap bad bk opn fp im nr nl sp_ wtc wcl ir ip shu sfa swr f23 f24 f25 f26 f27 f_4 z_6 H.size (by first | exact hq3_1 | omega) (by first | exact hr_tp | omega) (by first | exact hr_sz_ | omega) (by first | exact hr_ap | omega) (by first | exact hr_bad | omega) (by first | exact hr_bk | omega) (by first | exact hr_opn | omega) (by first | exact hr_fp | omega) (by first | exact hr_im | omega) (by first | exact hr_nr | omega) (by first | exact hr_nl | omega) (by first | exact hr_sp_ | omega) (by first | exact hr_wtc | omega) (by first | exact hr_wcl | omega) (by first | exact hr_ir | omega) (by first | exact hr_ip | omega) (by first | exact hr_shu | omega) (by first | exact hr_sfa | omega) (by first | exact hr_swr | omega) (by omega) (by omega) hn_li) (cwV 1 hts gg_5 rfl rfl rfl (by decide +kernel) ⟨Nat.le_of_ble_eq_true rfl, Nat.le_of_ble_eq_true rfl⟩) ⟨pcW.blind, (va_recv hG.1 hP (ci := 12) (q0 := 6) rfl rfl), pre9⟩ rfl rfl hlv.1 rfl (lv_room (Nat.le_of_ble_eq_true rfl)) dX12_says_67 ⟨Nat.le_of_ble_eq_true rfl, Nat.le_of_ble_eq_true rfl⟩)) hP hD hS hA hG hT [6, 0, 1, 2, 3, 4, 7] rfl (by decide +kernel) (fun r5 u5 H locs hw5 hq9 hS => ?_)
      obtain ⟨rfl, hq5_1⟩ := hw5
      obtain ⟨hP, hD⟩ := pd9 [zI m1 (cy 0) 4 (u3.2.2 0), zO mm 12 [vI (u3.2.1 1), vR m1, vI tp, vI sz_, vI ap, vI bad, vI bk, vI opn, vI fp, vR m9, vR m10, vR m11, vR m12, vR m13, vR m14, vR m15, vI im, vI nr, vI nl, vR m19, vR m20, vR m21, vI sp_, vR m23, vR m24, vR m25, vR m26, vR m27, vR m28, vI wtc, vI wcl, vI ir, vI ip, vR m33, vI shu, vR m35, vI sfa, vI swr], zI m23 (cy 0) 2480 f23, zI m24 (cy 0) 2480 f24, zI m25 (cy 0) 20 f25, zI m26 (cy 0) 20 f26, zI m27 (cy 0) 620 (u5.2.2 0), zI m28 (cy 0) 7 f_4] hq9
      refine W.widen (k := 0) (n := 0) (Nat.le_of_ble_eq_true rfl) (Nat.le_of_ble_eq_true rfl) ?_
      exact W.iret (v := iI (u5.2.1 0)) hx hb hr (fun t ht hW => ⟨⟨iI (u5.2.1 0), ((fun k => ([] : List Nat).getD k 0), (fun k => ([(u5.2.1 0), (u3.2.1 1)] : List Int).getD k 0), (fun k => ([(u3.2.2 0), (u5.2.2 0), f_4] : List (Nat → Int32)).getD k (fun _ => 0))), rfl, ⟨rfl, (by show ((-2147483648) ≤ (u3.2.1 1) ∧ (u3.2.1 1) ≤ 2147483647); first | exact hq3_1 | omega), (by show ((-2147483648) ≤ (u5.2.1 0) ∧ (u5.2.1 0) ≤ 2147483647); first | exact hq5_1 | omega)⟩, at9 ht hP hD [1, 0, 2, 3, 4, 5, 6, 7] (by decide +kernel) rfl⟩, hS.F ht⟩) hS.2.2 dX12_says_70
    · refine lv_iconst (v := iI 0) hx hb dX12_says_29 (by decide) ?_
      refine W.widen (k := 0) (n := 0) (Nat.le_of_ble_eq_true rfl) (Nat.le_of_ble_eq_true rfl) ?_
      exact W.iret (v := iI 0) hx hb hr (fun t ht hW => ⟨⟨iI 0, ((fun k => ([] : List Nat).getD k 0), (fun k => ([0, (u3.2.1 1)] : List Int).getD k 0), (fun k => ([(u3.2.2 0), f27, f28] : List (Nat → Int32)).getD k (fun _ => 0))), rfl, ⟨rfl, (by show ((-2147483648) ≤ (u3.2.1 1) ∧ (u3.2.1 1) ≤ 2147483647); first | exact hq3_1 | omega), (by show ((-2147483648) ≤ 0 ∧ 0 ≤ 2147483647); show ((-2147483648) : Int) ≤ 0 ∧ (0 : Int) ≤ 2147483647; decide)⟩, at9 ht hP hD [6, 7, 0, 1, 2, 3, 4, 5] (by decide +kernel) rfl⟩, hS.F ht⟩) hS.2.2 dX12_says_30
def vs_m_ice : List Cond := .code yX12_ice cX12_ice 10 (some .int) :: (([.fieldLink RX12 1 "KerbSplashModel" "thrown" "I", .fieldLink RX12 23 "KerbSplashModel" "b" "[I", .fieldLink RX12 29 "KerbSplashModel" "s" "[I"] : List Cond) ++ ((wsX120) ++ ((va_wsS RX12 279 yX12_within vs_m_within) ++ ((wsV RX12 175 RX12 yX12_may vs_m_may) ++ ((va_wsS RX12 289 yX12_at vs_m_at) ++ ((wsV RX12 347 RX12 yX12_peopleAt vs_m_peopleAt) ++ ([])))))))
set_option maxHeartbeats 4000000 in
set_option maxRecDepth 100000 in
theorem m_ice (l : Launch) (hl : l.stackTraces = false) (D : va_G) (cy : Nat → ClassId) (sa : Nat → Nat) (mm m1 m9 m10 m11 m12 m13 m14 m15 m19 m20 m21 m23 m24 m25 m26 m27 m28 m33 m35 : Nat) (th tp sz_ ap bad bk opn fp im nr nl sp_ wtc wcl ir ip shu sfa swr : Int) (f1 f10 f12 : Nat → Int32) (n k : Int) (sz : Nat) (hr_th : (-2147483648) ≤ th ∧ th ≤ 2147483647) (hr_tp : 0 ≤ tp ∧ tp ≤ 600) (hr_sz_ : 0 ≤ sz_ ∧ sz_ ≤ 600) (hr_ap : 0 ≤ ap ∧ ap ≤ 602) (hr_bad : (-1) ≤ bad ∧ bad ≤ 602) (hr_bk : 0 ≤ bk ∧ bk ≤ 4) (hr_opn : 0 ≤ opn ∧ opn ≤ 7) (hr_fp : (-2147483648) ≤ fp ∧ fp ≤ 2147483647) (hr_im : 0 ≤ im ∧ im ≤ 3) (hr_nr : 0 ≤ nr ∧ nr ≤ 4) (hr_nl : 0 ≤ nl ∧ nl ≤ 4) (hr_sp_ : 0 ≤ sp_ ∧ sp_ ≤ 602) (hr_wtc : (-2147483648) ≤ wtc ∧ wtc ≤ 2147483647) (hr_wcl : 0 ≤ wcl ∧ wcl ≤ 95) (hr_ir : 0 ≤ ir ∧ ir ≤ 5) (hr_ip : (-2147483648) ≤ ip ∧ ip ≤ 2147483647) (hr_shu : (-2147483648) ≤ shu ∧ shu ≤ 2147483647) (hr_sfa : (-2147483648) ≤ sfa ∧ sfa ≤ 2147483647) (hr_swr : (-2147483648) ≤ swr ∧ swr ≤ 2147483647) (hr_n : (-2147483648) ≤ n ∧ n ≤ 2147483647) (hr_k : (-2147483648) ≤ k ∧ k ≤ 2147483647) (hf10 : BI f10) (hf12 : SI 8 f12) : mI9 l yX12_ice vs_m_ice ({ frames := 1, cells := 0, slots := 0, locals := 23 }) D cy sa sz [vR mm, vI n, vI k] [zO mm 12 [vI th, vR m1, vI tp, vI sz_, vI ap, vI bad, vI bk, vI opn, vI fp, vR m9, vR m10, vR m11, vR m12, vR m13, vR m14, vR m15, vI im, vI nr, vI nl, vR m19, vR m20, vR m21, vI sp_, vR m23, vR m24, vR m25, vR m26, vR m27, vR m28, vI wtc, vI wcl, vI ir, vI ip, vR m33, vI shu, vR m35, vI sfa, vI swr], zI m1 (cy 0) 4 f1, zI m10 (cy 0) 68 f10, zI m12 (cy 0) 389 f12] (fun (r : Int32) (u : SV) => r = iI (u.2.1 0) ∧ ((-2147483648) ≤ u.2.1 1 ∧ u.2.1 1 ≤ 2147483647) ∧ ((-2147483648) ≤ u.2.1 0 ∧ u.2.1 0 ≤ 2147483647) ∧ BI f10 ∧ SI 8 f12) (fun u : SV => [zO mm 12 [vI (u.2.1 1), vR m1, vI tp, vI sz_, vI ap, vI bad, vI bk, vI opn, vI fp, vR m9, vR m10, vR m11, vR m12, vR m13, vR m14, vR m15, vI im, vI nr, vI nl, vR m19, vR m20, vR m21, vI sp_, vR m23, vR m24, vR m25, vR m26, vR m27, vR m28, vI wtc, vI wcl, vI ir, vI ip, vR m33, vI shu, vR m35, vI sfa, vI swr], zI m1 (cy 0) 4 (u.2.2 0), zI m10 (cy 0) 68 f10, zI m12 (cy 0) 389 f12]) 0 0 := by
  refine Met.ofW (cc := cX12_ice) (maxL := 10) (ret := (some .int)) (by decide) rfl ?_
  intro p e s m args below meth c s₁ B hml hv
  obtain ⟨rfl, hsz, hP, hG, hD0, hT⟩ := hv
  have hx := B.exec
  have hb := B.bytes
  have hr := B.returns
  have hts := atoms_spec (ws := vs_m_ice) B.pre
  have hown : s.vm.findClass RX12 = some m.cls := findClass_of_methodNamed B.named
  have hlocks := B.notSynchronized
  subst hsz
  have hD := hD0.self (sz := s.heap.size)
  generalize hAe : va_A [zO mm 12 [vI th, vR m1, vI tp, vI sz_, vI ap, vI bad, vI bk, vI opn, vI fp, vR m9, vR m10, vR m11, vR m12, vR m13, vR m14, vR m15, vI im, vI nr, vI nl, vR m19, vR m20, vR m21, vI sp_, vR m23, vR m24, vR m25, vR m26, vR m27, vR m28, vI wtc, vI wcl, vI ir, vI ip, vR m33, vI shu, vR m35, vI sfa, vI swr], zI m1 (cy 0) 4 f1, zI m10 (cy 0) 68 f10, zI m12 (cy 0) 389 f12] s.heap.size = A at hD hT ⊢
  have hA : ∀ q : Nat, s.heap.size ≤ q → A q := fun q h => by rw [← hAe]; exact Or.inr h
  have hS : va_S A s.heap s.heap [] := va_S.rf
  have hl0 := lv_entry ([vR mm, vI n, vI k]) (n := 10) (Nat.le_of_ble_eq_true rfl)
  rw [lg_entry_eq]
  generalize (lg_sl ([vR mm, vI n, vI k]) ++ List.replicate (10 - (lg_sl ([vR mm, vI n, vI k])).length) Slot.unset).toArray = ls at hl0 ⊢
  have hlv : lv_has ls 10 [(0, vR mm), (1, vI n), (2, vI k)] := hl0
  have lf1 := hts (.fieldLink RX12 1 "KerbSplashModel" "thrown" "I") (List.mem_of_getElem? (i := 1) rfl)
  have hi12 : ∀ w ∈ wsX120, w ∈ vs_m_ice := fun w h => List.mem_cons_of_mem _ (List.mem_append_right _ (List.mem_append_left _ h))
  have gg_1 : GoodIn vs_m_ice (va_wsS RX12 279 yX12_within vs_m_within) := goodIn_sub (fun w h => List.mem_cons_of_mem _ (List.mem_append_right _ (List.mem_append_right _ (List.mem_append_left _ h)))) (gd_S gd_m_within (by decide +kernel))
  have gg_2 : GoodIn vs_m_ice (wsV RX12 175 RX12 yX12_may vs_m_may) := goodIn_sub (fun w h => List.mem_cons_of_mem _ (List.mem_append_right _ (List.mem_append_right _ (List.mem_append_right _ (List.mem_append_left _ h))))) (gd_V gd_m_may (by decide +kernel))
  have lf23 := hts (.fieldLink RX12 23 "KerbSplashModel" "b" "[I") (List.mem_of_getElem? (i := 2) rfl)
  have lf29 := hts (.fieldLink RX12 29 "KerbSplashModel" "s" "[I") (List.mem_of_getElem? (i := 3) rfl)
  have gg_3 : GoodIn vs_m_ice (va_wsS RX12 289 yX12_at vs_m_at) := goodIn_sub (fun w h => List.mem_cons_of_mem _ (List.mem_append_right _ (List.mem_append_right _ (List.mem_append_right _ (List.mem_append_right _ (List.mem_append_left _ h)))))) (gd_S gd_m_at (by decide +kernel))
  have gg_4 : GoodIn vs_m_ice (wsV RX12 347 RX12 yX12_peopleAt vs_m_peopleAt) := goodIn_sub (fun w h => List.mem_cons_of_mem _ (List.mem_append_right _ (List.mem_append_right _ (List.mem_append_right _ (List.mem_append_right _ (List.mem_append_right _ (List.mem_append_left _ h))))))) (gd_V gd_m_peopleAt (by decide +kernel))
  refine lv_aload_n hx hb dX12_ice_0 rfl (lv_at hlv 0 rfl) ?_
  refine lv_iconst (v := iI 0) hx hb dX12_ice_1 (by decide) ?_
  refine va_put (D := D) (ci := 12) (v := vI 0) (ty := .int) (C := RX12) (T := TX12) (N := 38) hx hb hts hi12 tyX12 tyX12_ok nmX12 hown hG.1 hP hD hS 0 rfl rfl 0 (by decide) lf1 (fun _ h9 => h9) rfl (by decide +kernel) rfl rfl (Nat.le_of_ble_eq_true rfl) dX12_ice_2 (fun H locs hP hD hS => ?_)
  obtain ⟨hP, hD⟩ := pw9 [zO mm 12 [vI 0, vR m1, vI tp, vI sz_, vI ap, vI bad, vI bk, vI opn, vI fp, vR m9, vR m10, vR m11, vR m12, vR m13, vR m14, vR m15, vI im, vI nr, vI nl, vR m19, vR m20, vR m21, vI sp_, vR m23, vR m24, vR m25, vR m26, vR m27, vR m28, vI wtc, vI wcl, vI ir, vI ip, vR m33, vI shu, vR m35, vI sfa, vI swr], zI m1 (cy 0) 4 f1, zI m10 (cy 0) 68 f10, zI m12 (cy 0) 389 f12] hP hD
  refine lv_aload_n hx hb dX12_ice_5 rfl (lv_at hlv 0 rfl) ?_
  refine lv_iload_n hx hb dX12_ice_6 rfl (lv_at hlv 1 rfl) ?_
  refine lv_iconst (v := iI 1) hx hb dX12_ice_7 (by decide) ?_
  refine lv_sipush (v := iI 9999) hx hb dX12_ice_8 (by decide) ?_
  refine cjr_i [true, true, true, true] (fun pre9 => (va_runS (As := [vI n, vI 1, vI 9999]) (rest := [vR mm]) ⟨hx, hb, hml, hown, hts⟩ (m_within l hl D cy sa n 1 9999 H.size (by first | exact hr_n | omega) (by show ((-2147483648) : Int) ≤ 1 ∧ (1 : Int) ≤ 2147483647; decide) (by show ((-2147483648) : Int) ≤ 9999 ∧ (9999 : Int) ≤ 2147483647; decide)) (va_cwS 3 hts gg_1 rfl rfl rfl (by decide +kernel) ⟨Nat.le_of_ble_eq_true rfl, Nat.le_of_ble_eq_true rfl⟩) ⟨pcW.blind, pre9⟩ rfl rfl hlv.1 rfl (lv_room (Nat.le_of_ble_eq_true rfl)) dX12_ice_11 ⟨Nat.le_of_ble_eq_true rfl, Nat.le_of_ble_eq_true rfl⟩)) hP hD hS hA hG hT [] rfl (by decide +kernel) (fun r1 u1 H locs hw1 hq9 hS => ?_)
  obtain ⟨rfl, hq1_1, hq1_2, hq1_3⟩ := hw1
  obtain ⟨hP, hD⟩ := pd9 [zO mm 12 [vI 0, vR m1, vI tp, vI sz_, vI ap, vI bad, vI bk, vI opn, vI fp, vR m9, vR m10, vR m11, vR m12, vR m13, vR m14, vR m15, vI im, vI nr, vI nl, vR m19, vR m20, vR m21, vI sp_, vR m23, vR m24, vR m25, vR m26, vR m27, vR m28, vI wtc, vI wcl, vI ir, vI ip, vR m33, vI shu, vR m35, vI sfa, vI swr], zI m1 (cy 0) 4 f1, zI m10 (cy 0) 68 f10, zI m12 (cy 0) 389 f12] hq9
  refine iz_eq (tgt := 30) hx hb dX12_ice_14 (by decide) (by first | exact rgw hq1_1 (by decide) (by decide) | omega) (fun c_1 => ?_) (fun c_1 => ?_)
  · refine lv_iconst (v := iI 0) hx hb dX12_ice_30 (by decide) ?_
    refine lv_iconst (v := iI 1) hx hb dX12_ice_31 (by decide) ?_
    refine lv_iconst (v := iI 2) hx hb dX12_ice_32 (by decide) ?_
    refine cjr_i [false, false, true, true] (fun pre9 => (va_runV (As := [vI 0, vI 1, vI 2]) (rest := []) ⟨hx, hb, hml, hown, hts⟩ (m_may l hl D cy sa mm m1 m9 m10 m11 m12 m13 m14 m15 m19 m20 m21 m23 m24 m25 m26 m27 m28 m33 m35 0 tp sz_ ap bad bk opn fp im nr nl sp_ wtc wcl ir ip shu sfa swr f1 0 1 2 H.size (by show ((-2147483648) : Int) ≤ 0 ∧ (0 : Int) ≤ 2147483647; decide) (by first | exact hr_tp | omega) (by first | exact hr_sz_ | omega) (by first | exact hr_ap | omega) (by first | exact hr_bad | omega) (by first | exact hr_bk | omega) (by first | exact hr_opn | omega) (by first | exact hr_fp | omega) (by first | exact hr_im | omega) (by first | exact hr_nr | omega) (by first | exact hr_nl | omega) (by first | exact hr_sp_ | omega) (by first | exact hr_wtc | omega) (by first | exact hr_wcl | omega) (by first | exact hr_ir | omega) (by first | exact hr_ip | omega) (by first | exact hr_shu | omega) (by first | exact hr_sfa | omega) (by first | exact hr_swr | omega) (by show (0 : Int) ≤ 0 ∧ (0 : Int) ≤ 1; decide) (by show (1 : Int) ≤ 1 ∧ (1 : Int) ≤ 4; decide) (by show (0 : Int) ≤ 2 ∧ (2 : Int) ≤ 3; decide)) (cwV 3 hts gg_2 rfl rfl rfl (by decide +kernel) ⟨Nat.le_of_ble_eq_true rfl, Nat.le_of_ble_eq_true rfl⟩) ⟨pcW.blind, (va_recv hG.1 hP (ci := 12) (q0 := 0) rfl rfl), pre9⟩ rfl rfl hlv.1 rfl (lv_room (Nat.le_of_ble_eq_true rfl)) dX12_ice_33 ⟨Nat.le_of_ble_eq_true rfl, Nat.le_of_ble_eq_true rfl⟩)) hP hD hS hA hG hT [0, 1] rfl (by decide +kernel) (fun r2 u2 H locs hw2 hq9 hS => ?_)
    obtain ⟨rfl, hq2_1, hq2_2, hq2_3, hq2_4⟩ := hw2
    obtain ⟨hP, hD⟩ := pd9 [zI m10 (cy 0) 68 f10, zI m12 (cy 0) 389 f12, zO mm 12 [vI (u2.2.1 1), vR m1, vI tp, vI sz_, vI ap, vI bad, vI bk, vI opn, vI fp, vR m9, vR m10, vR m11, vR m12, vR m13, vR m14, vR m15, vI im, vI nr, vI nl, vR m19, vR m20, vR m21, vI sp_, vR m23, vR m24, vR m25, vR m26, vR m27, vR m28, vI wtc, vI wcl, vI ir, vI ip, vR m33, vI shu, vR m35, vI sfa, vI swr], zI m1 (cy 0) 4 (u2.2.2 0)] hq9
    refine lt_i (y := iI 0) (by rw [show (u2.2.1 0) = 0 by omega]) ?_
    refine iz_ne (tgt := 41) hx hb dX12_ice_36 (by decide) (by show ((-2147483648) : Int) ≤ 0 ∧ (0 : Int) ≤ 2147483647; decide) (fun c_2 => by exfalso; omega) (fun c_2 => ?_)
    refine lv_iconst (v := iI 0) hx hb dX12_ice_39 (by decide) ?_
    refine W.widen (k := 0) (n := 0) (Nat.le_of_ble_eq_true rfl) (Nat.le_of_ble_eq_true rfl) ?_
    exact W.iret (v := iI 0) hx hb hr (fun t ht hW => ⟨⟨iI 0, ((fun k => ([] : List Nat).getD k 0), (fun k => ([0, (u2.2.1 1)] : List Int).getD k 0), (fun k => ([(u2.2.2 0)] : List (Nat → Int32)).getD k (fun _ => 0))), rfl, ⟨rfl, (by show ((-2147483648) ≤ (u2.2.1 1) ∧ (u2.2.1 1) ≤ 2147483647); first | exact hq2_1 | omega), (by show ((-2147483648) ≤ 0 ∧ 0 ≤ 2147483647); show ((-2147483648) : Int) ≤ 0 ∧ (0 : Int) ≤ 2147483647; decide), hf10, hf12⟩, at9 ht hP hD [2, 3, 0, 1] (by decide +kernel) rfl⟩, hS.F ht⟩) hS.2.2 dX12_ice_40
  · refine lv_iload_n hx hb dX12_ice_17 rfl (lv_at hlv 2 rfl) ?_
    refine lv_iconst (v := iI 0) hx hb dX12_ice_18 (by decide) ?_
    refine lv_iconst (v := iI 2) hx hb dX12_ice_19 (by decide) ?_
    refine cjr_i [true, true, true, true] (fun pre9 => (va_runS (As := [vI k, vI 0, vI 2]) (rest := [vR mm]) ⟨hx, hb, hml, hown, hts⟩ (m_within l hl D cy sa k 0 2 H.size (by first | exact hr_k | omega) (by show ((-2147483648) : Int) ≤ 0 ∧ (0 : Int) ≤ 2147483647; decide) (by show ((-2147483648) : Int) ≤ 2 ∧ (2 : Int) ≤ 2147483647; decide)) (va_cwS 3 hts gg_1 rfl rfl rfl (by decide +kernel) ⟨Nat.le_of_ble_eq_true rfl, Nat.le_of_ble_eq_true rfl⟩) ⟨pcW.blind, pre9⟩ rfl rfl hlv.1 rfl (lv_room (Nat.le_of_ble_eq_true rfl)) dX12_ice_20 ⟨Nat.le_of_ble_eq_true rfl, Nat.le_of_ble_eq_true rfl⟩)) hP hD hS hA hG hT [] rfl (by decide +kernel) (fun r3 u3 H locs hw3 hq9 hS => ?_)
    obtain ⟨rfl, hq3_1, hq3_2, hq3_3⟩ := hw3
    obtain ⟨hP, hD⟩ := pd9 [zO mm 12 [vI 0, vR m1, vI tp, vI sz_, vI ap, vI bad, vI bk, vI opn, vI fp, vR m9, vR m10, vR m11, vR m12, vR m13, vR m14, vR m15, vI im, vI nr, vI nl, vR m19, vR m20, vR m21, vI sp_, vR m23, vR m24, vR m25, vR m26, vR m27, vR m28, vI wtc, vI wcl, vI ir, vI ip, vR m33, vI shu, vR m35, vI sfa, vI swr], zI m1 (cy 0) 4 f1, zI m10 (cy 0) 68 f10, zI m12 (cy 0) 389 f12] hq9
    refine iz_eq (tgt := 30) hx hb dX12_ice_23 (by decide) (by first | exact rgw hq3_1 (by decide) (by decide) | omega) (fun c_3 => ?_) (fun c_3 => ?_)
    · refine lv_iconst (v := iI 0) hx hb dX12_ice_30 (by decide) ?_
      refine lv_iconst (v := iI 1) hx hb dX12_ice_31 (by decide) ?_
      refine lv_iconst (v := iI 2) hx hb dX12_ice_32 (by decide) ?_
      refine cjr_i [false, false, true, true] (fun pre9 => (va_runV (As := [vI 0, vI 1, vI 2]) (rest := []) ⟨hx, hb, hml, hown, hts⟩ (m_may l hl D cy sa mm m1 m9 m10 m11 m12 m13 m14 m15 m19 m20 m21 m23 m24 m25 m26 m27 m28 m33 m35 0 tp sz_ ap bad bk opn fp im nr nl sp_ wtc wcl ir ip shu sfa swr f1 0 1 2 H.size (by show ((-2147483648) : Int) ≤ 0 ∧ (0 : Int) ≤ 2147483647; decide) (by first | exact hr_tp | omega) (by first | exact hr_sz_ | omega) (by first | exact hr_ap | omega) (by first | exact hr_bad | omega) (by first | exact hr_bk | omega) (by first | exact hr_opn | omega) (by first | exact hr_fp | omega) (by first | exact hr_im | omega) (by first | exact hr_nr | omega) (by first | exact hr_nl | omega) (by first | exact hr_sp_ | omega) (by first | exact hr_wtc | omega) (by first | exact hr_wcl | omega) (by first | exact hr_ir | omega) (by first | exact hr_ip | omega) (by first | exact hr_shu | omega) (by first | exact hr_sfa | omega) (by first | exact hr_swr | omega) (by show (0 : Int) ≤ 0 ∧ (0 : Int) ≤ 1; decide) (by show (1 : Int) ≤ 1 ∧ (1 : Int) ≤ 4; decide) (by show (0 : Int) ≤ 2 ∧ (2 : Int) ≤ 3; decide)) (cwV 3 hts gg_2 rfl rfl rfl (by decide +kernel) ⟨Nat.le_of_ble_eq_true rfl, Nat.le_of_ble_eq_true rfl⟩) ⟨pcW.blind, (va_recv hG.1 hP (ci := 12) (q0 := 0) rfl rfl), pre9⟩ rfl rfl hlv.1 rfl (lv_room (Nat.le_of_ble_eq_true rfl)) dX12_ice_33 ⟨Nat.le_of_ble_eq_true rfl, Nat.le_of_ble_eq_true rfl⟩)) hP hD hS hA hG hT [0, 1] rfl (by decide +kernel) (fun r4 u4 H locs hw4 hq9 hS => ?_)
      obtain ⟨rfl, hq4_1, hq4_2, hq4_3, hq4_4⟩ := hw4
      obtain ⟨hP, hD⟩ := pd9 [zI m10 (cy 0) 68 f10, zI m12 (cy 0) 389 f12, zO mm 12 [vI (u4.2.1 1), vR m1, vI tp, vI sz_, vI ap, vI bad, vI bk, vI opn, vI fp, vR m9, vR m10, vR m11, vR m12, vR m13, vR m14, vR m15, vI im, vI nr, vI nl, vR m19, vR m20, vR m21, vI sp_, vR m23, vR m24, vR m25, vR m26, vR m27, vR m28, vI wtc, vI wcl, vI ir, vI ip, vR m33, vI shu, vR m35, vI sfa, vI swr], zI m1 (cy 0) 4 (u4.2.2 0)] hq9
      refine lt_i (y := iI 0) (by rw [show (u4.2.1 0) = 0 by omega]) ?_
      refine iz_ne (tgt := 41) hx hb dX12_ice_36 (by decide) (by show ((-2147483648) : Int) ≤ 0 ∧ (0 : Int) ≤ 2147483647; decide) (fun c_4 => by exfalso; omega) (fun c_4 => ?_)
      refine lv_iconst (v := iI 0) hx hb dX12_ice_39 (by decide) ?_
      refine W.widen (k := 0) (n := 0) (Nat.le_of_ble_eq_true rfl) (Nat.le_of_ble_eq_true rfl) ?_
      exact W.iret (v := iI 0) hx hb hr (fun t ht hW => ⟨⟨iI 0, ((fun k => ([] : List Nat).getD k 0), (fun k => ([0, (u4.2.1 1)] : List Int).getD k 0), (fun k => ([(u4.2.2 0)] : List (Nat → Int32)).getD k (fun _ => 0))), rfl, ⟨rfl, (by show ((-2147483648) ≤ (u4.2.1 1) ∧ (u4.2.1 1) ≤ 2147483647); first | exact hq4_1 | omega), (by show ((-2147483648) ≤ 0 ∧ 0 ≤ 2147483647); show ((-2147483648) : Int) ≤ 0 ∧ (0 : Int) ≤ 2147483647; decide), hf10, hf12⟩, at9 ht hP hD [2, 3, 0, 1] (by decide +kernel) rfl⟩, hS.F ht⟩) hS.2.2 dX12_ice_40
    · refine lv_iconst (v := iI 1) hx hb dX12_ice_26 (by decide) ?_
      refine lv_goto (tgt := 31) hx hb dX12_ice_27 (by decide) ?_
      refine lv_iconst (v := iI 1) hx hb dX12_ice_31 (by decide) ?_
      refine lv_iconst (v := iI 2) hx hb dX12_ice_32 (by decide) ?_
      refine cjr_i [false, false, true, true] (fun pre9 => (va_runV (As := [vI 1, vI 1, vI 2]) (rest := []) ⟨hx, hb, hml, hown, hts⟩ (m_may l hl D cy sa mm m1 m9 m10 m11 m12 m13 m14 m15 m19 m20 m21 m23 m24 m25 m26 m27 m28 m33 m35 0 tp sz_ ap bad bk opn fp im nr nl sp_ wtc wcl ir ip shu sfa swr f1 1 1 2 H.size (by show ((-2147483648) : Int) ≤ 0 ∧ (0 : Int) ≤ 2147483647; decide) (by first | exact hr_tp | omega) (by first | exact hr_sz_ | omega) (by first | exact hr_ap | omega) (by first | exact hr_bad | omega) (by first | exact hr_bk | omega) (by first | exact hr_opn | omega) (by first | exact hr_fp | omega) (by first | exact hr_im | omega) (by first | exact hr_nr | omega) (by first | exact hr_nl | omega) (by first | exact hr_sp_ | omega) (by first | exact hr_wtc | omega) (by first | exact hr_wcl | omega) (by first | exact hr_ir | omega) (by first | exact hr_ip | omega) (by first | exact hr_shu | omega) (by first | exact hr_sfa | omega) (by first | exact hr_swr | omega) (by show (0 : Int) ≤ 1 ∧ (1 : Int) ≤ 1; decide) (by show (1 : Int) ≤ 1 ∧ (1 : Int) ≤ 4; decide) (by show (0 : Int) ≤ 2 ∧ (2 : Int) ≤ 3; decide)) (cwV 3 hts gg_2 rfl rfl rfl (by decide +kernel) ⟨Nat.le_of_ble_eq_true rfl, Nat.le_of_ble_eq_true rfl⟩) ⟨pcW.blind, (va_recv hG.1 hP (ci := 12) (q0 := 0) rfl rfl), pre9⟩ rfl rfl hlv.1 rfl (lv_room (Nat.le_of_ble_eq_true rfl)) dX12_ice_33 ⟨Nat.le_of_ble_eq_true rfl, Nat.le_of_ble_eq_true rfl⟩)) hP hD hS hA hG hT [0, 1] rfl (by decide +kernel) (fun r5 u5 H locs hw5 hq9 hS => ?_)
      obtain ⟨rfl, hq5_1, hq5_2, hq5_3, hq5_4⟩ := hw5
      obtain ⟨hP, hD⟩ := pd9 [zI m10 (cy 0) 68 f10, zI m12 (cy 0) 389 f12, zO mm 12 [vI (u5.2.1 1), vR m1, vI tp, vI sz_, vI ap, vI bad, vI bk, vI opn, vI fp, vR m9, vR m10, vR m11, vR m12, vR m13, vR m14, vR m15, vI im, vI nr, vI nl, vR m19, vR m20, vR m21, vI sp_, vR m23, vR m24, vR m25, vR m26, vR m27, vR m28, vI wtc, vI wcl, vI ir, vI ip, vR m33, vI shu, vR m35, vI sfa, vI swr], zI m1 (cy 0) 4 (u5.2.2 0)] hq9
      refine lt_i (y := iI 1) (by rw [show (u5.2.1 0) = 1 by omega]) ?_
      refine iz_ne (tgt := 41) hx hb dX12_ice_36 (by decide) (by show ((-2147483648) : Int) ≤ 1 ∧ (1 : Int) ≤ 2147483647; decide) (fun c_5 => ?_) (fun c_5 => by exfalso; omega)
      refine lv_iconst (v := iI 0) hx hb dX12_ice_41 (by decide) ?_
      refine lv_istore_n (lv' := [(3, vI 0), (0, vR mm), (1, vI n), (2, vI k)]) hx hb dX12_ice_42 rfl hlv (by decide) rfl (fun ls hlv => ?_)
      refine lv_iconst (v := iI 0) hx hb dX12_ice_43 (by decide) ?_
      refine lv_istore (lv' := [(4, vI 0), (3, vI 0), (0, vR mm), (1, vI n), (2, vI k)]) hx hb dX12_ice_44 hlv (by decide) rfl (fun ls hlv => ?_)
      refine lv_iconst (v := iI 0) hx hb dX12_ice_46 (by decide) ?_
      refine lv_istore (lv' := [(5, vI 0), (4, vI 0), (3, vI 0), (0, vR mm), (1, vI n), (2, vI k)]) hx hb dX12_ice_47 hlv (by decide) rfl (fun ls hlv => ?_)
      refine lv_iconst (v := iI 0) hx hb dX12_ice_49 (by decide) ?_
      refine lv_istore (lv' := [(6, vI 0), (5, vI 0), (4, vI 0), (3, vI 0), (0, vR mm), (1, vI n), (2, vI k)]) hx hb dX12_ice_50 hlv (by decide) rfl (fun ls hlv => ?_)
      refine (?_ : ∀ (fu : Nat) (q3 : Int) (q4 : Int) (q5 : Int) (q6 : Int) (H : Heap) (locs : List Loc) (ls : Array Slot), 6 - q6 < (fu : Int) → (0 ≤ q3 ∧ q3 ≤ 96) → (0 ≤ q4 ∧ q4 ≤ 16) → ((-2147483648) ≤ q5 ∧ q5 ≤ 2147483647) → (0 ≤ q6 ∧ q6 ≤ 6) → (q3 ≤ 16 * q6) → va_P D vwCl [zI m10 (cy 0) 68 f10, zI m12 (cy 0) 389 f12, zO mm 12 [vI (u5.2.1 1), vR m1, vI tp, vI sz_, vI ap, vI bad, vI bk, vI opn, vI fp, vR m9, vR m10, vR m11, vR m12, vR m13, vR m14, vR m15, vI im, vI nr, vI nl, vR m19, vR m20, vR m21, vI sp_, vR m23, vR m24, vR m25, vR m26, vR m27, vR m28, vI wtc, vI wcl, vI ir, vI ip, vR m33, vI shu, vR m35, vI sfa, vI swr], zI m1 (cy 0) 4 (u5.2.2 0)] H → va_D A [zI m10 (cy 0) 68 f10, zI m12 (cy 0) 389 f12, zO mm 12 [vI (u5.2.1 1), vR m1, vI tp, vI sz_, vI ap, vI bad, vI bk, vI opn, vI fp, vR m9, vR m10, vR m11, vR m12, vR m13, vR m14, vR m15, vI im, vI nr, vI nl, vR m19, vR m20, vR m21, vI sp_, vR m23, vR m24, vR m25, vR m26, vR m27, vR m28, vI wtc, vI wcl, vI ir, vI ip, vR m33, vI shu, vR m35, vI sfa, vI swr], zI m1 (cy 0) 4 (u5.2.2 0)] → va_S A s.heap H locs → lv_has ls 10 [(6, vI q6), (5, vI q5), (4, vI q4), (3, vI q3), (0, vR mm), (1, vI n), (2, vI k)] → W p l e _ s m _ below meth c H locs _ _ _ (F0 m 52 ls [])) (((6 - 0) + 1 : Int)).toNat 0 0 0 0 _ _ _ (by omega) (by show (0 : Int) ≤ 0 ∧ (0 : Int) ≤ 96; decide) (by show (0 : Int) ≤ 0 ∧ (0 : Int) ≤ 16; decide) (by show ((-2147483648) : Int) ≤ 0 ∧ (0 : Int) ≤ 2147483647; decide) (by show (0 : Int) ≤ 0 ∧ (0 : Int) ≤ 6; decide) (by omega)  hP hD hS hlv
      clear hP hD hS hlv
      intro fu
      induction fu with
      | zero => intro q3 q4 q5 q6 H locs ls hm52 hl52_0 hl52_1 hl52_2 hl52_3 hl52_4  hP hD hS hlv; omega
      | succ fu ih52 =>
        intro q3 q4 q5 q6 H locs ls hm52 hl52_0 hl52_1 hl52_2 hl52_3 hl52_4  hP hD hS hlv
        refine lv_iload hx hb dX12_ice_52 (lv_at hlv 0 rfl) ?_
        refine lv_aload_n hx hb dX12_ice_54 rfl (lv_at hlv 4 rfl) ?_
        refine va_get (D := D) (ci := 12) (v := vR m10) (C := RX12) (T := TX12) (N := 38) hx hb hts hi12 hown hG.1 hP 2 rfl rfl 10 (by decide) lf23 (fun _ h9 => h9) rfl dX12_ice_55 ?_
        refine lv_iconst (v := iI 1) hx hb dX12_ice_58 (by decide) ?_
        refine va_iald hx hb hG.1 hP 0 0 rfl rfl (iI_in (by omega) (by decide)) dX12_ice_59 ?_
        refine lt_nz (i := 1) (by omega) (fun z_6 hz_6 lz_6 uz_6 => ?_)
        have hz_6 : z_6 = nz f10 1 := hz_6
        have hbz_6_7 := hf10.1.2.1
        have hbz_6_8 := hf10.2.1
        have hbz_6_9 := hf10.2.2
        refine ir_ge (tgt := 187) hx hb dX12_ice_60 (by decide) (by first | exact rgw hl52_3 (by decide) (by decide) | omega) (by omega) (fun c_7 => ?_) (fun c_7 => ?_)
        · refine lv_iload_n hx hb dX12_ice_187 rfl (lv_at hlv 6 rfl) ?_
          refine iz_ne (tgt := 195) hx hb dX12_ice_188 (by decide) (by first | exact hr_k | omega) (fun c_8 => ?_) (fun c_8 => ?_)
          · refine lv_iload_n hx hb dX12_ice_195 rfl (lv_at hlv 6 rfl) ?_
            refine lv_iconst (v := iI 1) hx hb dX12_ice_196 (by decide) ?_
            refine ir_ne (tgt := 205) hx hb dX12_ice_197 (by decide) (by first | exact hr_k | omega) (by show ((-2147483648) : Int) ≤ 1 ∧ (1 : Int) ≤ 2147483647; decide) (fun c_9 => ?_) (fun c_9 => ?_)
            · refine lv_iload hx hb dX12_ice_205 (lv_at hlv 1 rfl) ?_
              refine W.widen (k := 0) (n := 0) (Nat.le_of_ble_eq_true rfl) (Nat.le_of_ble_eq_true rfl) ?_
              exact W.iret (v := iI q5) hx hb hr (fun t ht hW => ⟨⟨iI q5, ((fun k => ([] : List Nat).getD k 0), (fun k => ([q5, (u5.2.1 1)] : List Int).getD k 0), (fun k => ([(u5.2.2 0)] : List (Nat → Int32)).getD k (fun _ => 0))), rfl, ⟨rfl, (by show ((-2147483648) ≤ (u5.2.1 1) ∧ (u5.2.1 1) ≤ 2147483647); first | exact hq5_1 | omega), (by show ((-2147483648) ≤ q5 ∧ q5 ≤ 2147483647); first | exact hl52_2 | omega), hf10, hf12⟩, at9 ht hP hD [2, 3, 0, 1] (by decide +kernel) rfl⟩, hS.F ht⟩) hS.2.2 dX12_ice_207
            · refine lv_iload hx hb dX12_ice_200 (lv_at hlv 2 rfl) ?_
              refine lv_goto (tgt := 207) hx hb dX12_ice_202 (by decide) ?_
              refine W.widen (k := 0) (n := 0) (Nat.le_of_ble_eq_true rfl) (Nat.le_of_ble_eq_true rfl) ?_
              exact W.iret (v := iI q4) hx hb hr (fun t ht hW => ⟨⟨iI q4, ((fun k => ([] : List Nat).getD k 0), (fun k => ([q4, (u5.2.1 1)] : List Int).getD k 0), (fun k => ([(u5.2.2 0)] : List (Nat → Int32)).getD k (fun _ => 0))), rfl, ⟨rfl, (by show ((-2147483648) ≤ (u5.2.1 1) ∧ (u5.2.1 1) ≤ 2147483647); first | exact hq5_1 | omega), (by show ((-2147483648) ≤ q4 ∧ q4 ≤ 2147483647); first | exact rgw hl52_1 (by decide) (by decide) | omega), hf10, hf12⟩, at9 ht hP hD [2, 3, 0, 1] (by decide +kernel) rfl⟩, hS.F ht⟩) hS.2.2 dX12_ice_207
          · refine lv_iload_n hx hb dX12_ice_191 rfl (lv_at hlv 3 rfl) ?_
            refine lv_goto (tgt := 207) hx hb dX12_ice_192 (by decide) ?_
            refine W.widen (k := 0) (n := 0) (Nat.le_of_ble_eq_true rfl) (Nat.le_of_ble_eq_true rfl) ?_
            exact W.iret (v := iI q3) hx hb hr (fun t ht hW => ⟨⟨iI q3, ((fun k => ([] : List Nat).getD k 0), (fun k => ([q3, (u5.2.1 1)] : List Int).getD k 0), (fun k => ([(u5.2.2 0)] : List (Nat → Int32)).getD k (fun _ => 0))), rfl, ⟨rfl, (by show ((-2147483648) ≤ (u5.2.1 1) ∧ (u5.2.1 1) ≤ 2147483647); first | exact hq5_1 | omega), (by show ((-2147483648) ≤ q3 ∧ q3 ≤ 2147483647); first | exact rgw hl52_0 (by decide) (by decide) | omega), hf10, hf12⟩, at9 ht hP hD [2, 3, 0, 1] (by decide +kernel) rfl⟩, hS.F ht⟩) hS.2.2 dX12_ice_207
        · refine lv_iconst (v := iI 0) hx hb dX12_ice_63 (by decide) ?_
          refine lv_istore (lv' := [(7, vI 0), (6, vI q6), (5, vI q5), (4, vI q4), (3, vI q3), (0, vR mm), (1, vI n), (2, vI k)]) hx hb dX12_ice_64 hlv (by decide) rfl (fun ls hlv => ?_)
          refine lv_iconst (v := iI 0) hx hb dX12_ice_66 (by decide) ?_
          refine lv_istore (lv' := [(8, vI 0), (7, vI 0), (6, vI q6), (5, vI q5), (4, vI q4), (3, vI q3), (0, vR mm), (1, vI n), (2, vI k)]) hx hb dX12_ice_67 hlv (by decide) rfl (fun ls hlv => ?_)
          refine (?_ : ∀ (fu : Nat) (r3 : Int) (r4 : Int) (r5 : Int) (r7 : Int) (r8 : Int) (H : Heap) (locs : List Loc) (ls : Array Slot), 16 - r8 < (fu : Int) → (0 ≤ r3 ∧ r3 ≤ 96) → (0 ≤ r4 ∧ r4 ≤ 16) → ((-2147483648) ≤ r5 ∧ r5 ≤ 2147483647) → (0 ≤ r7 ∧ r7 ≤ 16) → (0 ≤ r8 ∧ r8 ≤ 16) → (r3 ≤ 16 * q6 + r8) → (r7 ≤ r8) → va_P D vwCl [zI m10 (cy 0) 68 f10, zI m12 (cy 0) 389 f12, zO mm 12 [vI (u5.2.1 1), vR m1, vI tp, vI sz_, vI ap, vI bad, vI bk, vI opn, vI fp, vR m9, vR m10, vR m11, vR m12, vR m13, vR m14, vR m15, vI im, vI nr, vI nl, vR m19, vR m20, vR m21, vI sp_, vR m23, vR m24, vR m25, vR m26, vR m27, vR m28, vI wtc, vI wcl, vI ir, vI ip, vR m33, vI shu, vR m35, vI sfa, vI swr], zI m1 (cy 0) 4 (u5.2.2 0)] H → va_D A [zI m10 (cy 0) 68 f10, zI m12 (cy 0) 389 f12, zO mm 12 [vI (u5.2.1 1), vR m1, vI tp, vI sz_, vI ap, vI bad, vI bk, vI opn, vI fp, vR m9, vR m10, vR m11, vR m12, vR m13, vR m14, vR m15, vI im, vI nr, vI nl, vR m19, vR m20, vR m21, vI sp_, vR m23, vR m24, vR m25, vR m26, vR m27, vR m28, vI wtc, vI wcl, vI ir, vI ip, vR m33, vI shu, vR m35, vI sfa, vI swr], zI m1 (cy 0) 4 (u5.2.2 0)] → va_S A s.heap H locs → lv_has ls 10 [(8, vI r8), (7, vI r7), (6, vI q6), (5, vI r5), (4, vI r4), (3, vI r3), (0, vR mm), (1, vI n), (2, vI k)] → W p l e _ s m _ below meth c H locs _ _ _ (F0 m 69 ls [])) (((16 - 0) + 1 : Int)).toNat q3 q4 q5 0 0 _ _ _ (by omega) (by first | exact hl52_0 | omega) (by first | exact hl52_1 | omega) (by first | exact hl52_2 | omega) (by show (0 : Int) ≤ 0 ∧ (0 : Int) ≤ 16; decide) (by show (0 : Int) ≤ 0 ∧ (0 : Int) ≤ 16; decide) (by omega) (by omega)  hP hD hS hlv
          clear hP hD hS hlv
          intro fu
          induction fu with
          | zero => intro r3 r4 r5 r7 r8 H locs ls hm69 hl69_0 hl69_1 hl69_2 hl69_3 hl69_4 hl69_5 hl69_6  hP hD hS hlv; omega
          | succ fu ih69 =>
            intro r3 r4 r5 r7 r8 H locs ls hm69 hl69_0 hl69_1 hl69_2 hl69_3 hl69_4 hl69_5 hl69_6  hP hD hS hlv
            refine lv_iload hx hb dX12_ice_69 (lv_at hlv 0 rfl) ?_
            refine lv_aload_n hx hb dX12_ice_71 rfl (lv_at hlv 6 rfl) ?_
            refine va_get (D := D) (ci := 12) (v := vR m10) (C := RX12) (T := TX12) (N := 38) hx hb hts hi12 hown hG.1 hP 2 rfl rfl 10 (by decide) lf23 (fun _ h9 => h9) rfl dX12_ice_72 ?_
            refine lv_iconst (v := iI 0) hx hb dX12_ice_75 (by decide) ?_
            refine va_iald hx hb hG.1 hP 0 0 rfl rfl (iI_in (by omega) (by decide)) dX12_ice_76 ?_
            refine lt_nz (i := 0) (by omega) (fun z_10 hz_10 lz_10 uz_10 => ?_)
            have hz_10 : z_10 = nz f10 0 := hz_10
            have hbz_10_7 := hf10.1.1
            have hbz_10_8 := hf10.2.1
            have hbz_10_9 := hf10.2.2
            refine ir_ge (tgt := 181) hx hb dX12_ice_77 (by decide) (by first | exact rgw hl69_4 (by decide) (by decide) | omega) (by omega) (fun c_11 => ?_) (fun c_11 => ?_)
            · obtain ⟨z_12, hz_12⟩ : ∃ z : Int, z = q6 + 1 := ⟨_, rfl⟩
              refine lv_iinc (v := iI z_12) (lv' := [(6, vI z_12), (8, vI r8), (7, vI r7), (5, vI r5), (4, vI r4), (3, vI r3), (0, vR mm), (1, vI n), (2, vI k)]) hx hb dX12_ice_181 hlv (k := 2) rfl (by rw [hz_12]; exact (Int32.ofInt_add _ _).symm) (by decide) rfl (fun ls hlv => ?_)
              refine lv_goto (tgt := 52) hx hb dX12_ice_184 (by decide) ?_
              exact ih52 r3 r4 r5 z_12 H locs ls (by omega) (by first | exact hl69_0 | omega) (by first | exact hl69_1 | omega) (by first | exact hl69_2 | omega) (by omega) (by omega)  (hP.sub [0, 1, 2, 3] rfl) (hD.sub [0, 1, 2, 3] (by decide) rfl) hS (lv_sub hlv [0, 3, 4, 5, 6, 7, 8] rfl)
            · refine lv_aload_n hx hb dX12_ice_80 rfl (lv_at hlv 6 rfl) ?_
              refine va_get (D := D) (ci := 12) (v := vR m12) (C := RX12) (T := TX12) (N := 38) hx hb hts hi12 hown hG.1 hP 2 rfl rfl 12 (by decide) lf29 (fun _ h9 => h9) rfl dX12_ice_81 ?_
              refine lv_bipush (v := iI 96) hx hb dX12_ice_84 (by decide) ?_
              refine lv_iload hx hb dX12_ice_86 (lv_at hlv 0 rfl) ?_
              refine lv_iload hx hb dX12_ice_88 (lv_at hlv 2 rfl) ?_
              refine cjr_i [true, true, true, true] (fun pre9 => (va_runS (As := [vI r8, vI q6]) (rest := [vI 96, vR m12]) ⟨hx, hb, hml, hown, hts⟩ (m_at l hl D cy sa r8 q6 H.size (by omega) (by omega)) (va_cwS 2 hts gg_3 rfl rfl rfl (by decide +kernel) ⟨Nat.le_of_ble_eq_true rfl, Nat.le_of_ble_eq_true rfl⟩) ⟨pcW.blind, pre9⟩ rfl rfl hlv.1 rfl (lv_room (Nat.le_of_ble_eq_true rfl)) dX12_ice_90 ⟨Nat.le_of_ble_eq_true rfl, Nat.le_of_ble_eq_true rfl⟩)) hP hD hS hA hG hT [] rfl (by decide +kernel) (fun r6 u6 H locs hw6 hq9 hS => ?_)
              obtain ⟨rfl, hq6_1, hq6_2⟩ := hw6
              obtain ⟨hP, hD⟩ := pd9 [zI m10 (cy 0) 68 f10, zI m12 (cy 0) 389 f12, zO mm 12 [vI (u5.2.1 1), vR m1, vI tp, vI sz_, vI ap, vI bad, vI bk, vI opn, vI fp, vR m9, vR m10, vR m11, vR m12, vR m13, vR m14, vR m15, vI im, vI nr, vI nl, vR m19, vR m20, vR m21, vI sp_, vR m23, vR m24, vR m25, vR m26, vR m27, vR m28, vI wtc, vI wcl, vI ir, vI ip, vR m33, vI shu, vR m35, vI sfa, vI swr], zI m1 (cy 0) 4 (u5.2.2 0)] hq9
              refine lv_iadd hx hb dX12_ice_93 ?_
              refine lt_e (e0 := 96 + (u6.2.1 0)) (Int32.ofInt_add _ _).symm (fun z_13 hz_13 => ?_)
              refine va_iald hx hb hG.1 hP 1 0 rfl rfl (iI_in (by omega) (by decide)) dX12_ice_94 ?_
              refine lt_nz (i := z_13) (by omega) (fun z_14 hz_14 lz_14 uz_14 => ?_)
              refine lv_iload_n hx hb dX12_ice_95 rfl (lv_at hlv 7 rfl) ?_
              refine ir_lt (tgt := 103) hx hb dX12_ice_96 (by decide) (by omega) (by first | exact hr_n | omega) (fun c_15 => ?_) (fun c_15 => ?_)
              · refine lv_iconst (v := iI 0) hx hb dX12_ice_103 (by decide) ?_
                refine lv_istore (lv' := [(9, vI 0), (8, vI r8), (7, vI r7), (6, vI q6), (5, vI r5), (4, vI r4), (3, vI r3), (0, vR mm), (1, vI n), (2, vI k)]) hx hb dX12_ice_104 hlv (by decide) rfl (fun ls hlv => ?_)
                refine jn (α := Int × Int × Int × Int) (fun a H locs g => ∃ ls : Array Slot, g = F0 m 175 ls [] ∧ (0 ≤ (a.1) ∧ (a.1) ≤ 96) ∧ (0 ≤ (a.2.1) ∧ (a.2.1) ≤ 16) ∧ ((-2147483648) ≤ (a.2.2.1) ∧ (a.2.2.1) ≤ 2147483647) ∧ (0 ≤ (a.2.2.2) ∧ (a.2.2.2) ≤ 16) ∧ ((a.1) ≤ r3 + 1) ∧ ((a.2.2.2) ≤ r8 + 1) ∧ va_P D vwCl [zI m10 (cy 0) 68 f10, zI m12 (cy 0) 389 f12, zO mm 12 [vI (u5.2.1 1), vR m1, vI tp, vI sz_, vI ap, vI bad, vI bk, vI opn, vI fp, vR m9, vR m10, vR m11, vR m12, vR m13, vR m14, vR m15, vI im, vI nr, vI nl, vR m19, vR m20, vR m21, vI sp_, vR m23, vR m24, vR m25, vR m26, vR m27, vR m28, vI wtc, vI wcl, vI ir, vI ip, vR m33, vI shu, vR m35, vI sfa, vI swr], zI m1 (cy 0) 4 (u5.2.2 0)] H ∧ va_D A [zI m10 (cy 0) 68 f10, zI m12 (cy 0) 389 f12, zO mm 12 [vI (u5.2.1 1), vR m1, vI tp, vI sz_, vI ap, vI bad, vI bk, vI opn, vI fp, vR m9, vR m10, vR m11, vR m12, vR m13, vR m14, vR m15, vI im, vI nr, vI nl, vR m19, vR m20, vR m21, vI sp_, vR m23, vR m24, vR m25, vR m26, vR m27, vR m28, vI wtc, vI wcl, vI ir, vI ip, vR m33, vI shu, vR m35, vI sfa, vI swr], zI m1 (cy 0) 4 (u5.2.2 0)] ∧ va_S A s.heap H locs ∧ lv_has ls 10 [(7, vI (a.2.2.2)), (5, vI (a.2.2.1)), (4, vI (a.2.1)), (3, vI (a.1)), (8, vI r8), (6, vI q6), (0, vR mm), (1, vI n), (2, vI k)]) (fun a H locs g hj => ?_) (fun jn175 => ?_)
                · obtain ⟨ls, rfl, hj175_0, hj175_1, hj175_2, hj175_3, hj175_4, hj175_5, hP, hD, hS, hlv⟩ := hj
                  obtain ⟨j3, j4, j5, j7⟩ := a
                  have hj175_0 : (0 ≤ j3 ∧ j3 ≤ 96) := hj175_0
                  have hj175_1 : (0 ≤ j4 ∧ j4 ≤ 16) := hj175_1
                  have hj175_2 : ((-2147483648) ≤ j5 ∧ j5 ≤ 2147483647) := hj175_2
                  have hj175_3 : (0 ≤ j7 ∧ j7 ≤ 16) := hj175_3
                  have hj175_4 : (j3 ≤ r3 + 1) := hj175_4
                  have hj175_5 : (j7 ≤ r8 + 1) := hj175_5
                  have hP : va_P D vwCl [zI m10 (cy 0) 68 f10, zI m12 (cy 0) 389 f12, zO mm 12 [vI (u5.2.1 1), vR m1, vI tp, vI sz_, vI ap, vI bad, vI bk, vI opn, vI fp, vR m9, vR m10, vR m11, vR m12, vR m13, vR m14, vR m15, vI im, vI nr, vI nl, vR m19, vR m20, vR m21, vI sp_, vR m23, vR m24, vR m25, vR m26, vR m27, vR m28, vI wtc, vI wcl, vI ir, vI ip, vR m33, vI shu, vR m35, vI sfa, vI swr], zI m1 (cy 0) 4 (u5.2.2 0)] H := hP
                  have hD : va_D A [zI m10 (cy 0) 68 f10, zI m12 (cy 0) 389 f12, zO mm 12 [vI (u5.2.1 1), vR m1, vI tp, vI sz_, vI ap, vI bad, vI bk, vI opn, vI fp, vR m9, vR m10, vR m11, vR m12, vR m13, vR m14, vR m15, vI im, vI nr, vI nl, vR m19, vR m20, vR m21, vI sp_, vR m23, vR m24, vR m25, vR m26, vR m27, vR m28, vI wtc, vI wcl, vI ir, vI ip, vR m33, vI shu, vR m35, vI sfa, vI swr], zI m1 (cy 0) 4 (u5.2.2 0)] := hD
                  have hlv : lv_has ls 10 [(7, vI j7), (5, vI j5), (4, vI j4), (3, vI j3), (8, vI r8), (6, vI q6), (0, vR mm), (1, vI n), (2, vI k)] := hlv
                  obtain ⟨z_16, hz_16⟩ : ∃ z : Int, z = r8 + 1 := ⟨_, rfl⟩
                  refine lv_iinc (v := iI z_16) (lv' := [(8, vI z_16), (7, vI j7), (5, vI j5), (4, vI j4), (3, vI j3), (6, vI q6), (0, vR mm), (1, vI n), (2, vI k)]) hx hb dX12_ice_175 hlv (k := 4) rfl (by rw [hz_16]; exact (Int32.ofInt_add _ _).symm) (by decide) rfl (fun ls hlv => ?_)
                  refine lv_goto (tgt := 69) hx hb dX12_ice_178 (by decide) ?_
                  exact ih69 j3 j4 j5 j7 z_16 H locs ls (by omega) (by first | exact hj175_0 | omega) (by first | exact hj175_1 | omega) (by first | exact hj175_2 | omega) (by first | exact hj175_3 | omega) (by omega) (by omega) (by omega)  (hP.sub [0, 1, 2, 3] rfl) (hD.sub [0, 1, 2, 3] (by decide) rfl) hS (lv_sub hlv [0, 1, 5, 2, 3, 4, 6, 7, 8] rfl)
                · refine lv_iload_n hx hb dX12_ice_106 rfl (lv_at hlv 6 rfl) ?_
                  refine lv_iload hx hb dX12_ice_107 (lv_at hlv 0 rfl) ?_
                  refine iz_eq (tgt := 116) hx hb dX12_ice_109 (by decide) (by show ((-2147483648) : Int) ≤ 0 ∧ (0 : Int) ≤ 2147483647; decide) (fun c_17 => ?_) (fun c_17 => by exfalso; omega)
                  refine lv_iconst (v := iI 0) hx hb dX12_ice_116 (by decide) ?_
                  refine lv_iadd hx hb dX12_ice_117 ?_
                  refine lt_i (y := iI r3) (by rw [show iI r3 + iI 0 = iI (r3 + 0) from (Int32.ofInt_add _ _).symm, Int.add_zero]) ?_
                  refine lv_istore_n (lv' := [(3, vI r3), (9, vI 0), (8, vI r8), (7, vI r7), (6, vI q6), (5, vI r5), (4, vI r4), (0, vR mm), (1, vI n), (2, vI k)]) hx hb dX12_ice_118 rfl hlv (by decide) rfl (fun ls hlv => ?_)
                  refine lv_iload hx hb dX12_ice_119 (lv_at hlv 1 rfl) ?_
                  refine iz_eq (tgt := 131) hx hb dX12_ice_121 (by decide) (by show ((-2147483648) : Int) ≤ 0 ∧ (0 : Int) ≤ 2147483647; decide) (fun c_18 => ?_) (fun c_18 => by exfalso; omega)
                  refine lv_iconst (v := iI 0) hx hb dX12_ice_131 (by decide) ?_
                  refine lv_istore (lv' := [(7, vI 0), (3, vI r3), (9, vI 0), (8, vI r8), (6, vI q6), (5, vI r5), (4, vI r4), (0, vR mm), (1, vI n), (2, vI k)]) hx hb dX12_ice_132 hlv (by decide) rfl (fun ls hlv => ?_)
                  refine lv_iload hx hb dX12_ice_134 (lv_at hlv 0 rfl) ?_
                  refine lv_iload hx hb dX12_ice_136 (lv_at hlv 6 rfl) ?_
                  refine ir_le (tgt := 146) hx hb dX12_ice_138 (by decide) (by show ((-2147483648) : Int) ≤ 0 ∧ (0 : Int) ≤ 2147483647; decide) (by first | exact rgw hl69_1 (by decide) (by decide) | omega) (fun c_19 => ?_) (fun c_19 => by exfalso; omega)
                  refine lv_iload hx hb dX12_ice_146 (lv_at hlv 6 rfl) ?_
                  refine lv_istore (lv' := [(4, vI r4), (7, vI 0), (3, vI r3), (9, vI 0), (8, vI r8), (6, vI q6), (5, vI r5), (0, vR mm), (1, vI n), (2, vI k)]) hx hb dX12_ice_148 hlv (by decide) rfl (fun ls hlv => ?_)
                  refine lv_iload hx hb dX12_ice_150 (lv_at hlv 6 rfl) ?_
                  refine lv_iload hx hb dX12_ice_152 (lv_at hlv 3 rfl) ?_
                  refine iz_eq (tgt := 171) hx hb dX12_ice_154 (by decide) (by show ((-2147483648) : Int) ≤ 0 ∧ (0 : Int) ≤ 2147483647; decide) (fun c_20 => ?_) (fun c_20 => by exfalso; omega)
                  refine lv_iconst (v := iI 0) hx hb dX12_ice_171 (by decide) ?_
                  refine lv_iadd hx hb dX12_ice_172 ?_
                  refine lt_i (y := iI r5) (by rw [show iI r5 + iI 0 = iI (r5 + 0) from (Int32.ofInt_add _ _).symm, Int.add_zero]) ?_
                  refine lv_istore (lv' := [(5, vI r5), (4, vI r4), (7, vI 0), (3, vI r3), (9, vI 0), (8, vI r8), (6, vI q6), (0, vR mm), (1, vI n), (2, vI k)]) hx hb dX12_ice_173 hlv (by decide) rfl (fun ls hlv => ?_)
                  exact jn175 (r3, r4, r5, 0) _ _ _ ⟨_, rfl, (by show (0 : Int) ≤ r3 ∧ r3 ≤ 96; first | exact hl69_0 | omega), (by show (0 : Int) ≤ r4 ∧ r4 ≤ 16; first | exact hl69_1 | omega), (by show (-2147483648) ≤ r5 ∧ r5 ≤ 2147483647; first | exact hl69_2 | omega), (by show (0 : Int) ≤ 0 ∧ (0 : Int) ≤ 16; decide), (by show (r3 ≤ r3 + 1); omega), (by show (0 ≤ r8 + 1); omega), hP.sub [0, 1, 2, 3] rfl, hD.sub [0, 1, 2, 3] (by decide) rfl, hS, lv_sub hlv [2, 0, 1, 3, 5, 6, 7, 8, 9] rfl⟩
              · refine lv_iconst (v := iI 1) hx hb dX12_ice_99 (by decide) ?_
                refine lv_goto (tgt := 104) hx hb dX12_ice_100 (by decide) ?_
                refine lv_istore (lv' := [(9, vI 1), (8, vI r8), (7, vI r7), (6, vI q6), (5, vI r5), (4, vI r4), (3, vI r3), (0, vR mm), (1, vI n), (2, vI k)]) hx hb dX12_ice_104 hlv (by decide) rfl (fun ls hlv => ?_)
                refine jn (α := Int × Int × Int × Int) (fun a H locs g => ∃ ls : Array Slot, g = F0 m 175 ls [] ∧ (0 ≤ (a.1) ∧ (a.1) ≤ 96) ∧ (0 ≤ (a.2.1) ∧ (a.2.1) ≤ 16) ∧ ((-2147483648) ≤ (a.2.2.1) ∧ (a.2.2.1) ≤ 2147483647) ∧ (0 ≤ (a.2.2.2) ∧ (a.2.2.2) ≤ 16) ∧ ((a.1) ≤ r3 + 1) ∧ ((a.2.2.2) ≤ r8 + 1) ∧ va_P D vwCl [zI m10 (cy 0) 68 f10, zI m12 (cy 0) 389 f12, zO mm 12 [vI (u5.2.1 1), vR m1, vI tp, vI sz_, vI ap, vI bad, vI bk, vI opn, vI fp, vR m9, vR m10, vR m11, vR m12, vR m13, vR m14, vR m15, vI im, vI nr, vI nl, vR m19, vR m20, vR m21, vI sp_, vR m23, vR m24, vR m25, vR m26, vR m27, vR m28, vI wtc, vI wcl, vI ir, vI ip, vR m33, vI shu, vR m35, vI sfa, vI swr], zI m1 (cy 0) 4 (u5.2.2 0)] H ∧ va_D A [zI m10 (cy 0) 68 f10, zI m12 (cy 0) 389 f12, zO mm 12 [vI (u5.2.1 1), vR m1, vI tp, vI sz_, vI ap, vI bad, vI bk, vI opn, vI fp, vR m9, vR m10, vR m11, vR m12, vR m13, vR m14, vR m15, vI im, vI nr, vI nl, vR m19, vR m20, vR m21, vI sp_, vR m23, vR m24, vR m25, vR m26, vR m27, vR m28, vI wtc, vI wcl, vI ir, vI ip, vR m33, vI shu, vR m35, vI sfa, vI swr], zI m1 (cy 0) 4 (u5.2.2 0)] ∧ va_S A s.heap H locs ∧ lv_has ls 10 [(7, vI (a.2.2.2)), (5, vI (a.2.2.1)), (4, vI (a.2.1)), (3, vI (a.1)), (8, vI r8), (6, vI q6), (0, vR mm), (1, vI n), (2, vI k)]) (fun a H locs g hj => ?_) (fun jn175 => ?_)
                · obtain ⟨ls, rfl, hj175_0, hj175_1, hj175_2, hj175_3, hj175_4, hj175_5, hP, hD, hS, hlv⟩ := hj
                  obtain ⟨j3, j4, j5, j7⟩ := a
                  have hj175_0 : (0 ≤ j3 ∧ j3 ≤ 96) := hj175_0
                  have hj175_1 : (0 ≤ j4 ∧ j4 ≤ 16) := hj175_1
                  have hj175_2 : ((-2147483648) ≤ j5 ∧ j5 ≤ 2147483647) := hj175_2
                  have hj175_3 : (0 ≤ j7 ∧ j7 ≤ 16) := hj175_3
                  have hj175_4 : (j3 ≤ r3 + 1) := hj175_4
                  have hj175_5 : (j7 ≤ r8 + 1) := hj175_5
                  have hP : va_P D vwCl [zI m10 (cy 0) 68 f10, zI m12 (cy 0) 389 f12, zO mm 12 [vI (u5.2.1 1), vR m1, vI tp, vI sz_, vI ap, vI bad, vI bk, vI opn, vI fp, vR m9, vR m10, vR m11, vR m12, vR m13, vR m14, vR m15, vI im, vI nr, vI nl, vR m19, vR m20, vR m21, vI sp_, vR m23, vR m24, vR m25, vR m26, vR m27, vR m28, vI wtc, vI wcl, vI ir, vI ip, vR m33, vI shu, vR m35, vI sfa, vI swr], zI m1 (cy 0) 4 (u5.2.2 0)] H := hP
                  have hD : va_D A [zI m10 (cy 0) 68 f10, zI m12 (cy 0) 389 f12, zO mm 12 [vI (u5.2.1 1), vR m1, vI tp, vI sz_, vI ap, vI bad, vI bk, vI opn, vI fp, vR m9, vR m10, vR m11, vR m12, vR m13, vR m14, vR m15, vI im, vI nr, vI nl, vR m19, vR m20, vR m21, vI sp_, vR m23, vR m24, vR m25, vR m26, vR m27, vR m28, vI wtc, vI wcl, vI ir, vI ip, vR m33, vI shu, vR m35, vI sfa, vI swr], zI m1 (cy 0) 4 (u5.2.2 0)] := hD
                  have hlv : lv_has ls 10 [(7, vI j7), (5, vI j5), (4, vI j4), (3, vI j3), (8, vI r8), (6, vI q6), (0, vR mm), (1, vI n), (2, vI k)] := hlv
                  obtain ⟨z_21, hz_21⟩ : ∃ z : Int, z = r8 + 1 := ⟨_, rfl⟩
                  refine lv_iinc (v := iI z_21) (lv' := [(8, vI z_21), (7, vI j7), (5, vI j5), (4, vI j4), (3, vI j3), (6, vI q6), (0, vR mm), (1, vI n), (2, vI k)]) hx hb dX12_ice_175 hlv (k := 4) rfl (by rw [hz_21]; exact (Int32.ofInt_add _ _).symm) (by decide) rfl (fun ls hlv => ?_)
                  refine lv_goto (tgt := 69) hx hb dX12_ice_178 (by decide) ?_
                  exact ih69 j3 j4 j5 j7 z_21 H locs ls (by omega) (by first | exact hj175_0 | omega) (by first | exact hj175_1 | omega) (by first | exact hj175_2 | omega) (by first | exact hj175_3 | omega) (by omega) (by omega) (by omega)  (hP.sub [0, 1, 2, 3] rfl) (hD.sub [0, 1, 2, 3] (by decide) rfl) hS (lv_sub hlv [0, 1, 5, 2, 3, 4, 6, 7, 8] rfl)
                · refine lv_iload_n hx hb dX12_ice_106 rfl (lv_at hlv 6 rfl) ?_
                  refine lv_iload hx hb dX12_ice_107 (lv_at hlv 0 rfl) ?_
                  refine iz_eq (tgt := 116) hx hb dX12_ice_109 (by decide) (by show ((-2147483648) : Int) ≤ 1 ∧ (1 : Int) ≤ 2147483647; decide) (fun c_22 => by exfalso; omega) (fun c_22 => ?_)
                  refine lv_iconst (v := iI 1) hx hb dX12_ice_112 (by decide) ?_
                  refine lv_goto (tgt := 117) hx hb dX12_ice_113 (by decide) ?_
                  refine lv_iadd hx hb dX12_ice_117 ?_
                  refine lt_e (e0 := r3 + 1) (Int32.ofInt_add _ _).symm (fun z_23 hz_23 => ?_)
                  refine lv_istore_n (lv' := [(3, vI z_23), (9, vI 1), (8, vI r8), (7, vI r7), (6, vI q6), (5, vI r5), (4, vI r4), (0, vR mm), (1, vI n), (2, vI k)]) hx hb dX12_ice_118 rfl hlv (by decide) rfl (fun ls hlv => ?_)
                  refine lv_iload hx hb dX12_ice_119 (lv_at hlv 1 rfl) ?_
                  refine iz_eq (tgt := 131) hx hb dX12_ice_121 (by decide) (by show ((-2147483648) : Int) ≤ 1 ∧ (1 : Int) ≤ 2147483647; decide) (fun c_24 => by exfalso; omega) (fun c_24 => ?_)
                  refine lv_iload hx hb dX12_ice_124 (lv_at hlv 3 rfl) ?_
                  refine lv_iconst (v := iI 1) hx hb dX12_ice_126 (by decide) ?_
                  refine lv_iadd hx hb dX12_ice_127 ?_
                  refine lt_e (e0 := r7 + 1) (Int32.ofInt_add _ _).symm (fun z_25 hz_25 => ?_)
                  refine lv_goto (tgt := 132) hx hb dX12_ice_128 (by decide) ?_
                  refine lv_istore (lv' := [(7, vI z_25), (3, vI z_23), (9, vI 1), (8, vI r8), (6, vI q6), (5, vI r5), (4, vI r4), (0, vR mm), (1, vI n), (2, vI k)]) hx hb dX12_ice_132 hlv (by decide) rfl (fun ls hlv => ?_)
                  refine lv_iload hx hb dX12_ice_134 (lv_at hlv 0 rfl) ?_
                  refine lv_iload hx hb dX12_ice_136 (lv_at hlv 6 rfl) ?_
                  refine ir_le (tgt := 146) hx hb dX12_ice_138 (by decide) (by omega) (by first | exact rgw hl69_1 (by decide) (by decide) | omega) (fun c_26 => ?_) (fun c_26 => ?_)
                  · refine lv_iload hx hb dX12_ice_146 (lv_at hlv 6 rfl) ?_
                    refine lv_istore (lv' := [(4, vI r4), (7, vI z_25), (3, vI z_23), (9, vI 1), (8, vI r8), (6, vI q6), (5, vI r5), (0, vR mm), (1, vI n), (2, vI k)]) hx hb dX12_ice_148 hlv (by decide) rfl (fun ls hlv => ?_)
                    refine lv_iload hx hb dX12_ice_150 (lv_at hlv 6 rfl) ?_
                    refine lv_iload hx hb dX12_ice_152 (lv_at hlv 3 rfl) ?_
                    refine iz_eq (tgt := 171) hx hb dX12_ice_154 (by decide) (by show ((-2147483648) : Int) ≤ 1 ∧ (1 : Int) ≤ 2147483647; decide) (fun c_27 => by exfalso; omega) (fun c_27 => ?_)
                    refine lv_iload hx hb dX12_ice_157 (lv_at hlv 5 rfl) ?_
                    refine iz_ne (tgt := 171) hx hb dX12_ice_159 (by decide) (by first | exact rgw hl52_3 (by decide) (by decide) | omega) (fun c_28 => ?_) (fun c_28 => ?_)
                    · refine lv_iconst (v := iI 0) hx hb dX12_ice_171 (by decide) ?_
                      refine lv_iadd hx hb dX12_ice_172 ?_
                      refine lt_i (y := iI r5) (by rw [show iI r5 + iI 0 = iI (r5 + 0) from (Int32.ofInt_add _ _).symm, Int.add_zero]) ?_
                      refine lv_istore (lv' := [(5, vI r5), (4, vI r4), (7, vI z_25), (3, vI z_23), (9, vI 1), (8, vI r8), (6, vI q6), (0, vR mm), (1, vI n), (2, vI k)]) hx hb dX12_ice_173 hlv (by decide) rfl (fun ls hlv => ?_)
                      exact jn175 (z_23, r4, r5, z_25) _ _ _ ⟨_, rfl, (by show (0 : Int) ≤ z_23 ∧ z_23 ≤ 96; omega), (by show (0 : Int) ≤ r4 ∧ r4 ≤ 16; first | exact hl69_1 | omega), (by show (-2147483648) ≤ r5 ∧ r5 ≤ 2147483647; first | exact hl69_2 | omega), (by show (0 : Int) ≤ z_25 ∧ z_25 ≤ 16; omega), (by show (z_23 ≤ r3 + 1); omega), (by show (z_25 ≤ r8 + 1); omega), hP.sub [0, 1, 2, 3] rfl, hD.sub [0, 1, 2, 3] (by decide) rfl, hS, lv_sub hlv [2, 0, 1, 3, 5, 6, 7, 8, 9] rfl⟩
                    · refine lv_aload_n hx hb dX12_ice_162 rfl (lv_at hlv 7 rfl) ?_
                      refine lv_iload hx hb dX12_ice_163 (lv_at hlv 4 rfl) ?_
                      refine cjr_i [true, false, false, true] (fun pre9 => (va_runV (As := [vI r8]) (rest := [vI r5]) ⟨hx, hb, hml, hown, hts⟩ (m_peopleAt l hl D cy sa mm m1 m9 m10 m11 m12 m13 m14 m15 m19 m20 m21 m23 m24 m25 m26 m27 m28 m33 m35 (u5.2.1 1) tp sz_ ap bad bk opn fp im nr nl sp_ wtc wcl ir ip shu sfa swr f12 r8 8 H.size (by first | exact hq5_1 | omega) (by first | exact hr_tp | omega) (by first | exact hr_sz_ | omega) (by first | exact hr_ap | omega) (by first | exact hr_bad | omega) (by first | exact hr_bk | omega) (by first | exact hr_opn | omega) (by first | exact hr_fp | omega) (by first | exact hr_im | omega) (by first | exact hr_nr | omega) (by first | exact hr_nl | omega) (by first | exact hr_sp_ | omega) (by first | exact hr_wtc | omega) (by first | exact hr_wcl | omega) (by first | exact hr_ir | omega) (by first | exact hr_ip | omega) (by first | exact hr_shu | omega) (by first | exact hr_sfa | omega) (by first | exact hr_swr | omega) (by first | exact rgw hl69_4 (by decide) (by decide) | omega) (by show (8 : Int) ≤ 8 ∧ (8 : Int) ≤ 9; decide) hf12) (cwV 1 hts gg_4 rfl rfl rfl (by decide +kernel) ⟨Nat.le_of_ble_eq_true rfl, Nat.le_of_ble_eq_true rfl⟩) ⟨pcW.blind, (va_recv hG.1 hP (ci := 12) (q0 := 2) rfl rfl), pre9⟩ rfl rfl hlv.1 rfl (lv_room (Nat.le_of_ble_eq_true rfl)) dX12_ice_165 ⟨Nat.le_of_ble_eq_true rfl, Nat.le_of_ble_eq_true rfl⟩)) hP hD hS hA hG hT [2, 1] rfl (by decide +kernel) (fun r7 u7 H locs hw7 hq9 hS => ?_)
                      obtain ⟨rfl, hq7_1, hq7_2⟩ := hw7
                      obtain ⟨hP, hD⟩ := pd9 [zI m10 (cy 0) 68 f10, zI m1 (cy 0) 4 (u5.2.2 0), zO mm 12 [vI (u5.2.1 1), vR m1, vI tp, vI sz_, vI ap, vI bad, vI bk, vI opn, vI fp, vR m9, vR m10, vR m11, vR m12, vR m13, vR m14, vR m15, vI im, vI nr, vI nl, vR m19, vR m20, vR m21, vI sp_, vR m23, vR m24, vR m25, vR m26, vR m27, vR m28, vI wtc, vI wcl, vI ir, vI ip, vR m33, vI shu, vR m35, vI sfa, vI swr], zI m12 (cy 0) 389 f12] hq9
                      refine lv_goto (tgt := 172) hx hb dX12_ice_168 (by decide) ?_
                      refine lv_iadd hx hb dX12_ice_172 ?_
                      refine lt_z (fun z_29 ez_29 lz_29 hz_29 => ?_)
                      refine lv_istore (lv' := [(5, vI z_29), (4, vI r4), (7, vI z_25), (3, vI z_23), (9, vI 1), (8, vI r8), (6, vI q6), (0, vR mm), (1, vI n), (2, vI k)]) hx hb dX12_ice_173 hlv (by decide) rfl (fun ls hlv => ?_)
                      exact jn175 (z_23, r4, z_29, z_25) _ _ _ ⟨_, rfl, (by show (0 : Int) ≤ z_23 ∧ z_23 ≤ 96; omega), (by show (0 : Int) ≤ r4 ∧ r4 ≤ 16; first | exact hl69_1 | omega), (by show (-2147483648) ≤ z_29 ∧ z_29 ≤ 2147483647; omega), (by show (0 : Int) ≤ z_25 ∧ z_25 ≤ 16; omega), (by show (z_23 ≤ r3 + 1); omega), (by show (z_25 ≤ r8 + 1); omega), hP.sub [0, 3, 2, 1] rfl, hD.sub [0, 3, 2, 1] (by decide) rfl, hS, lv_sub hlv [2, 0, 1, 3, 5, 6, 7, 8, 9] rfl⟩
                  · refine lv_iload hx hb dX12_ice_141 (lv_at hlv 0 rfl) ?_
                    refine lv_goto (tgt := 148) hx hb dX12_ice_143 (by decide) ?_
                    refine lv_istore (lv' := [(4, vI z_25), (7, vI z_25), (3, vI z_23), (9, vI 1), (8, vI r8), (6, vI q6), (5, vI r5), (0, vR mm), (1, vI n), (2, vI k)]) hx hb dX12_ice_148 hlv (by decide) rfl (fun ls hlv => ?_)
                    refine lv_iload hx hb dX12_ice_150 (lv_at hlv 6 rfl) ?_
                    refine lv_iload hx hb dX12_ice_152 (lv_at hlv 3 rfl) ?_
                    refine iz_eq (tgt := 171) hx hb dX12_ice_154 (by decide) (by show ((-2147483648) : Int) ≤ 1 ∧ (1 : Int) ≤ 2147483647; decide) (fun c_30 => by exfalso; omega) (fun c_30 => ?_)
                    refine lv_iload hx hb dX12_ice_157 (lv_at hlv 5 rfl) ?_
                    refine iz_ne (tgt := 171) hx hb dX12_ice_159 (by decide) (by first | exact rgw hl52_3 (by decide) (by decide) | omega) (fun c_31 => ?_) (fun c_31 => ?_)
                    · refine lv_iconst (v := iI 0) hx hb dX12_ice_171 (by decide) ?_
                      refine lv_iadd hx hb dX12_ice_172 ?_
                      refine lt_i (y := iI r5) (by rw [show iI r5 + iI 0 = iI (r5 + 0) from (Int32.ofInt_add _ _).symm, Int.add_zero]) ?_
                      refine lv_istore (lv' := [(5, vI r5), (4, vI z_25), (7, vI z_25), (3, vI z_23), (9, vI 1), (8, vI r8), (6, vI q6), (0, vR mm), (1, vI n), (2, vI k)]) hx hb dX12_ice_173 hlv (by decide) rfl (fun ls hlv => ?_)
                      exact jn175 (z_23, z_25, r5, z_25) _ _ _ ⟨_, rfl, (by show (0 : Int) ≤ z_23 ∧ z_23 ≤ 96; omega), (by show (0 : Int) ≤ z_25 ∧ z_25 ≤ 16; omega), (by show (-2147483648) ≤ r5 ∧ r5 ≤ 2147483647; first | exact hl69_2 | omega), (by show (0 : Int) ≤ z_25 ∧ z_25 ≤ 16; omega), (by show (z_23 ≤ r3 + 1); omega), (by show (z_25 ≤ r8 + 1); omega), hP.sub [0, 1, 2, 3] rfl, hD.sub [0, 1, 2, 3] (by decide) rfl, hS, lv_sub hlv [2, 0, 1, 3, 5, 6, 7, 8, 9] rfl⟩
                    · refine lv_aload_n hx hb dX12_ice_162 rfl (lv_at hlv 7 rfl) ?_
                      refine lv_iload hx hb dX12_ice_163 (lv_at hlv 4 rfl) ?_
                      refine cjr_i [true, false, false, true] (fun pre9 => (va_runV (As := [vI r8]) (rest := [vI r5]) ⟨hx, hb, hml, hown, hts⟩ (m_peopleAt l hl D cy sa mm m1 m9 m10 m11 m12 m13 m14 m15 m19 m20 m21 m23 m24 m25 m26 m27 m28 m33 m35 (u5.2.1 1) tp sz_ ap bad bk opn fp im nr nl sp_ wtc wcl ir ip shu sfa swr f12 r8 8 H.size (by first | exact hq5_1 | omega) (by first | exact hr_tp | omega) (by first | exact hr_sz_ | omega) (by first | exact hr_ap | omega) (by first | exact hr_bad | omega) (by first | exact hr_bk | omega) (by first | exact hr_opn | omega) (by first | exact hr_fp | omega) (by first | exact hr_im | omega) (by first | exact hr_nr | omega) (by first | exact hr_nl | omega) (by first | exact hr_sp_ | omega) (by first | exact hr_wtc | omega) (by first | exact hr_wcl | omega) (by first | exact hr_ir | omega) (by first | exact hr_ip | omega) (by first | exact hr_shu | omega) (by first | exact hr_sfa | omega) (by first | exact hr_swr | omega) (by first | exact rgw hl69_4 (by decide) (by decide) | omega) (by show (8 : Int) ≤ 8 ∧ (8 : Int) ≤ 9; decide) hf12) (cwV 1 hts gg_4 rfl rfl rfl (by decide +kernel) ⟨Nat.le_of_ble_eq_true rfl, Nat.le_of_ble_eq_true rfl⟩) ⟨pcW.blind, (va_recv hG.1 hP (ci := 12) (q0 := 2) rfl rfl), pre9⟩ rfl rfl hlv.1 rfl (lv_room (Nat.le_of_ble_eq_true rfl)) dX12_ice_165 ⟨Nat.le_of_ble_eq_true rfl, Nat.le_of_ble_eq_true rfl⟩)) hP hD hS hA hG hT [2, 1] rfl (by decide +kernel) (fun r8 u8 H locs hw8 hq9 hS => ?_)
                      obtain ⟨rfl, hq8_1, hq8_2⟩ := hw8
                      obtain ⟨hP, hD⟩ := pd9 [zI m10 (cy 0) 68 f10, zI m1 (cy 0) 4 (u5.2.2 0), zO mm 12 [vI (u5.2.1 1), vR m1, vI tp, vI sz_, vI ap, vI bad, vI bk, vI opn, vI fp, vR m9, vR m10, vR m11, vR m12, vR m13, vR m14, vR m15, vI im, vI nr, vI nl, vR m19, vR m20, vR m21, vI sp_, vR m23, vR m24, vR m25, vR m26, vR m27, vR m28, vI wtc, vI wcl, vI ir, vI ip, vR m33, vI shu, vR m35, vI sfa, vI swr], zI m12 (cy 0) 389 f12] hq9
                      refine lv_goto (tgt := 172) hx hb dX12_ice_168 (by decide) ?_
                      refine lv_iadd hx hb dX12_ice_172 ?_
                      refine lt_z (fun z_32 ez_32 lz_32 hz_32 => ?_)
                      refine lv_istore (lv' := [(5, vI z_32), (4, vI z_25), (7, vI z_25), (3, vI z_23), (9, vI 1), (8, vI r8), (6, vI q6), (0, vR mm), (1, vI n), (2, vI k)]) hx hb dX12_ice_173 hlv (by decide) rfl (fun ls hlv => ?_)
                      exact jn175 (z_23, z_25, z_32, z_25) _ _ _ ⟨_, rfl, (by show (0 : Int) ≤ z_23 ∧ z_23 ≤ 96; omega), (by show (0 : Int) ≤ z_25 ∧ z_25 ≤ 16; omega), (by show (-2147483648) ≤ z_32 ∧ z_32 ≤ 2147483647; omega), (by show (0 : Int) ≤ z_25 ∧ z_25 ≤ 16; omega), (by show (z_23 ≤ r3 + 1); omega), (by show (z_25 ≤ r8 + 1); omega), hP.sub [0, 3, 2, 1] rfl, hD.sub [0, 3, 2, 1] (by decide) rfl, hS, lv_sub hlv [2, 0, 1, 3, 5, 6, 7, 8, 9] rfl⟩
def vs_m_status : List Cond := .code yX12_status cX12_status 2 (some .int) :: (([.fieldLink RX12 1 "KerbSplashModel" "thrown" "I", .fieldLink RX12 7 "KerbSplashModel" "refused" "[I"] : List Cond) ++ ((wsX120) ++ ((va_wsS RX12 279 yX12_within vs_m_within) ++ ([]))))
set_option maxHeartbeats 4000000 in
set_option maxRecDepth 100000 in
theorem m_status (l : Launch) (hl : l.stackTraces = false) (D : va_G) (cy : Nat → ClassId) (sa : Nat → Nat) (mm m1 m9 m10 m11 m12 m13 m14 m15 m19 m20 m21 m23 m24 m25 m26 m27 m28 m33 m35 : Nat) (th tp sz_ ap bad bk opn fp im nr nl sp_ wtc wcl ir ip shu sfa swr : Int) (f1 : Nat → Int32) (n : Int) (sz : Nat) (hr_th : (-2147483648) ≤ th ∧ th ≤ 2147483647) (hr_tp : 0 ≤ tp ∧ tp ≤ 600) (hr_sz_ : 0 ≤ sz_ ∧ sz_ ≤ 600) (hr_ap : 0 ≤ ap ∧ ap ≤ 602) (hr_bad : (-1) ≤ bad ∧ bad ≤ 602) (hr_bk : 0 ≤ bk ∧ bk ≤ 4) (hr_opn : 0 ≤ opn ∧ opn ≤ 7) (hr_fp : (-2147483648) ≤ fp ∧ fp ≤ 2147483647) (hr_im : 0 ≤ im ∧ im ≤ 3) (hr_nr : 0 ≤ nr ∧ nr ≤ 4) (hr_nl : 0 ≤ nl ∧ nl ≤ 4) (hr_sp_ : 0 ≤ sp_ ∧ sp_ ≤ 602) (hr_wtc : (-2147483648) ≤ wtc ∧ wtc ≤ 2147483647) (hr_wcl : 0 ≤ wcl ∧ wcl ≤ 95) (hr_ir : 0 ≤ ir ∧ ir ≤ 5) (hr_ip : (-2147483648) ≤ ip ∧ ip ≤ 2147483647) (hr_shu : (-2147483648) ≤ shu ∧ shu ≤ 2147483647) (hr_sfa : (-2147483648) ≤ sfa ∧ sfa ≤ 2147483647) (hr_swr : (-2147483648) ≤ swr ∧ swr ≤ 2147483647) (hr_n : (-2147483648) ≤ n ∧ n ≤ 2147483647) : mI9 l yX12_status vs_m_status ({ frames := 1, cells := 0, slots := 0, locals := 22 }) D cy sa sz [vR mm, vI n] [zO mm 12 [vI th, vR m1, vI tp, vI sz_, vI ap, vI bad, vI bk, vI opn, vI fp, vR m9, vR m10, vR m11, vR m12, vR m13, vR m14, vR m15, vI im, vI nr, vI nl, vR m19, vR m20, vR m21, vI sp_, vR m23, vR m24, vR m25, vR m26, vR m27, vR m28, vI wtc, vI wcl, vI ir, vI ip, vR m33, vI shu, vR m35, vI sfa, vI swr], zI m1 (cy 0) 4 f1] (fun (r : Int32) (u : SV) => r = iI (u.2.1 0) ∧ ((-2147483648) ≤ u.2.1 0 ∧ u.2.1 0 ≤ 2147483647)) (fun u : SV => [zO mm 12 [vI 0, vR m1, vI tp, vI sz_, vI ap, vI bad, vI bk, vI opn, vI fp, vR m9, vR m10, vR m11, vR m12, vR m13, vR m14, vR m15, vI im, vI nr, vI nl, vR m19, vR m20, vR m21, vI sp_, vR m23, vR m24, vR m25, vR m26, vR m27, vR m28, vI wtc, vI wcl, vI ir, vI ip, vR m33, vI shu, vR m35, vI sfa, vI swr], zI m1 (cy 0) 4 f1]) 0 0 := by
  refine Met.ofW (cc := cX12_status) (maxL := 2) (ret := (some .int)) (by decide) rfl ?_
  intro p e s m args below meth c s₁ B hml hv
  obtain ⟨rfl, hsz, hP, hG, hD0, hT⟩ := hv
  have hx := B.exec
  have hb := B.bytes
  have hr := B.returns
  have hts := atoms_spec (ws := vs_m_status) B.pre
  have hown : s.vm.findClass RX12 = some m.cls := findClass_of_methodNamed B.named
  have hlocks := B.notSynchronized
  subst hsz
  have hD := hD0.self (sz := s.heap.size)
  generalize hAe : va_A [zO mm 12 [vI th, vR m1, vI tp, vI sz_, vI ap, vI bad, vI bk, vI opn, vI fp, vR m9, vR m10, vR m11, vR m12, vR m13, vR m14, vR m15, vI im, vI nr, vI nl, vR m19, vR m20, vR m21, vI sp_, vR m23, vR m24, vR m25, vR m26, vR m27, vR m28, vI wtc, vI wcl, vI ir, vI ip, vR m33, vI shu, vR m35, vI sfa, vI swr], zI m1 (cy 0) 4 f1] s.heap.size = A at hD hT ⊢
  have hA : ∀ q : Nat, s.heap.size ≤ q → A q := fun q h => by rw [← hAe]; exact Or.inr h
  have hS : va_S A s.heap s.heap [] := va_S.rf
  have hl0 := lv_entry ([vR mm, vI n]) (n := 2) (Nat.le_of_ble_eq_true rfl)
  rw [lg_entry_eq]
  generalize (lg_sl ([vR mm, vI n]) ++ List.replicate (2 - (lg_sl ([vR mm, vI n])).length) Slot.unset).toArray = ls at hl0 ⊢
  have hlv : lv_has ls 2 [(0, vR mm), (1, vI n)] := hl0
  have lf1 := hts (.fieldLink RX12 1 "KerbSplashModel" "thrown" "I") (List.mem_of_getElem? (i := 1) rfl)
  have hi12 : ∀ w ∈ wsX120, w ∈ vs_m_status := fun w h => List.mem_cons_of_mem _ (List.mem_append_right _ (List.mem_append_left _ h))
  have gg_1 : GoodIn vs_m_status (va_wsS RX12 279 yX12_within vs_m_within) := goodIn_sub (fun w h => List.mem_cons_of_mem _ (List.mem_append_right _ (List.mem_append_right _ (List.mem_append_left _ h)))) (gd_S gd_m_within (by decide +kernel))
  have lf7 := hts (.fieldLink RX12 7 "KerbSplashModel" "refused" "[I") (List.mem_of_getElem? (i := 2) rfl)
  refine lv_aload_n hx hb dX12_status_0 rfl (lv_at hlv 0 rfl) ?_
  refine lv_iconst (v := iI 0) hx hb dX12_status_1 (by decide) ?_
  refine va_put (D := D) (ci := 12) (v := vI 0) (ty := .int) (C := RX12) (T := TX12) (N := 38) hx hb hts hi12 tyX12 tyX12_ok nmX12 hown hG.1 hP hD hS 0 rfl rfl 0 (by decide) lf1 (fun _ h9 => h9) rfl (by decide +kernel) rfl rfl (Nat.le_of_ble_eq_true rfl) dX12_status_2 (fun H locs hP hD hS => ?_)
  obtain ⟨hP, hD⟩ := pw9 [zO mm 12 [vI 0, vR m1, vI tp, vI sz_, vI ap, vI bad, vI bk, vI opn, vI fp, vR m9, vR m10, vR m11, vR m12, vR m13, vR m14, vR m15, vI im, vI nr, vI nl, vR m19, vR m20, vR m21, vI sp_, vR m23, vR m24, vR m25, vR m26, vR m27, vR m28, vI wtc, vI wcl, vI ir, vI ip, vR m33, vI shu, vR m35, vI sfa, vI swr], zI m1 (cy 0) 4 f1] hP hD
  refine lv_iload_n hx hb dX12_status_5 rfl (lv_at hlv 1 rfl) ?_
  refine lv_iconst (v := iI 0) hx hb dX12_status_6 (by decide) ?_
  refine lv_iconst (v := iI 3) hx hb dX12_status_7 (by decide) ?_
  refine cjr_i [true, true] (fun pre9 => (va_runS (As := [vI n, vI 0, vI 3]) (rest := []) ⟨hx, hb, hml, hown, hts⟩ (m_within l hl D cy sa n 0 3 H.size (by first | exact hr_n | omega) (by show ((-2147483648) : Int) ≤ 0 ∧ (0 : Int) ≤ 2147483647; decide) (by show ((-2147483648) : Int) ≤ 3 ∧ (3 : Int) ≤ 2147483647; decide)) (va_cwS 3 hts gg_1 rfl rfl rfl (by decide +kernel) ⟨Nat.le_of_ble_eq_true rfl, Nat.le_of_ble_eq_true rfl⟩) ⟨pcW.blind, pre9⟩ rfl rfl hlv.1 rfl (lv_room (Nat.le_of_ble_eq_true rfl)) dX12_status_8 ⟨Nat.le_of_ble_eq_true rfl, Nat.le_of_ble_eq_true rfl⟩)) hP hD hS hA hG hT [] rfl (by decide +kernel) (fun r1 u1 H locs hw1 hq9 hS => ?_)
  obtain ⟨rfl, hq1_1, hq1_2, hq1_3⟩ := hw1
  obtain ⟨hP, hD⟩ := pd9 [zO mm 12 [vI 0, vR m1, vI tp, vI sz_, vI ap, vI bad, vI bk, vI opn, vI fp, vR m9, vR m10, vR m11, vR m12, vR m13, vR m14, vR m15, vI im, vI nr, vI nl, vR m19, vR m20, vR m21, vI sp_, vR m23, vR m24, vR m25, vR m26, vR m27, vR m28, vI wtc, vI wcl, vI ir, vI ip, vR m33, vI shu, vR m35, vI sfa, vI swr], zI m1 (cy 0) 4 f1] hq9
  refine iz_eq (tgt := 23) hx hb dX12_status_11 (by decide) (by first | exact rgw hq1_1 (by decide) (by decide) | omega) (fun c_1 => ?_) (fun c_1 => ?_)
  · refine lv_iconst (v := iI (-1)) hx hb dX12_status_23 (by decide) ?_
    refine W.widen (k := 0) (n := 0) (Nat.le_of_ble_eq_true rfl) (Nat.le_of_ble_eq_true rfl) ?_
    exact W.iret (v := iI (-1)) hx hb hr (fun t ht hW => ⟨⟨iI (-1), ((fun k => ([] : List Nat).getD k 0), (fun k => ([(-1)] : List Int).getD k 0), (fun k => ([] : List (Nat → Int32)).getD k (fun _ => 0))), rfl, ⟨rfl, (by show ((-2147483648) ≤ (-1) ∧ (-1) ≤ 2147483647); show ((-2147483648) : Int) ≤ (-1) ∧ ((-1) : Int) ≤ 2147483647; decide)⟩, at9 ht hP hD [0, 1] (by decide +kernel) rfl⟩, hS.F ht⟩) hS.2.2 dX12_status_24
  · refine lv_aload_n hx hb dX12_status_14 rfl (lv_at hlv 0 rfl) ?_
    refine va_get (D := D) (ci := 12) (v := vR m1) (C := RX12) (T := TX12) (N := 38) hx hb hts hi12 hown hG.1 hP 0 rfl rfl 1 (by decide) lf7 (fun _ h9 => h9) rfl dX12_status_15 ?_
    refine lv_iload_n hx hb dX12_status_18 rfl (lv_at hlv 1 rfl) ?_
    refine va_iald hx hb hG.1 hP 1 0 rfl rfl (iI_in (by omega) (by decide)) dX12_status_19 ?_
    refine lt_z (fun z_2 ez_2 lz_2 hz_2 => ?_)
    refine lv_goto (tgt := 24) hx hb dX12_status_20 (by decide) ?_
    refine W.widen (k := 0) (n := 0) (Nat.le_of_ble_eq_true rfl) (Nat.le_of_ble_eq_true rfl) ?_
    exact W.iret (v := iI z_2) hx hb hr (fun t ht hW => ⟨⟨iI z_2, ((fun k => ([] : List Nat).getD k 0), (fun k => ([z_2] : List Int).getD k 0), (fun k => ([] : List (Nat → Int32)).getD k (fun _ => 0))), rfl, ⟨rfl, (by show ((-2147483648) ≤ z_2 ∧ z_2 ≤ 2147483647); omega)⟩, at9 ht hP hD [0, 1] (by decide +kernel) rfl⟩, hS.F ht⟩) hS.2.2 dX12_status_24
end
section
/-- the images: each of three rows of 389 places is a state -/
def IM (f : Nat → Int32) : Prop := ∀ r : Nat, r < 3 → SI 8 (fun j => f (389 * r + j))
theorem IM.put {f f1 g : Nat → Int32} {r : Int} (h : IM f) (hr : 0 ≤ r ∧ r < 3) (hg : SI 8 g) (h1 : (∀ j : Nat, (j : Int) < 389 → f1 (389 * r.toNat + j) = g j) ∧ ∀ j : Nat, ((j : Int) < 389 * r ∨ 389 * r + 389 ≤ j) → f1 j = f j) : IM f1 := by
  intro q hq
  by_cases e : q = r.toNat
  · subst e
    exact hg.ext (fun j hj => h1.1 j (by omega))
  · exact (h q hq).ext (fun j hj => h1.2 (389 * q + j) (by omega))
theorem IM.get {f g : Nat → Int32} {r : Int} (h : IM f) (hr : 0 ≤ r ∧ r < 3) (h1 : ∀ j : Nat, (j : Int) < 389 → g j = f (389 * r.toNat + j)) : SI 8 g :=
  (h r.toNat (by omega)).ext (fun j hj => h1 j (by omega))
theorem IM.zero {f : Nat → Int32} (h : ∀ j : Nat, j < 1167 → f j = iI 0) : IM f := fun r hr => SI.zero (by decide) (fun j _ b _ => h (389 * r + j) (by omega))
/-- the k-th bit -/
def bt (a k : Int) : Int32 := (iI a >>> (iI k &&& 31)) &&& iI 1
theorem sw_0 : ∀ a : Fin 64, ∀ k : Fin 6, ¬ bt (a.1 : Int) (k.1 : Int) = iI 1 → ∃ z : Fin 64, iI (a.1 : Int) ||| (iI 1 <<< (iI (k.1 : Int) &&& 31)) = iI (z.1 : Int) ∧ a.1 < z.1 := by decide +kernel
theorem sw_inc {a k z1 z4 z5 : Int} (ha : 0 ≤ a ∧ a < 64) (hk : 0 ≤ k ∧ k < 6) (e1 : iI 1 <<< (iI k &&& 31) = iI z1) (e4 : iI a >>> (iI k &&& 31) = iI z4) (e5 : iI z4 &&& iI 1 = iI z5) (h5 : ¬ z5 = 1) (hr : 0 ≤ z5 ∧ z5 ≤ 1) : ∃ z : Int, iI a ||| iI z1 = iI z ∧ a < z ∧ z < 64 := by
  obtain ⟨n, rfl⟩ := Int.eq_ofNat_of_zero_le ha.1
  obtain ⟨q, rfl⟩ := Int.eq_ofNat_of_zero_le hk.1
  obtain ⟨z, h1, h2⟩ := sw_0 ⟨n, by omega⟩ ⟨q, by omega⟩ (by
    show ¬ bt (n : Int) (q : Int) = iI 1
    unfold bt
    rw [e4, e5]
    exact fun h => h5 ((iI_eq (by omega) (by omega)).mp h))
  have h3 : iI (n : Int) ||| (iI 1 <<< (iI (q : Int) &&& 31)) = iI (z.1 : Int) := h1
  rw [e1] at h3
  exact ⟨(z.1 : Int), h3, by have : n < z.1 := h2; omega, by omega⟩
theorem bt_e {a k z4 z5 : Int} (e4 : iI a >>> (iI k &&& 31) = iI z4) (e5 : iI z4 &&& iI 1 = iI z5) : bt a k = iI z5 := by
  unfold bt
  rw [e4, e5]
/-- mend: of the works of a set, those before q are not done -/
def MD (a q : Int) (f : Nat → Int32) : Prop := ∀ j : Nat, (j : Int) < q → bt a j = iI 1 → nz f (198 + j) = 0
theorem MD.zero {a : Int} {f : Nat → Int32} : MD a 0 f := fun j hj => absurd hj (by omega)
theorem MD.skip {a q q1 z4 z5 : Int} {f : Nat → Int32} (h : MD a q f) (hq : 0 ≤ q) (e4 : iI a >>> (iI q &&& 31) = iI z4) (e5 : iI z4 &&& iI 1 = iI z5) (h5 : z5 = 0) (h1 : q1 = q + 1) : MD a q1 f := by
  intro j hj hb
  by_cases e : (j : Int) = q
  · rw [e, bt_e e4 e5, h5] at hb
    exact absurd hb (by decide)
  · exact h j (by omega) hb
theorem MD.next {a q q1 : Int} {f : Nat → Int32} (h : MD a q f) (hq : 0 ≤ q) (h0 : nz f (198 + q.toNat) = 0) (h1 : q1 = q + 1) : MD a q1 f := by
  intro j hj hb
  by_cases e : (j : Int) = q
  · rw [show 198 + j = 198 + q.toNat by omega]; exact h0
  · exact h j (by omega) hb
/-- of the works of a set, those from q on are not done -/
def MF (a q n : Int) (f : Nat → Int32) : Prop := ∀ j : Nat, q ≤ (j : Int) → (j : Int) < n → bt a j = iI 1 → nz f (198 + j) = 0
theorem MD.all {a n : Int} {f : Nat → Int32} (h : MD a n f) : MF a 0 n f := fun j _ hj hb => h j hj hb
theorem MF.use {a q n z4 z5 : Int} {f : Nat → Int32} (h : MF a q n f) (hq : 0 ≤ q ∧ q < n) (e4 : iI a >>> (iI q &&& 31) = iI z4) (e5 : iI z4 &&& iI 1 = iI z5) (h5 : z5 = 1) : nz f (198 + q.toNat) ≠ 1 := by
  have := h q.toNat (by omega) (by omega) (by rw [show ((q.toNat : Nat) : Int) = q by omega, bt_e e4 e5, h5])
  omega
theorem MF.next {a q q1 n : Int} {f f1 : Nat → Int32} (h : MF a q n f) (hf : ∀ j : Nat, (q : Int) < (j : Int) → (j : Int) < 8 → nz f1 (198 + j) = nz f (198 + j)) (hn : n ≤ 8) (h1 : q1 = q + 1) : MF a q1 n f1 := fun j a1 a2 hb => by
  rw [hf j (by omega) (by omega)]
  exact h j (by omega) a2 hb
end
section
theorem dX12_image_0 : decode cX12_image 0 = .ok (.aload_n 0, 1) := by decide +kernel
theorem dX12_image_1 : decode cX12_image 1 = .ok (.iconst 0, 1) := by decide +kernel
theorem dX12_image_10 : decode cX12_image 10 = .ok (.if_icmp .ne 5, 3) := by decide +kernel
theorem dX12_image_13 : decode cX12_image 13 = .ok (.iconst (-1), 1) := by decide +kernel
theorem dX12_image_14 : decode cX12_image 14 = .ok (.ireturn, 1) := by decide +kernel
theorem dX12_image_15 : decode cX12_image 15 = .ok (.iconst 0, 1) := by decide +kernel
theorem dX12_image_16 : decode cX12_image 16 = .ok (.istore_n 1, 1) := by decide +kernel
theorem dX12_image_17 : decode cX12_image 17 = .ok (.iload_n 1, 1) := by decide +kernel
theorem dX12_image_18 : decode cX12_image 18 = .ok (.sipush 389, 3) := by decide +kernel
theorem dX12_image_2 : decode cX12_image 2 = .ok (.putfield 1, 3) := by decide +kernel
theorem dX12_image_21 : decode cX12_image 21 = .ok (.if_icmp .ge 30, 3) := by decide +kernel
theorem dX12_image_24 : decode cX12_image 24 = .ok (.aload_n 0, 1) := by decide +kernel
theorem dX12_image_25 : decode cX12_image 25 = .ok (.getfield 38, 3) := by decide +kernel
theorem dX12_image_28 : decode cX12_image 28 = .ok (.sipush 389, 3) := by decide +kernel
theorem dX12_image_31 : decode cX12_image 31 = .ok (.aload_n 0, 1) := by decide +kernel
theorem dX12_image_32 : decode cX12_image 32 = .ok (.getfield 201, 3) := by decide +kernel
theorem dX12_image_35 : decode cX12_image 35 = .ok (.imul, 1) := by decide +kernel
theorem dX12_image_36 : decode cX12_image 36 = .ok (.iload_n 1, 1) := by decide +kernel
theorem dX12_image_37 : decode cX12_image 37 = .ok (.iadd, 1) := by decide +kernel
theorem dX12_image_38 : decode cX12_image 38 = .ok (.aload_n 0, 1) := by decide +kernel
theorem dX12_image_39 : decode cX12_image 39 = .ok (.getfield 29, 3) := by decide +kernel
theorem dX12_image_42 : decode cX12_image 42 = .ok (.iload_n 1, 1) := by decide +kernel
theorem dX12_image_43 : decode cX12_image 43 = .ok (.iaload, 1) := by decide +kernel
theorem dX12_image_44 : decode cX12_image 44 = .ok (.iastore, 1) := by decide +kernel
theorem dX12_image_45 : decode cX12_image 45 = .ok (.iinc 1 1, 3) := by decide +kernel
theorem dX12_image_48 : decode cX12_image 48 = .ok (.goto (-31), 3) := by decide +kernel
theorem dX12_image_5 : decode cX12_image 5 = .ok (.aload_n 0, 1) := by decide +kernel
theorem dX12_image_51 : decode cX12_image 51 = .ok (.aload_n 0, 1) := by decide +kernel
theorem dX12_image_52 : decode cX12_image 52 = .ok (.dup, 1) := by decide +kernel
theorem dX12_image_53 : decode cX12_image 53 = .ok (.getfield 201, 3) := by decide +kernel
theorem dX12_image_56 : decode cX12_image 56 = .ok (.iconst 1, 1) := by decide +kernel
theorem dX12_image_57 : decode cX12_image 57 = .ok (.iadd, 1) := by decide +kernel
theorem dX12_image_58 : decode cX12_image 58 = .ok (.putfield 201, 3) := by decide +kernel
theorem dX12_image_6 : decode cX12_image 6 = .ok (.getfield 201, 3) := by decide +kernel
theorem dX12_image_61 : decode cX12_image 61 = .ok (.aload_n 0, 1) := by decide +kernel
theorem dX12_image_62 : decode cX12_image 62 = .ok (.getfield 201, 3) := by decide +kernel
theorem dX12_image_65 : decode cX12_image 65 = .ok (.ireturn, 1) := by decide +kernel
theorem dX12_image_9 : decode cX12_image 9 = .ok (.iconst 3, 1) := by decide +kernel
theorem dX12_restore_0 : decode cX12_restore 0 = .ok (.aload_n 0, 1) := by decide +kernel
theorem dX12_restore_1 : decode cX12_restore 1 = .ok (.iconst 0, 1) := by decide +kernel
theorem dX12_restore_12 : decode cX12_restore 12 = .ok (.iconst (-1), 1) := by decide +kernel
theorem dX12_restore_13 : decode cX12_restore 13 = .ok (.ireturn, 1) := by decide +kernel
theorem dX12_restore_14 : decode cX12_restore 14 = .ok (.aload_n 0, 1) := by decide +kernel
theorem dX12_restore_15 : decode cX12_restore 15 = .ok (.dup, 1) := by decide +kernel
theorem dX12_restore_16 : decode cX12_restore 16 = .ok (.getfield 201, 3) := by decide +kernel
theorem dX12_restore_19 : decode cX12_restore 19 = .ok (.iconst 1, 1) := by decide +kernel
theorem dX12_restore_2 : decode cX12_restore 2 = .ok (.putfield 1, 3) := by decide +kernel
theorem dX12_restore_20 : decode cX12_restore 20 = .ok (.isub, 1) := by decide +kernel
theorem dX12_restore_21 : decode cX12_restore 21 = .ok (.putfield 201, 3) := by decide +kernel
theorem dX12_restore_24 : decode cX12_restore 24 = .ok (.iconst 0, 1) := by decide +kernel
theorem dX12_restore_25 : decode cX12_restore 25 = .ok (.istore_n 1, 1) := by decide +kernel
theorem dX12_restore_26 : decode cX12_restore 26 = .ok (.iload_n 1, 1) := by decide +kernel
theorem dX12_restore_27 : decode cX12_restore 27 = .ok (.sipush 389, 3) := by decide +kernel
theorem dX12_restore_30 : decode cX12_restore 30 = .ok (.if_icmp .ge 30, 3) := by decide +kernel
theorem dX12_restore_33 : decode cX12_restore 33 = .ok (.aload_n 0, 1) := by decide +kernel
theorem dX12_restore_34 : decode cX12_restore 34 = .ok (.getfield 29, 3) := by decide +kernel
theorem dX12_restore_37 : decode cX12_restore 37 = .ok (.iload_n 1, 1) := by decide +kernel
theorem dX12_restore_38 : decode cX12_restore 38 = .ok (.aload_n 0, 1) := by decide +kernel
theorem dX12_restore_39 : decode cX12_restore 39 = .ok (.getfield 38, 3) := by decide +kernel
theorem dX12_restore_42 : decode cX12_restore 42 = .ok (.sipush 389, 3) := by decide +kernel
theorem dX12_restore_45 : decode cX12_restore 45 = .ok (.aload_n 0, 1) := by decide +kernel
theorem dX12_restore_46 : decode cX12_restore 46 = .ok (.getfield 201, 3) := by decide +kernel
theorem dX12_restore_49 : decode cX12_restore 49 = .ok (.imul, 1) := by decide +kernel
theorem dX12_restore_5 : decode cX12_restore 5 = .ok (.aload_n 0, 1) := by decide +kernel
theorem dX12_restore_50 : decode cX12_restore 50 = .ok (.iload_n 1, 1) := by decide +kernel
theorem dX12_restore_51 : decode cX12_restore 51 = .ok (.iadd, 1) := by decide +kernel
theorem dX12_restore_52 : decode cX12_restore 52 = .ok (.iaload, 1) := by decide +kernel
theorem dX12_restore_53 : decode cX12_restore 53 = .ok (.iastore, 1) := by decide +kernel
theorem dX12_restore_54 : decode cX12_restore 54 = .ok (.iinc 1 1, 3) := by decide +kernel
theorem dX12_restore_57 : decode cX12_restore 57 = .ok (.goto (-31), 3) := by decide +kernel
theorem dX12_restore_6 : decode cX12_restore 6 = .ok (.getfield 201, 3) := by decide +kernel
theorem dX12_restore_60 : decode cX12_restore 60 = .ok (.aload_n 0, 1) := by decide +kernel
theorem dX12_restore_61 : decode cX12_restore 61 = .ok (.getfield 201, 3) := by decide +kernel
theorem dX12_restore_64 : decode cX12_restore 64 = .ok (.ireturn, 1) := by decide +kernel
theorem dX12_restore_9 : decode cX12_restore 9 = .ok (.ifCond .ne 5, 3) := by decide +kernel
end
section
/-- a set with one more dip -/
def so (a k : Int) : Int32 := iI a ||| (iI 1 <<< (iI k &&& 31))
/-- the days of a set, of the first n dips -/
def dsN (f : Nat → Int32) (a : Int) : Nat → Int32
  | 0 => iI 0
  | n + 1 => dsN f a n + (if bt a n = iI 1 then f (359 + 3 * n) else iI 0)
/-- what a dip weighs behind a set -/
def dgV (f r : Nat → Int32) (n : Nat) (a k : Int) : Int32 := ((if nz f (360 + 3 * k.toNat) < (dsN f (so a k).toInt n).toInt then iI 1000000 else iI 0) + f (358 + 3 * k.toNat) * dsN f (so a k).toInt n) + r (so a k).toInt.toNat
/-- r at a is what some dip from q on that is not in a weighs -/
def RS (f r : Nat → Int32) (n : Nat) (a q : Int) : Prop := ∃ k : Nat, q ≤ (k : Int) ∧ k < n ∧ ¬ bt a k = iI 1 ∧ r a.toNat = dgV f r n a k
theorem so_0 : ∀ k : Fin 9, ∀ a : Fin 512, 0 ≤ (so (a.1 : Int) (k.1 : Int)).toInt ∧ (so (a.1 : Int) (k.1 : Int)).toInt ≤ 511 := by decide +kernel
theorem so_1 : ∀ k : Fin 9, ∀ a : Fin 512, ¬ bt (a.1 : Int) (k.1 : Int) = iI 1 → (a.1 : Int) < (so (a.1 : Int) (k.1 : Int)).toInt ∧ ∀ n : Fin 10, k.1 < n.1 → a.1 < 2 ^ n.1 → (so (a.1 : Int) (k.1 : Int)).toInt < (2 ^ n.1 : Nat) := by decide +kernel
theorem so_2 : ∀ n : Fin 10, ∀ a : Fin 512, a.1 + 1 < 2 ^ n.1 → ∃ k : Fin 9, k.1 < n.1 ∧ ¬ bt (a.1 : Int) (k.1 : Int) = iI 1 := by decide +kernel
theorem so_3 : ∀ n : Fin 10, iI 1 <<< (iI (n.1 : Int) &&& 31) = iI ((2 ^ n.1 : Nat) : Int) ∧ 2 ^ n.1 ≤ 512 := by decide +kernel
theorem so_r {a k : Int} (ha : 0 ≤ a ∧ a ≤ 511) (hk : 0 ≤ k ∧ k ≤ 8) : 0 ≤ (so a k).toInt ∧ (so a k).toInt ≤ 511 := by
  obtain ⟨n, rfl⟩ := Int.eq_ofNat_of_zero_le ha.1
  obtain ⟨q, rfl⟩ := Int.eq_ofNat_of_zero_le hk.1
  exact so_0 ⟨q, by omega⟩ ⟨n, by omega⟩
theorem so_ex {a k z1 : Int} (ha : 0 ≤ a ∧ a ≤ 511) (hk : 0 ≤ k ∧ k ≤ 8) (e1 : iI 1 <<< (iI k &&& 31) = iI z1) : ∃ z : Int, iI a ||| iI z1 = iI z ∧ z = (so a k).toInt ∧ 0 ≤ z ∧ z ≤ 511 := by
  refine ⟨(so a k).toInt, ?_, rfl, so_r ha hk⟩
  rw [← e1]
  exact (Int32.ofInt_toInt (so a k)).symm
theorem so_p {N zz : Int} (hN : 0 ≤ N ∧ N ≤ 9) (e : iI 1 <<< (iI N &&& 31) = iI zz) (hz : 0 ≤ zz ∧ zz ≤ 512) : zz = ((2 ^ N.toNat : Nat) : Int) := by
  obtain ⟨n, rfl⟩ := Int.eq_ofNat_of_zero_le hN.1
  obtain ⟨h, h2⟩ := so_3 ⟨n, by omega⟩
  have h3 : iI 1 <<< (iI (n : Int) &&& 31) = iI ((2 ^ n : Nat) : Int) := h
  have h4 : (2 ^ n : Nat) ≤ 512 := h2
  rw [e] at h3
  have h5 : zz = ((2 ^ n : Nat) : Int) := by
    clear h h2 e
    generalize (2 ^ n : Nat) = w at h3 h4 ⊢
    exact (iI_eq (a := zz) (b := (w : Int)) (by omega) (by omega)).mp h3
  rw [h5]
  rfl
theorem so_up {a k N zz : Int} (ha : 0 ≤ a ∧ a ≤ 511) (hk : 0 ≤ k ∧ k < N) (hN : 0 ≤ N ∧ N ≤ 9) (e : iI 1 <<< (iI N &&& 31) = iI zz) (hz : 0 ≤ zz ∧ zz ≤ 512) (hb : ¬ bt a k = iI 1) : a < (so a k).toInt ∧ (a < zz → (so a k).toInt < zz) := by
  have hp := so_p hN e hz
  obtain ⟨n, rfl⟩ := Int.eq_ofNat_of_zero_le ha.1
  obtain ⟨q, rfl⟩ := Int.eq_ofNat_of_zero_le hk.1
  obtain ⟨y, rfl⟩ := Int.eq_ofNat_of_zero_le hN.1
  obtain ⟨h1, h2⟩ := so_1 ⟨q, by omega⟩ ⟨n, by omega⟩ hb
  refine ⟨h1, fun h => ?_⟩
  rw [hp] at h ⊢
  exact h2 ⟨y, by omega⟩ (by show q < y; omega) (by show n < 2 ^ y; exact Int.ofNat_lt.mp h)
theorem so_gt {a k : Int} (ha : 0 ≤ a ∧ a ≤ 511) (hk : 0 ≤ k ∧ k ≤ 8) (hb : ¬ bt a k = iI 1) : a < (so a k).toInt := by
  obtain ⟨n, rfl⟩ := Int.eq_ofNat_of_zero_le ha.1
  obtain ⟨q, rfl⟩ := Int.eq_ofNat_of_zero_le hk.1
  exact (so_1 ⟨q, by omega⟩ ⟨n, by omega⟩ hb).1
theorem so_no {a N zz : Int} (ha : 0 ≤ a ∧ a ≤ 511) (hN : 0 ≤ N ∧ N ≤ 9) (e : iI 1 <<< (iI N &&& 31) = iI zz) (hz : 0 ≤ zz ∧ zz ≤ 512) (h : a < zz - 1) : ∃ k : Nat, (k : Int) < N ∧ ¬ bt a k = iI 1 := by
  have hp := so_p hN e hz
  obtain ⟨n, rfl⟩ := Int.eq_ofNat_of_zero_le ha.1
  obtain ⟨y, rfl⟩ := Int.eq_ofNat_of_zero_le hN.1
  rw [hp] at h
  obtain ⟨k, h1, h2⟩ := so_2 ⟨y, by omega⟩ ⟨n, by omega⟩ (by show n + 1 < 2 ^ y; have h3 : ((y : Int)).toNat = y := rfl; rw [h3] at h; omega)
  exact ⟨k.1, by have : k.1 < y := h1; omega, h2⟩
theorem ds_1 {f : Nat → Int32} {a q q1 x x1 y z4 z5 T : Int} (h : iI x = dsN f a q.toNat) (hq : 0 ≤ q) (e4 : iI a >>> (iI q &&& 31) = iI z4) (e5 : iI z4 &&& iI 1 = iI z5) (h5 : z5 = 1) (ey : y = nz f T.toNat) (hT : T = 359 + 3 * q) (e : iI x + iI y = iI x1) (h1 : q1 = q + 1) : iI x1 = dsN f a q1.toNat := by
  rw [show q1.toNat = q.toNat + 1 by omega]
  show iI x1 = dsN f a q.toNat + (if bt a (q.toNat : Nat) = iI 1 then f (359 + 3 * q.toNat) else iI 0)
  rw [show ((q.toNat : Nat) : Int) = q by omega, bt_e e4 e5, h5, if_pos rfl, ← h, ← e, ey, show T.toNat = 359 + 3 * q.toNat by omega, ← nz_e]
theorem ds_0 {f : Nat → Int32} {a q q1 x z4 z5 : Int} (h : iI x = dsN f a q.toNat) (hq : 0 ≤ q) (e4 : iI a >>> (iI q &&& 31) = iI z4) (e5 : iI z4 &&& iI 1 = iI z5) (h5 : z5 = 0) (h1 : q1 = q + 1) : iI x = dsN f a q1.toNat := by
  rw [show q1.toNat = q.toNat + 1 by omega]
  show iI x = dsN f a q.toNat + (if bt a (q.toNat : Nat) = iI 1 then f (359 + 3 * q.toNat) else iI 0)
  rw [show ((q.toNat : Nat) : Int) = q by omega, bt_e e4 e5, h5, if_neg (by decide), ← h]
  exact (Int32.add_zero _).symm
theorem dg_e {f r : Nat → Int32} {n : Nat} {a k z dd dl w b pr sm y v T1 T2 T3 : Int} (hz : z = (so a k).toInt) (hdd : iI dd = dsN f z n) (hd : -2147483648 ≤ dd ∧ dd ≤ 2147483647) (hk : 0 ≤ k) (el : dl = nz f T1.toNat) (h1 : T1 = 360 + 3 * k) (ew : w = nz f T2.toNat) (h2 : T2 = 358 + 3 * k) (hb : (dl < dd ∧ b = 1000000) ∨ (dd ≤ dl ∧ b = 0)) (ep : iI w * iI dd = iI pr) (es : iI b + iI pr = iI sm) (ey : y = nz r T3.toNat) (h3 : T3 = z) (ev : iI sm + iI y = iI v) : iI v = dgV f r n a k := by
  unfold dgV
  rw [← hz, ← hdd, iI_to hd.1 hd.2, ← ev, ← es, ← ep, ey, h3, ew, show T2.toNat = 358 + 3 * k.toNat by omega, ← nz_e, ← nz_e]
  have e0 : nz f (360 + 3 * k.toNat) = dl := by rw [el, show T1.toNat = 360 + 3 * k.toNat by omega]
  rw [e0]
  rcases hb with ⟨hb, rfl⟩ | ⟨hb, rfl⟩
  · rw [if_pos hb]
  · rw [if_neg (by omega)]
theorem dgV_ext {f r r1 : Nat → Int32} {n : Nat} {a k : Int} (h : r1 (so a k).toInt.toNat = r (so a k).toInt.toNat) : dgV f r1 n a k = dgV f r n a k := by
  unfold dgV
  rw [h]
theorem RS.keep {f r r1 : Nat → Int32} {n : Nat} {a q : Int} (h : RS f r n a 0) (ha : 0 ≤ a ∧ a ≤ 511) (hn : n ≤ 9) (hq : q < a) (h1 : ∀ j : Nat, q < (j : Int) → r1 j = r j) : RS f r1 n a 0 := by
  obtain ⟨k, b1, b2, b3, b4⟩ := h
  have := so_gt (a := a) (k := (k : Int)) ha (by omega) b3
  refine ⟨k, b1, b2, b3, ?_⟩
  rw [dgV_ext (h1 _ (by omega)), h1 _ (by omega), b4]
/-- while the dips of a set are tried -/
def AB (f r : Nat → Int32) (n : Nat) (a q : Int) : Prop := (nz r a.toNat = -1 ∧ ∀ k : Nat, (k : Int) < q → bt a k = iI 1) ∨ RS f r n a 0
theorem AB.zero {f r r1 : Nat → Int32} {n : Nat} {a : Int} (ha : 0 ≤ a ∧ a ≤ 511) (hd : r1 = upd r (iI a).toNatClampNeg (iI (-1))) : AB f r1 n a 0 := Or.inl ⟨nz_us hd (by omega) (by omega) (by omega), fun k hk => absurd hk (by omega)⟩
theorem AB.bit {f r : Nat → Int32} {n : Nat} {a q q1 z4 z5 : Int} (h : AB f r n a q) (hq : 0 ≤ q) (e4 : iI a >>> (iI q &&& 31) = iI z4) (e5 : iI z4 &&& iI 1 = iI z5) (h5 : z5 = 1) (h1 : q1 = q + 1) : AB f r n a q1 := by
  rcases h with ⟨b1, b2⟩ | h
  · refine Or.inl ⟨b1, fun k hk => ?_⟩
    by_cases e : (k : Int) = q
    · rw [e, bt_e e4 e5, h5]
    · exact b2 k (by omega)
  · exact Or.inr h
theorem AB.keep {f r : Nat → Int32} {n : Nat} {a q q1 y : Int} (h : AB f r n a q) (ey : y = nz r a.toNat) (hy : y ≠ -1) : AB f r n a q1 := by
  rcases h with ⟨b1, b2⟩ | h
  · exact absurd b1 (by omega)
  · exact Or.inr h
theorem nb_e {a q z4 z5 : Int} (e4 : iI a >>> (iI q &&& 31) = iI z4) (e5 : iI z4 &&& iI 1 = iI z5) (h5 : z5 = 0) : ¬ bt a q = iI 1 := by
  rw [bt_e e4 e5, h5]
  decide
theorem AB.put {f r r1 : Nat → Int32} {n : Nat} {a q q1 v : Int} (ha : 0 ≤ a ∧ a ≤ 511) (hq : 0 ≤ q ∧ q < (n : Int)) (hn : n ≤ 9) (hb : ¬ bt a q = iI 1) (hd : r1 = upd r (iI a).toNatClampNeg (iI v)) (hv : iI v = dgV f r n a q) : AB f r1 n a q1 := by
  have := so_gt (a := a) (k := q) ha (by omega) hb
  refine Or.inr ⟨q.toNat, by omega, by omega, ?_, ?_⟩
  · rw [show ((q.toNat : Nat) : Int) = q by omega]; exact hb
  · rw [show ((q.toNat : Nat) : Int) = q by omega, dgV_ext (r := r) ?_, ← hv, hd, iI_cl (by omega) (by omega), pk_us]
    rw [hd, iI_cl (by omega) (by omega), pk_un (by omega)]
theorem AB.fin {f r : Nat → Int32} {a N zz q : Int} (h : AB f r N.toNat a q) (hq : N ≤ q) (ha : 0 ≤ a ∧ a ≤ 511) (hN : 0 ≤ N ∧ N ≤ 9) (e : iI 1 <<< (iI N &&& 31) = iI zz) (hz : 0 ≤ zz ∧ zz ≤ 512) (h1 : a < zz - 1) : RS f r N.toNat a 0 := by
  rcases h with ⟨_, b2⟩ | h
  · obtain ⟨k, c1, c2⟩ := so_no ha hN e hz h1
    exact absurd (b2 k (by omega)) c2
  · exact h
/-- all sets above q, below z, are weighed -/
def RA (f r : Nat → Int32) (n : Nat) (q z : Int) : Prop := ∀ a : Int, q < a → a < z → RS f r n a 0
theorem RA.zero {f r : Nat → Int32} {n : Nat} {q z : Int} (h : z ≤ q + 1) : RA f r n q z := fun a b c => absurd b (by omega)
theorem RA.put {f r r1 : Nat → Int32} {n : Nat} {q z : Int} {x : Int32} (h : RA f r n q z) (hq : 0 ≤ q) (hz : z ≤ 511) (hn : n ≤ 9) (hd : r1 = upd r (iI q).toNatClampNeg x) : RA f r1 n q z := fun a b c => (h a b c).keep (by omega) hn b (fun j hj => by rw [hd, iI_cl (by omega) (by omega), pk_un (by omega)])
theorem RA.next {f r : Nat → Int32} {n : Nat} {q q1 z : Int} (h : RA f r n q z) (h0 : q < z → RS f r n q 0) (h1 : q1 = q - 1) : RA f r n q1 z := fun a b c => by
  by_cases e : a = q
  · subst e; exact h0 c
  · exact h a (by omega) c
theorem RS.miss {f r : Nat → Int32} {n : Nat} {a q q1 v y : Int} (h : RS f r n a q) (hq : 0 ≤ q) (h0 : bt a q = iI 1 ∨ (iI v = dgV f r n a q ∧ y = nz r a.toNat ∧ v ≠ y ∧ -2147483648 ≤ v ∧ v ≤ 2147483647)) (h1 : q1 = q + 1) : RS f r n a q1 := by
  obtain ⟨k, b1, b2, b3, b4⟩ := h
  refine ⟨k, ?_, b2, b3, b4⟩
  by_cases e : (k : Int) = q
  · rw [e] at b3 b4
    rcases h0 with h0 | ⟨c1, c2, c3, c4, c5⟩
    · exact absurd h0 b3
    · rw [← c1] at b4
      refine absurd ?_ c3
      rw [c2]
      show v = (r a.toNat).toInt
      rw [b4, iI_to c4 c5]
  · omega
theorem RS.lt {f r : Nat → Int32} {n : Nat} {a q : Int} (h : RS f r n a q) : q < (n : Int) := by
  obtain ⟨k, b1, b2, _, _⟩ := h
  omega
end
section

theorem arl {D : va_G} {ws : va_W} {H : Heap} {A : Nat → Prop} (k : Nat) {a : Nat} {cA : ClassId} {n : Nat} {f : Nat → Int64} (g : Nat → Int64) (hP : va_P D vwCl ws H) (hD : va_D A ws) (hk : ws[k]? = some (a, .inl (cA, n, .inr (.inl f)))) (h : ∀ j : Nat, j < n → f j = g j) :
    va_P D vwCl (ws.set k (a, .inl (cA, n, .inr (.inl g)))) H ∧ va_D A (ws.set k (a, .inl (cA, n, .inr (.inl g)))) := by
  refine ⟨hP.set hD hk ?_ (fun q _ => rfl), hD.set hk⟩
  have h1 : H[a]? = some (vp_cell cA (n, .inr (.inl f))) := hP k _ hk
  show H[a]? = some (vp_cell cA (n, .inr (.inl g)))
  rw [h1]
  show some (arrV cA n (fun j => Value.long (f j))) = some (arrV cA n (fun j => Value.long (g j)))
  congr 1
  unfold arrV
  congr 1
  apply Array.ext
  · simp
  · intro i h1 h2
    simp only [Array.getElem_ofFn]
    rw [h i (by simpa using h1)]
theorem arl_2 {f : Nat → Int64} {z : Int} (hz : -2147483648 ≤ z ∧ z ≤ 2147483647) : ∀ j : Nat, j < 1 → vp_updL f 0 (jJ z) j = (iI z).toInt64 := fun j hj => by
  obtain rfl : j = 0 := by omega
  exact (jJ_i hz).symm
end
