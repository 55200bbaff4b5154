theorem dJ7_fill_53178_0 : decode cJ7_fill_53178 0 = .ok (.iconst 0, 1) := by decide +kernel
theorem dJ7_fill_53178_1 : decode cJ7_fill_53178 1 = .ok (.istore_n 2, 1) := by decide +kernel
theorem dJ7_fill_53178_10 : decode cJ7_fill_53178 10 = .ok (.aload_n 0, 1) := by decide +kernel
theorem dJ7_fill_53178_11 : decode cJ7_fill_53178 11 = .ok (.iload_n 2, 1) := by decide +kernel
theorem dJ7_fill_53178_12 : decode cJ7_fill_53178 12 = .ok (.iload_n 1, 1) := by decide +kernel
theorem dJ7_fill_53178_13 : decode cJ7_fill_53178 13 = .ok (.iastore, 1) := by decide +kernel
theorem dJ7_fill_53178_14 : decode cJ7_fill_53178 14 = .ok (.iinc 2 1, 3) := by decide +kernel
theorem dJ7_fill_53178_17 : decode cJ7_fill_53178 17 = .ok (.goto (-12), 3) := by decide +kernel
theorem dJ7_fill_53178_2 : decode cJ7_fill_53178 2 = .ok (.aload_n 0, 1) := by decide +kernel
theorem dJ7_fill_53178_20 : decode cJ7_fill_53178 20 = .ok (.return_, 1) := by decide +kernel
theorem dJ7_fill_53178_3 : decode cJ7_fill_53178 3 = .ok (.arraylength, 1) := by decide +kernel
theorem dJ7_fill_53178_4 : decode cJ7_fill_53178 4 = .ok (.istore_n 3, 1) := by decide +kernel
theorem dJ7_fill_53178_5 : decode cJ7_fill_53178 5 = .ok (.iload_n 2, 1) := by decide +kernel
theorem dJ7_fill_53178_6 : decode cJ7_fill_53178 6 = .ok (.iload_n 3, 1) := by decide +kernel
theorem dJ7_fill_53178_7 : decode cJ7_fill_53178 7 = .ok (.if_icmp .ge 13, 3) := by decide +kernel
theorem dX11_held_0 : decode cX11_held 0 = .ok (.lload_n 0, 1) := by decide +kernel
theorem dX11_held_1 : decode cX11_held 1 = .ok (.iload_n 2, 1) := by decide +kernel
theorem dX11_held_10 : decode cX11_held 10 = .ok (.iload_n 3, 1) := by decide +kernel
theorem dX11_held_11 : decode cX11_held 11 = .ok (.i2l, 1) := by decide +kernel
theorem dX11_held_12 : decode cX11_held 12 = .ok (.lcmp, 1) := by decide +kernel
theorem dX11_held_13 : decode cX11_held 13 = .ok (.ifCond .le 7, 3) := by decide +kernel
theorem dX11_held_16 : decode cX11_held 16 = .ok (.iload_n 3, 1) := by decide +kernel
theorem dX11_held_17 : decode cX11_held 17 = .ok (.goto 5, 3) := by decide +kernel
theorem dX11_held_2 : decode cX11_held 2 = .ok (.i2l, 1) := by decide +kernel
theorem dX11_held_20 : decode cX11_held 20 = .ok (.lload_n 0, 1) := by decide +kernel
theorem dX11_held_21 : decode cX11_held 21 = .ok (.l2i, 1) := by decide +kernel
theorem dX11_held_22 : decode cX11_held 22 = .ok (.ireturn, 1) := by decide +kernel
theorem dX11_held_3 : decode cX11_held 3 = .ok (.lcmp, 1) := by decide +kernel
theorem dX11_held_4 : decode cX11_held 4 = .ok (.ifCond .ge 5, 3) := by decide +kernel
theorem dX11_held_7 : decode cX11_held 7 = .ok (.iload_n 2, 1) := by decide +kernel
theorem dX11_held_8 : decode cX11_held 8 = .ok (.ireturn, 1) := by decide +kernel
theorem dX11_held_9 : decode cX11_held 9 = .ok (.lload_n 0, 1) := by decide +kernel
theorem dX6_addDrain_0 : decode cX6_addDrain 0 = .ok (.iconst 4, 1) := by decide +kernel
theorem dX6_addDrain_1 : decode cX6_addDrain 1 = .ok (.aload_n 0, 1) := by decide +kernel
theorem dX6_addDrain_10 : decode cX6_addDrain 10 = .ok (.iconst 4, 1) := by decide +kernel
theorem dX6_addDrain_11 : decode cX6_addDrain 11 = .ok (.iadd, 1) := by decide +kernel
theorem dX6_addDrain_12 : decode cX6_addDrain 12 = .ok (.aload_n 0, 1) := by decide +kernel
theorem dX6_addDrain_13 : decode cX6_addDrain 13 = .ok (.getfield 16, 3) := by decide +kernel
theorem dX6_addDrain_16 : decode cX6_addDrain 16 = .ok (.arraylength, 1) := by decide +kernel
theorem dX6_addDrain_17 : decode cX6_addDrain 17 = .ok (.if_icmp .le 4, 3) := by decide +kernel
theorem dX6_addDrain_2 : decode cX6_addDrain 2 = .ok (.getfield 41, 3) := by decide +kernel
theorem dX6_addDrain_20 : decode cX6_addDrain 20 = .ok (.return_, 1) := by decide +kernel
theorem dX6_addDrain_21 : decode cX6_addDrain 21 = .ok (.aload_n 0, 1) := by decide +kernel
theorem dX6_addDrain_22 : decode cX6_addDrain 22 = .ok (.getfield 16, 3) := by decide +kernel
theorem dX6_addDrain_25 : decode cX6_addDrain 25 = .ok (.iload 5, 2) := by decide +kernel
theorem dX6_addDrain_27 : decode cX6_addDrain 27 = .ok (.iload_n 1, 1) := by decide +kernel
theorem dX6_addDrain_28 : decode cX6_addDrain 28 = .ok (.iastore, 1) := by decide +kernel
theorem dX6_addDrain_29 : decode cX6_addDrain 29 = .ok (.aload_n 0, 1) := by decide +kernel
theorem dX6_addDrain_30 : decode cX6_addDrain 30 = .ok (.getfield 16, 3) := by decide +kernel
theorem dX6_addDrain_33 : decode cX6_addDrain 33 = .ok (.iload 5, 2) := by decide +kernel
theorem dX6_addDrain_35 : decode cX6_addDrain 35 = .ok (.iconst 1, 1) := by decide +kernel
theorem dX6_addDrain_36 : decode cX6_addDrain 36 = .ok (.iadd, 1) := by decide +kernel
theorem dX6_addDrain_37 : decode cX6_addDrain 37 = .ok (.iload_n 2, 1) := by decide +kernel
theorem dX6_addDrain_38 : decode cX6_addDrain 38 = .ok (.iastore, 1) := by decide +kernel
theorem dX6_addDrain_39 : decode cX6_addDrain 39 = .ok (.aload_n 0, 1) := by decide +kernel
theorem dX6_addDrain_40 : decode cX6_addDrain 40 = .ok (.getfield 16, 3) := by decide +kernel
theorem dX6_addDrain_43 : decode cX6_addDrain 43 = .ok (.iload 5, 2) := by decide +kernel
theorem dX6_addDrain_45 : decode cX6_addDrain 45 = .ok (.iconst 2, 1) := by decide +kernel
theorem dX6_addDrain_46 : decode cX6_addDrain 46 = .ok (.iadd, 1) := by decide +kernel
theorem dX6_addDrain_47 : decode cX6_addDrain 47 = .ok (.iload_n 3, 1) := by decide +kernel
theorem dX6_addDrain_48 : decode cX6_addDrain 48 = .ok (.iastore, 1) := by decide +kernel
theorem dX6_addDrain_49 : decode cX6_addDrain 49 = .ok (.aload_n 0, 1) := by decide +kernel
theorem dX6_addDrain_5 : decode cX6_addDrain 5 = .ok (.imul, 1) := by decide +kernel
theorem dX6_addDrain_50 : decode cX6_addDrain 50 = .ok (.getfield 16, 3) := by decide +kernel
theorem dX6_addDrain_53 : decode cX6_addDrain 53 = .ok (.iload 5, 2) := by decide +kernel
theorem dX6_addDrain_55 : decode cX6_addDrain 55 = .ok (.iconst 3, 1) := by decide +kernel
theorem dX6_addDrain_56 : decode cX6_addDrain 56 = .ok (.iadd, 1) := by decide +kernel
theorem dX6_addDrain_57 : decode cX6_addDrain 57 = .ok (.iload 4, 2) := by decide +kernel
theorem dX6_addDrain_59 : decode cX6_addDrain 59 = .ok (.iastore, 1) := by decide +kernel
theorem dX6_addDrain_6 : decode cX6_addDrain 6 = .ok (.istore 5, 2) := by decide +kernel
theorem dX6_addDrain_60 : decode cX6_addDrain 60 = .ok (.aload_n 0, 1) := by decide +kernel
theorem dX6_addDrain_61 : decode cX6_addDrain 61 = .ok (.dup, 1) := by decide +kernel
theorem dX6_addDrain_62 : decode cX6_addDrain 62 = .ok (.getfield 41, 3) := by decide +kernel
theorem dX6_addDrain_65 : decode cX6_addDrain 65 = .ok (.iconst 1, 1) := by decide +kernel
theorem dX6_addDrain_66 : decode cX6_addDrain 66 = .ok (.iadd, 1) := by decide +kernel
theorem dX6_addDrain_67 : decode cX6_addDrain 67 = .ok (.putfield 41, 3) := by decide +kernel
theorem dX6_addDrain_70 : decode cX6_addDrain 70 = .ok (.return_, 1) := by decide +kernel
theorem dX6_addDrain_8 : decode cX6_addDrain 8 = .ok (.iload 5, 2) := by decide +kernel
theorem dX6_addPerson_0 : decode cX6_addPerson 0 = .ok (.aload_n 0, 1) := by decide +kernel
theorem dX6_addPerson_1 : decode cX6_addPerson 1 = .ok (.aload_n 0, 1) := by decide +kernel
theorem dX6_addPerson_10 : decode cX6_addPerson 10 = .ok (.aload_n 0, 1) := by decide +kernel
theorem dX6_addPerson_11 : decode cX6_addPerson 11 = .ok (.dup, 1) := by decide +kernel
theorem dX6_addPerson_12 : decode cX6_addPerson 12 = .ok (.getfield 47, 3) := by decide +kernel
theorem dX6_addPerson_15 : decode cX6_addPerson 15 = .ok (.iconst 1, 1) := by decide +kernel
theorem dX6_addPerson_16 : decode cX6_addPerson 16 = .ok (.iadd, 1) := by decide +kernel
theorem dX6_addPerson_17 : decode cX6_addPerson 17 = .ok (.putfield 47, 3) := by decide +kernel
theorem dX6_addPerson_2 : decode cX6_addPerson 2 = .ok (.getfield 47, 3) := by decide +kernel
theorem dX6_addPerson_20 : decode cX6_addPerson 20 = .ok (.return_, 1) := by decide +kernel
theorem dX6_addPerson_5 : decode cX6_addPerson 5 = .ok (.iload_n 1, 1) := by decide +kernel
theorem dX6_addPerson_6 : decode cX6_addPerson 6 = .ok (.iload_n 2, 1) := by decide +kernel
theorem dX6_addPerson_7 : decode cX6_addPerson 7 = .ok (.invokevirtual 84, 3) := by decide +kernel
theorem dX6_addWork_0 : decode cX6_addWork 0 = .ok (.iconst 5, 1) := by decide +kernel
theorem dX6_addWork_1 : decode cX6_addWork 1 = .ok (.aload_n 0, 1) := by decide +kernel
theorem dX6_addWork_10 : decode cX6_addWork 10 = .ok (.iconst 5, 1) := by decide +kernel
theorem dX6_addWork_11 : decode cX6_addWork 11 = .ok (.iadd, 1) := by decide +kernel
theorem dX6_addWork_12 : decode cX6_addWork 12 = .ok (.aload_n 0, 1) := by decide +kernel
theorem dX6_addWork_13 : decode cX6_addWork 13 = .ok (.getfield 25, 3) := by decide +kernel
theorem dX6_addWork_16 : decode cX6_addWork 16 = .ok (.arraylength, 1) := by decide +kernel
theorem dX6_addWork_17 : decode cX6_addWork 17 = .ok (.if_icmp .le 4, 3) := by decide +kernel
theorem dX6_addWork_2 : decode cX6_addWork 2 = .ok (.getfield 56, 3) := by decide +kernel
theorem dX6_addWork_20 : decode cX6_addWork 20 = .ok (.return_, 1) := by decide +kernel
theorem dX6_addWork_21 : decode cX6_addWork 21 = .ok (.aload_n 0, 1) := by decide +kernel
theorem dX6_addWork_22 : decode cX6_addWork 22 = .ok (.getfield 25, 3) := by decide +kernel
theorem dX6_addWork_25 : decode cX6_addWork 25 = .ok (.iload 6, 2) := by decide +kernel
theorem dX6_addWork_27 : decode cX6_addWork 27 = .ok (.iload_n 1, 1) := by decide +kernel
theorem dX6_addWork_28 : decode cX6_addWork 28 = .ok (.iastore, 1) := by decide +kernel
theorem dX6_addWork_29 : decode cX6_addWork 29 = .ok (.aload_n 0, 1) := by decide +kernel
theorem dX6_addWork_30 : decode cX6_addWork 30 = .ok (.getfield 25, 3) := by decide +kernel
theorem dX6_addWork_33 : decode cX6_addWork 33 = .ok (.iload 6, 2) := by decide +kernel
theorem dX6_addWork_35 : decode cX6_addWork 35 = .ok (.iconst 1, 1) := by decide +kernel
theorem dX6_addWork_36 : decode cX6_addWork 36 = .ok (.iadd, 1) := by decide +kernel
theorem dX6_addWork_37 : decode cX6_addWork 37 = .ok (.iload_n 2, 1) := by decide +kernel
theorem dX6_addWork_38 : decode cX6_addWork 38 = .ok (.iastore, 1) := by decide +kernel
theorem dX6_addWork_39 : decode cX6_addWork 39 = .ok (.aload_n 0, 1) := by decide +kernel
theorem dX6_addWork_40 : decode cX6_addWork 40 = .ok (.getfield 25, 3) := by decide +kernel
theorem dX6_addWork_43 : decode cX6_addWork 43 = .ok (.iload 6, 2) := by decide +kernel
theorem dX6_addWork_45 : decode cX6_addWork 45 = .ok (.iconst 2, 1) := by decide +kernel
theorem dX6_addWork_46 : decode cX6_addWork 46 = .ok (.iadd, 1) := by decide +kernel
theorem dX6_addWork_47 : decode cX6_addWork 47 = .ok (.iload_n 3, 1) := by decide +kernel
theorem dX6_addWork_48 : decode cX6_addWork 48 = .ok (.iastore, 1) := by decide +kernel
theorem dX6_addWork_49 : decode cX6_addWork 49 = .ok (.aload_n 0, 1) := by decide +kernel
theorem dX6_addWork_5 : decode cX6_addWork 5 = .ok (.imul, 1) := by decide +kernel
theorem dX6_addWork_50 : decode cX6_addWork 50 = .ok (.getfield 25, 3) := by decide +kernel
theorem dX6_addWork_53 : decode cX6_addWork 53 = .ok (.iload 6, 2) := by decide +kernel
theorem dX6_addWork_55 : decode cX6_addWork 55 = .ok (.iconst 3, 1) := by decide +kernel
theorem dX6_addWork_56 : decode cX6_addWork 56 = .ok (.iadd, 1) := by decide +kernel
theorem dX6_addWork_57 : decode cX6_addWork 57 = .ok (.iload 4, 2) := by decide +kernel
theorem dX6_addWork_59 : decode cX6_addWork 59 = .ok (.iastore, 1) := by decide +kernel
theorem dX6_addWork_6 : decode cX6_addWork 6 = .ok (.istore 6, 2) := by decide +kernel
theorem dX6_addWork_60 : decode cX6_addWork 60 = .ok (.aload_n 0, 1) := by decide +kernel
theorem dX6_addWork_61 : decode cX6_addWork 61 = .ok (.getfield 25, 3) := by decide +kernel
theorem dX6_addWork_64 : decode cX6_addWork 64 = .ok (.iload 6, 2) := by decide +kernel
theorem dX6_addWork_66 : decode cX6_addWork 66 = .ok (.iconst 4, 1) := by decide +kernel
theorem dX6_addWork_67 : decode cX6_addWork 67 = .ok (.iadd, 1) := by decide +kernel
theorem dX6_addWork_68 : decode cX6_addWork 68 = .ok (.iload 5, 2) := by decide +kernel
theorem dX6_addWork_70 : decode cX6_addWork 70 = .ok (.iastore, 1) := by decide +kernel
theorem dX6_addWork_71 : decode cX6_addWork 71 = .ok (.aload_n 0, 1) := by decide +kernel
theorem dX6_addWork_72 : decode cX6_addWork 72 = .ok (.dup, 1) := by decide +kernel
theorem dX6_addWork_73 : decode cX6_addWork 73 = .ok (.getfield 56, 3) := by decide +kernel
theorem dX6_addWork_76 : decode cX6_addWork 76 = .ok (.iconst 1, 1) := by decide +kernel
theorem dX6_addWork_77 : decode cX6_addWork 77 = .ok (.iadd, 1) := by decide +kernel
theorem dX6_addWork_78 : decode cX6_addWork 78 = .ok (.putfield 56, 3) := by decide +kernel
theorem dX6_addWork_8 : decode cX6_addWork 8 = .ok (.iload 6, 2) := by decide +kernel
theorem dX6_addWork_81 : decode cX6_addWork 81 = .ok (.return_, 1) := by decide +kernel
theorem dX6_become_0 : decode cX6_become 0 = .ok (.aload_n 0, 1) := by decide +kernel
theorem dX6_become_1 : decode cX6_become 1 = .ok (.aload_n 1, 1) := by decide +kernel
theorem dX6_become_10 : decode cX6_become 10 = .ok (.getfield 32, 3) := by decide +kernel
theorem dX6_become_100 : decode cX6_become 100 = .ok (.getfield 19, 3) := by decide +kernel
theorem dX6_become_103 : decode cX6_become 103 = .ok (.iconst 0, 1) := by decide +kernel
theorem dX6_become_104 : decode cX6_become 104 = .ok (.aload_n 0, 1) := by decide +kernel
theorem dX6_become_105 : decode cX6_become 105 = .ok (.getfield 19, 3) := by decide +kernel
theorem dX6_become_108 : decode cX6_become 108 = .ok (.arraylength, 1) := by decide +kernel
theorem dX6_become_109 : decode cX6_become 109 = .ok (.invokestatic 74, 3) := by decide +kernel
theorem dX6_become_112 : decode cX6_become 112 = .ok (.aload_n 0, 1) := by decide +kernel
theorem dX6_become_113 : decode cX6_become 113 = .ok (.aload_n 1, 1) := by decide +kernel
theorem dX6_become_114 : decode cX6_become 114 = .ok (.getfield 50, 3) := by decide +kernel
theorem dX6_become_117 : decode cX6_become 117 = .ok (.putfield 50, 3) := by decide +kernel
theorem dX6_become_120 : decode cX6_become 120 = .ok (.aload_n 0, 1) := by decide +kernel
theorem dX6_become_121 : decode cX6_become 121 = .ok (.aload_n 1, 1) := by decide +kernel
theorem dX6_become_122 : decode cX6_become 122 = .ok (.getfield 53, 3) := by decide +kernel
theorem dX6_become_125 : decode cX6_become 125 = .ok (.putfield 53, 3) := by decide +kernel
theorem dX6_become_128 : decode cX6_become 128 = .ok (.aload_n 1, 1) := by decide +kernel
theorem dX6_become_129 : decode cX6_become 129 = .ok (.getfield 22, 3) := by decide +kernel
theorem dX6_become_13 : decode cX6_become 13 = .ok (.putfield 32, 3) := by decide +kernel
theorem dX6_become_132 : decode cX6_become 132 = .ok (.iconst 0, 1) := by decide +kernel
theorem dX6_become_133 : decode cX6_become 133 = .ok (.aload_n 0, 1) := by decide +kernel
theorem dX6_become_134 : decode cX6_become 134 = .ok (.getfield 22, 3) := by decide +kernel
theorem dX6_become_137 : decode cX6_become 137 = .ok (.iconst 0, 1) := by decide +kernel
theorem dX6_become_138 : decode cX6_become 138 = .ok (.aload_n 0, 1) := by decide +kernel
theorem dX6_become_139 : decode cX6_become 139 = .ok (.getfield 22, 3) := by decide +kernel
theorem dX6_become_142 : decode cX6_become 142 = .ok (.arraylength, 1) := by decide +kernel
theorem dX6_become_143 : decode cX6_become 143 = .ok (.invokestatic 74, 3) := by decide +kernel
theorem dX6_become_146 : decode cX6_become 146 = .ok (.aload_n 0, 1) := by decide +kernel
theorem dX6_become_147 : decode cX6_become 147 = .ok (.aload_n 1, 1) := by decide +kernel
theorem dX6_become_148 : decode cX6_become 148 = .ok (.getfield 56, 3) := by decide +kernel
theorem dX6_become_151 : decode cX6_become 151 = .ok (.putfield 56, 3) := by decide +kernel
theorem dX6_become_154 : decode cX6_become 154 = .ok (.aload_n 1, 1) := by decide +kernel
theorem dX6_become_155 : decode cX6_become 155 = .ok (.getfield 25, 3) := by decide +kernel
theorem dX6_become_158 : decode cX6_become 158 = .ok (.iconst 0, 1) := by decide +kernel
theorem dX6_become_159 : decode cX6_become 159 = .ok (.aload_n 0, 1) := by decide +kernel
theorem dX6_become_16 : decode cX6_become 16 = .ok (.aload_n 1, 1) := by decide +kernel
theorem dX6_become_160 : decode cX6_become 160 = .ok (.getfield 25, 3) := by decide +kernel
theorem dX6_become_163 : decode cX6_become 163 = .ok (.iconst 0, 1) := by decide +kernel
theorem dX6_become_164 : decode cX6_become 164 = .ok (.aload_n 0, 1) := by decide +kernel
theorem dX6_become_165 : decode cX6_become 165 = .ok (.getfield 25, 3) := by decide +kernel
theorem dX6_become_168 : decode cX6_become 168 = .ok (.arraylength, 1) := by decide +kernel
theorem dX6_become_169 : decode cX6_become 169 = .ok (.invokestatic 74, 3) := by decide +kernel
theorem dX6_become_17 : decode cX6_become 17 = .ok (.getfield 9, 3) := by decide +kernel
theorem dX6_become_172 : decode cX6_become 172 = .ok (.aload_n 0, 1) := by decide +kernel
theorem dX6_become_173 : decode cX6_become 173 = .ok (.aload_n 1, 1) := by decide +kernel
theorem dX6_become_174 : decode cX6_become 174 = .ok (.getfield 59, 3) := by decide +kernel
theorem dX6_become_177 : decode cX6_become 177 = .ok (.putfield 59, 3) := by decide +kernel
theorem dX6_become_180 : decode cX6_become 180 = .ok (.aload_n 0, 1) := by decide +kernel
theorem dX6_become_181 : decode cX6_become 181 = .ok (.aload_n 1, 1) := by decide +kernel
theorem dX6_become_182 : decode cX6_become 182 = .ok (.getfield 62, 3) := by decide +kernel
theorem dX6_become_185 : decode cX6_become 185 = .ok (.putfield 62, 3) := by decide +kernel
theorem dX6_become_188 : decode cX6_become 188 = .ok (.aload_n 0, 1) := by decide +kernel
theorem dX6_become_189 : decode cX6_become 189 = .ok (.aload_n 1, 1) := by decide +kernel
theorem dX6_become_190 : decode cX6_become 190 = .ok (.getfield 65, 3) := by decide +kernel
theorem dX6_become_193 : decode cX6_become 193 = .ok (.putfield 65, 3) := by decide +kernel
theorem dX6_become_196 : decode cX6_become 196 = .ok (.aload_n 0, 1) := by decide +kernel
theorem dX6_become_197 : decode cX6_become 197 = .ok (.aload_n 1, 1) := by decide +kernel
theorem dX6_become_198 : decode cX6_become 198 = .ok (.getfield 68, 3) := by decide +kernel
theorem dX6_become_2 : decode cX6_become 2 = .ok (.getfield 28, 3) := by decide +kernel
theorem dX6_become_20 : decode cX6_become 20 = .ok (.iconst 0, 1) := by decide +kernel
theorem dX6_become_201 : decode cX6_become 201 = .ok (.putfield 68, 3) := by decide +kernel
theorem dX6_become_204 : decode cX6_become 204 = .ok (.aload_n 0, 1) := by decide +kernel
theorem dX6_become_205 : decode cX6_become 205 = .ok (.aload_n 1, 1) := by decide +kernel
theorem dX6_become_206 : decode cX6_become 206 = .ok (.getfield 71, 3) := by decide +kernel
theorem dX6_become_209 : decode cX6_become 209 = .ok (.putfield 71, 3) := by decide +kernel
theorem dX6_become_21 : decode cX6_become 21 = .ok (.aload_n 0, 1) := by decide +kernel
theorem dX6_become_212 : decode cX6_become 212 = .ok (.return_, 1) := by decide +kernel
theorem dX6_become_22 : decode cX6_become 22 = .ok (.getfield 9, 3) := by decide +kernel
theorem dX6_become_25 : decode cX6_become 25 = .ok (.iconst 0, 1) := by decide +kernel
theorem dX6_become_26 : decode cX6_become 26 = .ok (.aload_n 0, 1) := by decide +kernel
theorem dX6_become_27 : decode cX6_become 27 = .ok (.getfield 9, 3) := by decide +kernel
theorem dX6_become_30 : decode cX6_become 30 = .ok (.arraylength, 1) := by decide +kernel
theorem dX6_become_31 : decode cX6_become 31 = .ok (.invokestatic 74, 3) := by decide +kernel
theorem dX6_become_34 : decode cX6_become 34 = .ok (.aload_n 1, 1) := by decide +kernel
theorem dX6_become_35 : decode cX6_become 35 = .ok (.getfield 13, 3) := by decide +kernel
theorem dX6_become_38 : decode cX6_become 38 = .ok (.iconst 0, 1) := by decide +kernel
theorem dX6_become_39 : decode cX6_become 39 = .ok (.aload_n 0, 1) := by decide +kernel
theorem dX6_become_40 : decode cX6_become 40 = .ok (.getfield 13, 3) := by decide +kernel
theorem dX6_become_43 : decode cX6_become 43 = .ok (.iconst 0, 1) := by decide +kernel
theorem dX6_become_44 : decode cX6_become 44 = .ok (.aload_n 0, 1) := by decide +kernel
theorem dX6_become_45 : decode cX6_become 45 = .ok (.getfield 13, 3) := by decide +kernel
theorem dX6_become_48 : decode cX6_become 48 = .ok (.arraylength, 1) := by decide +kernel
theorem dX6_become_49 : decode cX6_become 49 = .ok (.invokestatic 74, 3) := by decide +kernel
theorem dX6_become_5 : decode cX6_become 5 = .ok (.putfield 28, 3) := by decide +kernel
theorem dX6_become_52 : decode cX6_become 52 = .ok (.aload_n 0, 1) := by decide +kernel
theorem dX6_become_53 : decode cX6_become 53 = .ok (.aload_n 1, 1) := by decide +kernel
theorem dX6_become_54 : decode cX6_become 54 = .ok (.getfield 41, 3) := by decide +kernel
theorem dX6_become_57 : decode cX6_become 57 = .ok (.putfield 41, 3) := by decide +kernel
theorem dX6_become_60 : decode cX6_become 60 = .ok (.aload_n 0, 1) := by decide +kernel
theorem dX6_become_61 : decode cX6_become 61 = .ok (.aload_n 1, 1) := by decide +kernel
theorem dX6_become_62 : decode cX6_become 62 = .ok (.getfield 44, 3) := by decide +kernel
theorem dX6_become_65 : decode cX6_become 65 = .ok (.putfield 44, 3) := by decide +kernel
theorem dX6_become_68 : decode cX6_become 68 = .ok (.aload_n 1, 1) := by decide +kernel
theorem dX6_become_69 : decode cX6_become 69 = .ok (.getfield 16, 3) := by decide +kernel
theorem dX6_become_72 : decode cX6_become 72 = .ok (.iconst 0, 1) := by decide +kernel
theorem dX6_become_73 : decode cX6_become 73 = .ok (.aload_n 0, 1) := by decide +kernel
theorem dX6_become_74 : decode cX6_become 74 = .ok (.getfield 16, 3) := by decide +kernel
theorem dX6_become_77 : decode cX6_become 77 = .ok (.iconst 0, 1) := by decide +kernel
theorem dX6_become_78 : decode cX6_become 78 = .ok (.aload_n 0, 1) := by decide +kernel
theorem dX6_become_79 : decode cX6_become 79 = .ok (.getfield 16, 3) := by decide +kernel
theorem dX6_become_8 : decode cX6_become 8 = .ok (.aload_n 0, 1) := by decide +kernel
theorem dX6_become_82 : decode cX6_become 82 = .ok (.arraylength, 1) := by decide +kernel
theorem dX6_become_83 : decode cX6_become 83 = .ok (.invokestatic 74, 3) := by decide +kernel
theorem dX6_become_86 : decode cX6_become 86 = .ok (.aload_n 0, 1) := by decide +kernel
theorem dX6_become_87 : decode cX6_become 87 = .ok (.aload_n 1, 1) := by decide +kernel
theorem dX6_become_88 : decode cX6_become 88 = .ok (.getfield 47, 3) := by decide +kernel
theorem dX6_become_9 : decode cX6_become 9 = .ok (.aload_n 1, 1) := by decide +kernel
theorem dX6_become_91 : decode cX6_become 91 = .ok (.putfield 47, 3) := by decide +kernel
theorem dX6_become_94 : decode cX6_become 94 = .ok (.aload_n 1, 1) := by decide +kernel
theorem dX6_become_95 : decode cX6_become 95 = .ok (.getfield 19, 3) := by decide +kernel
theorem dX6_become_98 : decode cX6_become 98 = .ok (.iconst 0, 1) := by decide +kernel
theorem dX6_become_99 : decode cX6_become 99 = .ok (.aload_n 0, 1) := by decide +kernel
theorem dX6_changeHeight_0 : decode cX6_changeHeight 0 = .ok (.aload_n 0, 1) := by decide +kernel
theorem dX6_changeHeight_1 : decode cX6_changeHeight 1 = .ok (.getfield 9, 3) := by decide +kernel
theorem dX6_changeHeight_10 : decode cX6_changeHeight 10 = .ok (.iaload, 1) := by decide +kernel
theorem dX6_changeHeight_11 : decode cX6_changeHeight 11 = .ok (.iload_n 2, 1) := by decide +kernel
theorem dX6_changeHeight_12 : decode cX6_changeHeight 12 = .ok (.iadd, 1) := by decide +kernel
theorem dX6_changeHeight_13 : decode cX6_changeHeight 13 = .ok (.i2l, 1) := by decide +kernel
theorem dX6_changeHeight_14 : decode cX6_changeHeight 14 = .ok (.iconst 0, 1) := by decide +kernel
theorem dX6_changeHeight_15 : decode cX6_changeHeight 15 = .ok (.bipush 99, 2) := by decide +kernel
theorem dX6_changeHeight_17 : decode cX6_changeHeight 17 = .ok (.invokestatic 100, 3) := by decide +kernel
theorem dX6_changeHeight_20 : decode cX6_changeHeight 20 = .ok (.iastore, 1) := by decide +kernel
theorem dX6_changeHeight_21 : decode cX6_changeHeight 21 = .ok (.return_, 1) := by decide +kernel
theorem dX6_changeHeight_4 : decode cX6_changeHeight 4 = .ok (.iload_n 1, 1) := by decide +kernel
theorem dX6_changeHeight_5 : decode cX6_changeHeight 5 = .ok (.aload_n 0, 1) := by decide +kernel
theorem dX6_changeHeight_6 : decode cX6_changeHeight 6 = .ok (.getfield 9, 3) := by decide +kernel
theorem dX6_changeHeight_9 : decode cX6_changeHeight 9 = .ok (.iload_n 1, 1) := by decide +kernel
theorem dX6_doWork_0 : decode cX6_doWork 0 = .ok (.aload_n 0, 1) := by decide +kernel
theorem dX6_doWork_1 : decode cX6_doWork 1 = .ok (.getfield 59, 3) := by decide +kernel
theorem dX6_doWork_100 : decode cX6_doWork 100 = .ok (.iadd, 1) := by decide +kernel
theorem dX6_doWork_101 : decode cX6_doWork 101 = .ok (.iconst 0, 1) := by decide +kernel
theorem dX6_doWork_102 : decode cX6_doWork 102 = .ok (.iastore, 1) := by decide +kernel
theorem dX6_doWork_103 : decode cX6_doWork 103 = .ok (.goto 46, 3) := by decide +kernel
theorem dX6_doWork_106 : decode cX6_doWork 106 = .ok (.aload_n 0, 1) := by decide +kernel
theorem dX6_doWork_107 : decode cX6_doWork 107 = .ok (.aload_n 0, 1) := by decide +kernel
theorem dX6_doWork_108 : decode cX6_doWork 108 = .ok (.iload_n 3, 1) := by decide +kernel
theorem dX6_doWork_109 : decode cX6_doWork 109 = .ok (.iload 4, 2) := by decide +kernel
theorem dX6_doWork_11 : decode cX6_doWork 11 = .ok (.iconst 0, 1) := by decide +kernel
theorem dX6_doWork_111 : decode cX6_doWork 111 = .ok (.invokevirtual 88, 3) := by decide +kernel
theorem dX6_doWork_114 : decode cX6_doWork 114 = .ok (.iload 5, 2) := by decide +kernel
theorem dX6_doWork_116 : decode cX6_doWork 116 = .ok (.invokevirtual 92, 3) := by decide +kernel
theorem dX6_doWork_119 : decode cX6_doWork 119 = .ok (.goto 30, 3) := by decide +kernel
theorem dX6_doWork_12 : decode cX6_doWork 12 = .ok (.ireturn, 1) := by decide +kernel
theorem dX6_doWork_122 : decode cX6_doWork 122 = .ok (.aload_n 0, 1) := by decide +kernel
theorem dX6_doWork_123 : decode cX6_doWork 123 = .ok (.aload_n 0, 1) := by decide +kernel
theorem dX6_doWork_124 : decode cX6_doWork 124 = .ok (.iload_n 3, 1) := by decide +kernel
theorem dX6_doWork_125 : decode cX6_doWork 125 = .ok (.iload 4, 2) := by decide +kernel
theorem dX6_doWork_127 : decode cX6_doWork 127 = .ok (.invokevirtual 88, 3) := by decide +kernel
theorem dX6_doWork_13 : decode cX6_doWork 13 = .ok (.aload_n 0, 1) := by decide +kernel
theorem dX6_doWork_130 : decode cX6_doWork 130 = .ok (.iload 5, 2) := by decide +kernel
theorem dX6_doWork_132 : decode cX6_doWork 132 = .ok (.ineg, 1) := by decide +kernel
theorem dX6_doWork_133 : decode cX6_doWork 133 = .ok (.invokevirtual 92, 3) := by decide +kernel
theorem dX6_doWork_136 : decode cX6_doWork 136 = .ok (.goto 13, 3) := by decide +kernel
theorem dX6_doWork_139 : decode cX6_doWork 139 = .ok (.aload_n 0, 1) := by decide +kernel
theorem dX6_doWork_14 : decode cX6_doWork 14 = .ok (.dup, 1) := by decide +kernel
theorem dX6_doWork_140 : decode cX6_doWork 140 = .ok (.iload_n 3, 1) := by decide +kernel
theorem dX6_doWork_141 : decode cX6_doWork 141 = .ok (.iload 4, 2) := by decide +kernel
theorem dX6_doWork_143 : decode cX6_doWork 143 = .ok (.iload 5, 2) := by decide +kernel
theorem dX6_doWork_145 : decode cX6_doWork 145 = .ok (.iconst 0, 1) := by decide +kernel
theorem dX6_doWork_146 : decode cX6_doWork 146 = .ok (.invokevirtual 96, 3) := by decide +kernel
theorem dX6_doWork_149 : decode cX6_doWork 149 = .ok (.iconst 1, 1) := by decide +kernel
theorem dX6_doWork_15 : decode cX6_doWork 15 = .ok (.getfield 59, 3) := by decide +kernel
theorem dX6_doWork_150 : decode cX6_doWork 150 = .ok (.ireturn, 1) := by decide +kernel
theorem dX6_doWork_18 : decode cX6_doWork 18 = .ok (.iconst 1, 1) := by decide +kernel
theorem dX6_doWork_19 : decode cX6_doWork 19 = .ok (.iload_n 1, 1) := by decide +kernel
theorem dX6_doWork_20 : decode cX6_doWork 20 = .ok (.ishl, 1) := by decide +kernel
theorem dX6_doWork_21 : decode cX6_doWork 21 = .ok (.ior, 1) := by decide +kernel
theorem dX6_doWork_22 : decode cX6_doWork 22 = .ok (.putfield 59, 3) := by decide +kernel
theorem dX6_doWork_25 : decode cX6_doWork 25 = .ok (.iconst 5, 1) := by decide +kernel
theorem dX6_doWork_26 : decode cX6_doWork 26 = .ok (.iload_n 1, 1) := by decide +kernel
theorem dX6_doWork_27 : decode cX6_doWork 27 = .ok (.imul, 1) := by decide +kernel
theorem dX6_doWork_28 : decode cX6_doWork 28 = .ok (.istore_n 2, 1) := by decide +kernel
theorem dX6_doWork_29 : decode cX6_doWork 29 = .ok (.aload_n 0, 1) := by decide +kernel
theorem dX6_doWork_30 : decode cX6_doWork 30 = .ok (.getfield 25, 3) := by decide +kernel
theorem dX6_doWork_33 : decode cX6_doWork 33 = .ok (.iload_n 2, 1) := by decide +kernel
theorem dX6_doWork_34 : decode cX6_doWork 34 = .ok (.iconst 2, 1) := by decide +kernel
theorem dX6_doWork_35 : decode cX6_doWork 35 = .ok (.iadd, 1) := by decide +kernel
theorem dX6_doWork_36 : decode cX6_doWork 36 = .ok (.iaload, 1) := by decide +kernel
theorem dX6_doWork_37 : decode cX6_doWork 37 = .ok (.istore_n 3, 1) := by decide +kernel
theorem dX6_doWork_38 : decode cX6_doWork 38 = .ok (.aload_n 0, 1) := by decide +kernel
theorem dX6_doWork_39 : decode cX6_doWork 39 = .ok (.getfield 25, 3) := by decide +kernel
theorem dX6_doWork_4 : decode cX6_doWork 4 = .ok (.iload_n 1, 1) := by decide +kernel
theorem dX6_doWork_42 : decode cX6_doWork 42 = .ok (.iload_n 2, 1) := by decide +kernel
theorem dX6_doWork_43 : decode cX6_doWork 43 = .ok (.iconst 3, 1) := by decide +kernel
theorem dX6_doWork_44 : decode cX6_doWork 44 = .ok (.iadd, 1) := by decide +kernel
theorem dX6_doWork_45 : decode cX6_doWork 45 = .ok (.iaload, 1) := by decide +kernel
theorem dX6_doWork_46 : decode cX6_doWork 46 = .ok (.istore 4, 2) := by decide +kernel
theorem dX6_doWork_48 : decode cX6_doWork 48 = .ok (.aload_n 0, 1) := by decide +kernel
theorem dX6_doWork_49 : decode cX6_doWork 49 = .ok (.getfield 25, 3) := by decide +kernel
theorem dX6_doWork_5 : decode cX6_doWork 5 = .ok (.ishr, 1) := by decide +kernel
theorem dX6_doWork_52 : decode cX6_doWork 52 = .ok (.iload_n 2, 1) := by decide +kernel
theorem dX6_doWork_53 : decode cX6_doWork 53 = .ok (.iconst 4, 1) := by decide +kernel
theorem dX6_doWork_54 : decode cX6_doWork 54 = .ok (.iadd, 1) := by decide +kernel
theorem dX6_doWork_55 : decode cX6_doWork 55 = .ok (.iaload, 1) := by decide +kernel
theorem dX6_doWork_56 : decode cX6_doWork 56 = .ok (.istore 5, 2) := by decide +kernel
theorem dX6_doWork_58 : decode cX6_doWork 58 = .ok (.aload_n 0, 1) := by decide +kernel
theorem dX6_doWork_59 : decode cX6_doWork 59 = .ok (.getfield 25, 3) := by decide +kernel
theorem dX6_doWork_6 : decode cX6_doWork 6 = .ok (.iconst 1, 1) := by decide +kernel
theorem dX6_doWork_62 : decode cX6_doWork 62 = .ok (.iload_n 2, 1) := by decide +kernel
theorem dX6_doWork_63 : decode cX6_doWork 63 = .ok (.iaload, 1) := by decide +kernel
theorem dX6_doWork_64 : decode cX6_doWork 64 = .ok (.tableswitch 75 0 2 #[28, 42, 58], 28) := by decide +kernel
theorem dX6_doWork_7 : decode cX6_doWork 7 = .ok (.iand, 1) := by decide +kernel
theorem dX6_doWork_8 : decode cX6_doWork 8 = .ok (.ifCond .eq 5, 3) := by decide +kernel
theorem dX6_doWork_92 : decode cX6_doWork 92 = .ok (.aload_n 0, 1) := by decide +kernel
theorem dX6_doWork_93 : decode cX6_doWork 93 = .ok (.getfield 16, 3) := by decide +kernel
theorem dX6_doWork_96 : decode cX6_doWork 96 = .ok (.iconst 4, 1) := by decide +kernel
theorem dX6_doWork_97 : decode cX6_doWork 97 = .ok (.iload_n 3, 1) := by decide +kernel
theorem dX6_doWork_98 : decode cX6_doWork 98 = .ok (.imul, 1) := by decide +kernel
theorem dX6_doWork_99 : decode cX6_doWork 99 = .ok (.iconst 3, 1) := by decide +kernel
theorem dX6_doWorks_0 : decode cX6_doWorks 0 = .ok (.iconst 0, 1) := by decide +kernel
theorem dX6_doWorks_1 : decode cX6_doWorks 1 = .ok (.istore_n 2, 1) := by decide +kernel
theorem dX6_doWorks_10 : decode cX6_doWorks 10 = .ok (.iload_n 1, 1) := by decide +kernel
theorem dX6_doWorks_11 : decode cX6_doWorks 11 = .ok (.iload_n 2, 1) := by decide +kernel
theorem dX6_doWorks_12 : decode cX6_doWorks 12 = .ok (.ishr, 1) := by decide +kernel
theorem dX6_doWorks_13 : decode cX6_doWorks 13 = .ok (.iconst 1, 1) := by decide +kernel
theorem dX6_doWorks_14 : decode cX6_doWorks 14 = .ok (.iand, 1) := by decide +kernel
theorem dX6_doWorks_15 : decode cX6_doWorks 15 = .ok (.ifCond .eq 9, 3) := by decide +kernel
theorem dX6_doWorks_18 : decode cX6_doWorks 18 = .ok (.aload_n 0, 1) := by decide +kernel
theorem dX6_doWorks_19 : decode cX6_doWorks 19 = .ok (.iload_n 2, 1) := by decide +kernel
theorem dX6_doWorks_2 : decode cX6_doWorks 2 = .ok (.iload_n 2, 1) := by decide +kernel
theorem dX6_doWorks_20 : decode cX6_doWorks 20 = .ok (.invokevirtual 106, 3) := by decide +kernel
theorem dX6_doWorks_23 : decode cX6_doWorks 23 = .ok (.pop, 1) := by decide +kernel
theorem dX6_doWorks_24 : decode cX6_doWorks 24 = .ok (.iinc 2 1, 3) := by decide +kernel
theorem dX6_doWorks_27 : decode cX6_doWorks 27 = .ok (.goto (-25), 3) := by decide +kernel
theorem dX6_doWorks_3 : decode cX6_doWorks 3 = .ok (.aload_n 0, 1) := by decide +kernel
theorem dX6_doWorks_30 : decode cX6_doWorks 30 = .ok (.return_, 1) := by decide +kernel
theorem dX6_doWorks_4 : decode cX6_doWorks 4 = .ok (.getfield 56, 3) := by decide +kernel
theorem dX6_doWorks_7 : decode cX6_doWorks 7 = .ok (.if_icmp .ge 23, 3) := by decide +kernel
theorem dX6_guessPerson_0 : decode cX6_guessPerson 0 = .ok (.iconst 0, 1) := by decide +kernel
theorem dX6_guessPerson_1 : decode cX6_guessPerson 1 = .ok (.istore_n 3, 1) := by decide +kernel
theorem dX6_guessPerson_12 : decode cX6_guessPerson 12 = .ok (.iload_n 3, 1) := by decide +kernel
theorem dX6_guessPerson_13 : decode cX6_guessPerson 13 = .ok (.iadd, 1) := by decide +kernel
theorem dX6_guessPerson_14 : decode cX6_guessPerson 14 = .ok (.iload_n 1, 1) := by decide +kernel
theorem dX6_guessPerson_15 : decode cX6_guessPerson 15 = .ok (.iload_n 3, 1) := by decide +kernel
theorem dX6_guessPerson_16 : decode cX6_guessPerson 16 = .ok (.invokevirtual 84, 3) := by decide +kernel
theorem dX6_guessPerson_19 : decode cX6_guessPerson 19 = .ok (.iinc 3 1, 3) := by decide +kernel
theorem dX6_guessPerson_2 : decode cX6_guessPerson 2 = .ok (.iload_n 3, 1) := by decide +kernel
theorem dX6_guessPerson_22 : decode cX6_guessPerson 22 = .ok (.goto (-20), 3) := by decide +kernel
theorem dX6_guessPerson_25 : decode cX6_guessPerson 25 = .ok (.aload_n 0, 1) := by decide +kernel
theorem dX6_guessPerson_26 : decode cX6_guessPerson 26 = .ok (.iload_n 2, 1) := by decide +kernel
theorem dX6_guessPerson_27 : decode cX6_guessPerson 27 = .ok (.iconst 1, 1) := by decide +kernel
theorem dX6_guessPerson_28 : decode cX6_guessPerson 28 = .ok (.iadd, 1) := by decide +kernel
theorem dX6_guessPerson_29 : decode cX6_guessPerson 29 = .ok (.putfield 50, 3) := by decide +kernel
theorem dX6_guessPerson_3 : decode cX6_guessPerson 3 = .ok (.iload_n 2, 1) := by decide +kernel
theorem dX6_guessPerson_32 : decode cX6_guessPerson 32 = .ok (.return_, 1) := by decide +kernel
theorem dX6_guessPerson_4 : decode cX6_guessPerson 4 = .ok (.if_icmp .gt 21, 3) := by decide +kernel
theorem dX6_guessPerson_7 : decode cX6_guessPerson 7 = .ok (.aload_n 0, 1) := by decide +kernel
theorem dX6_guessPerson_8 : decode cX6_guessPerson 8 = .ok (.aload_n 0, 1) := by decide +kernel
theorem dX6_guessPerson_9 : decode cX6_guessPerson 9 = .ok (.getfield 47, 3) := by decide +kernel
theorem dX6_passRain_0 : decode cX6_passRain 0 = .ok (.aload_n 1, 1) := by decide +kernel
theorem dX6_passRain_1 : decode cX6_passRain 1 = .ok (.getfield 119, 3) := by decide +kernel
theorem dX6_passRain_11 : decode cX6_passRain 11 = .ok (.isub, 1) := by decide +kernel
theorem dX6_passRain_12 : decode cX6_passRain 12 = .ok (.invokestatic 110, 3) := by decide +kernel
theorem dX6_passRain_15 : decode cX6_passRain 15 = .ok (.istore_n 2, 1) := by decide +kernel
theorem dX6_passRain_16 : decode cX6_passRain 16 = .ok (.iconst 0, 1) := by decide +kernel
theorem dX6_passRain_17 : decode cX6_passRain 17 = .ok (.istore_n 3, 1) := by decide +kernel
theorem dX6_passRain_18 : decode cX6_passRain 18 = .ok (.iload_n 3, 1) := by decide +kernel
theorem dX6_passRain_19 : decode cX6_passRain 19 = .ok (.iload_n 2, 1) := by decide +kernel
theorem dX6_passRain_20 : decode cX6_passRain 20 = .ok (.if_icmp .ge 19, 3) := by decide +kernel
theorem dX6_passRain_23 : decode cX6_passRain 23 = .ok (.aload_n 0, 1) := by decide +kernel
theorem dX6_passRain_24 : decode cX6_passRain 24 = .ok (.aload_n 1, 1) := by decide +kernel
theorem dX6_passRain_25 : decode cX6_passRain 25 = .ok (.getfield 122, 3) := by decide +kernel
theorem dX6_passRain_28 : decode cX6_passRain 28 = .ok (.iload_n 3, 1) := by decide +kernel
theorem dX6_passRain_29 : decode cX6_passRain 29 = .ok (.iaload, 1) := by decide +kernel
theorem dX6_passRain_30 : decode cX6_passRain 30 = .ok (.invokevirtual 115, 3) := by decide +kernel
theorem dX6_passRain_33 : decode cX6_passRain 33 = .ok (.iinc 3 1, 3) := by decide +kernel
theorem dX6_passRain_36 : decode cX6_passRain 36 = .ok (.goto (-18), 3) := by decide +kernel
theorem dX6_passRain_39 : decode cX6_passRain 39 = .ok (.iload_n 2, 1) := by decide +kernel
theorem dX6_passRain_4 : decode cX6_passRain 4 = .ok (.sipush 600, 3) := by decide +kernel
theorem dX6_passRain_40 : decode cX6_passRain 40 = .ok (.ireturn, 1) := by decide +kernel
theorem dX6_passRain_7 : decode cX6_passRain 7 = .ok (.aload_n 0, 1) := by decide +kernel
theorem dX6_passRain_8 : decode cX6_passRain 8 = .ok (.getfield 62, 3) := by decide +kernel
theorem dX6_reset_0 : decode cX6_reset 0 = .ok (.aload_n 0, 1) := by decide +kernel
theorem dX6_reset_1 : decode cX6_reset 1 = .ok (.bipush 8, 2) := by decide +kernel
theorem dX6_reset_11 : decode cX6_reset 11 = .ok (.aload_n 0, 1) := by decide +kernel
theorem dX6_reset_12 : decode cX6_reset 12 = .ok (.getfield 9, 3) := by decide +kernel
theorem dX6_reset_15 : decode cX6_reset 15 = .ok (.bipush 50, 2) := by decide +kernel
theorem dX6_reset_17 : decode cX6_reset 17 = .ok (.invokestatic 35, 3) := by decide +kernel
theorem dX6_reset_20 : decode cX6_reset 20 = .ok (.aload_n 0, 1) := by decide +kernel
theorem dX6_reset_21 : decode cX6_reset 21 = .ok (.getfield 13, 3) := by decide +kernel
theorem dX6_reset_24 : decode cX6_reset 24 = .ok (.iconst 0, 1) := by decide +kernel
theorem dX6_reset_25 : decode cX6_reset 25 = .ok (.invokestatic 35, 3) := by decide +kernel
theorem dX6_reset_28 : decode cX6_reset 28 = .ok (.aload_n 0, 1) := by decide +kernel
theorem dX6_reset_29 : decode cX6_reset 29 = .ok (.iconst 0, 1) := by decide +kernel
theorem dX6_reset_3 : decode cX6_reset 3 = .ok (.putfield 28, 3) := by decide +kernel
theorem dX6_reset_30 : decode cX6_reset 30 = .ok (.putfield 41, 3) := by decide +kernel
theorem dX6_reset_33 : decode cX6_reset 33 = .ok (.aload_n 0, 1) := by decide +kernel
theorem dX6_reset_34 : decode cX6_reset 34 = .ok (.iconst 0, 1) := by decide +kernel
theorem dX6_reset_35 : decode cX6_reset 35 = .ok (.putfield 44, 3) := by decide +kernel
theorem dX6_reset_38 : decode cX6_reset 38 = .ok (.aload_n 0, 1) := by decide +kernel
theorem dX6_reset_39 : decode cX6_reset 39 = .ok (.iconst 0, 1) := by decide +kernel
theorem dX6_reset_40 : decode cX6_reset 40 = .ok (.putfield 47, 3) := by decide +kernel
theorem dX6_reset_43 : decode cX6_reset 43 = .ok (.aload_n 0, 1) := by decide +kernel
theorem dX6_reset_44 : decode cX6_reset 44 = .ok (.iconst 0, 1) := by decide +kernel
theorem dX6_reset_45 : decode cX6_reset 45 = .ok (.putfield 50, 3) := by decide +kernel
theorem dX6_reset_48 : decode cX6_reset 48 = .ok (.aload_n 0, 1) := by decide +kernel
theorem dX6_reset_49 : decode cX6_reset 49 = .ok (.iconst 0, 1) := by decide +kernel
theorem dX6_reset_50 : decode cX6_reset 50 = .ok (.putfield 53, 3) := by decide +kernel
theorem dX6_reset_53 : decode cX6_reset 53 = .ok (.aload_n 0, 1) := by decide +kernel
theorem dX6_reset_54 : decode cX6_reset 54 = .ok (.iconst 0, 1) := by decide +kernel
theorem dX6_reset_55 : decode cX6_reset 55 = .ok (.putfield 56, 3) := by decide +kernel
theorem dX6_reset_58 : decode cX6_reset 58 = .ok (.aload_n 0, 1) := by decide +kernel
theorem dX6_reset_59 : decode cX6_reset 59 = .ok (.iconst 0, 1) := by decide +kernel
theorem dX6_reset_6 : decode cX6_reset 6 = .ok (.aload_n 0, 1) := by decide +kernel
theorem dX6_reset_60 : decode cX6_reset 60 = .ok (.putfield 59, 3) := by decide +kernel
theorem dX6_reset_63 : decode cX6_reset 63 = .ok (.aload_n 0, 1) := by decide +kernel
theorem dX6_reset_64 : decode cX6_reset 64 = .ok (.iconst 0, 1) := by decide +kernel
theorem dX6_reset_65 : decode cX6_reset 65 = .ok (.putfield 62, 3) := by decide +kernel
theorem dX6_reset_68 : decode cX6_reset 68 = .ok (.aload_n 0, 1) := by decide +kernel
theorem dX6_reset_69 : decode cX6_reset 69 = .ok (.iconst 0, 1) := by decide +kernel
theorem dX6_reset_7 : decode cX6_reset 7 = .ok (.iconst 3, 1) := by decide +kernel
theorem dX6_reset_70 : decode cX6_reset 70 = .ok (.putfield 65, 3) := by decide +kernel
theorem dX6_reset_73 : decode cX6_reset 73 = .ok (.aload_n 0, 1) := by decide +kernel
theorem dX6_reset_74 : decode cX6_reset 74 = .ok (.iconst 0, 1) := by decide +kernel
theorem dX6_reset_75 : decode cX6_reset 75 = .ok (.putfield 68, 3) := by decide +kernel
theorem dX6_reset_78 : decode cX6_reset 78 = .ok (.aload_n 0, 1) := by decide +kernel
theorem dX6_reset_79 : decode cX6_reset 79 = .ok (.iconst 0, 1) := by decide +kernel
theorem dX6_reset_8 : decode cX6_reset 8 = .ok (.putfield 32, 3) := by decide +kernel
theorem dX6_reset_80 : decode cX6_reset 80 = .ok (.putfield 71, 3) := by decide +kernel
theorem dX6_reset_83 : decode cX6_reset 83 = .ok (.return_, 1) := by decide +kernel
theorem dX6_stepAll_0 : decode cX6_stepAll 0 = .ok (.iconst 0, 1) := by decide +kernel
theorem dX6_stepAll_1 : decode cX6_stepAll 1 = .ok (.istore_n 2, 1) := by decide +kernel
theorem dX6_stepAll_10 : decode cX6_stepAll 10 = .ok (.aload_n 0, 1) := by decide +kernel
theorem dX6_stepAll_11 : decode cX6_stepAll 11 = .ok (.getfield 19, 3) := by decide +kernel
theorem dX6_stepAll_14 : decode cX6_stepAll 14 = .ok (.iconst 4, 1) := by decide +kernel
theorem dX6_stepAll_15 : decode cX6_stepAll 15 = .ok (.iload_n 2, 1) := by decide +kernel
theorem dX6_stepAll_16 : decode cX6_stepAll 16 = .ok (.imul, 1) := by decide +kernel
theorem dX6_stepAll_17 : decode cX6_stepAll 17 = .ok (.dup2, 1) := by decide +kernel
theorem dX6_stepAll_18 : decode cX6_stepAll 18 = .ok (.iaload, 1) := by decide +kernel
theorem dX6_stepAll_19 : decode cX6_stepAll 19 = .ok (.iload_n 1, 1) := by decide +kernel
theorem dX6_stepAll_2 : decode cX6_stepAll 2 = .ok (.iload_n 2, 1) := by decide +kernel
theorem dX6_stepAll_20 : decode cX6_stepAll 20 = .ok (.iadd, 1) := by decide +kernel
theorem dX6_stepAll_21 : decode cX6_stepAll 21 = .ok (.iastore, 1) := by decide +kernel
theorem dX6_stepAll_22 : decode cX6_stepAll 22 = .ok (.iinc 2 1, 3) := by decide +kernel
theorem dX6_stepAll_25 : decode cX6_stepAll 25 = .ok (.goto (-23), 3) := by decide +kernel
theorem dX6_stepAll_28 : decode cX6_stepAll 28 = .ok (.return_, 1) := by decide +kernel
theorem dX6_stepAll_3 : decode cX6_stepAll 3 = .ok (.aload_n 0, 1) := by decide +kernel
theorem dX6_stepAll_4 : decode cX6_stepAll 4 = .ok (.getfield 47, 3) := by decide +kernel
theorem dX6_stepAll_7 : decode cX6_stepAll 7 = .ok (.if_icmp .ge 21, 3) := by decide +kernel
theorem dX6_throwFrom_0 : decode cX6_throwFrom 0 = .ok (.aload_n 0, 1) := by decide +kernel
theorem dX6_throwFrom_1 : decode cX6_throwFrom 1 = .ok (.getfield 13, 3) := by decide +kernel
theorem dX6_throwFrom_10 : decode cX6_throwFrom 10 = .ok (.dup2, 1) := by decide +kernel
theorem dX6_throwFrom_11 : decode cX6_throwFrom 11 = .ok (.iaload, 1) := by decide +kernel
theorem dX6_throwFrom_12 : decode cX6_throwFrom 12 = .ok (.iload_n 3, 1) := by decide +kernel
theorem dX6_throwFrom_13 : decode cX6_throwFrom 13 = .ok (.isub, 1) := by decide +kernel
theorem dX6_throwFrom_14 : decode cX6_throwFrom 14 = .ok (.iastore, 1) := by decide +kernel
theorem dX6_throwFrom_15 : decode cX6_throwFrom 15 = .ok (.iconst 0, 1) := by decide +kernel
theorem dX6_throwFrom_16 : decode cX6_throwFrom 16 = .ok (.istore 4, 2) := by decide +kernel
theorem dX6_throwFrom_18 : decode cX6_throwFrom 18 = .ok (.iload_n 2, 1) := by decide +kernel
theorem dX6_throwFrom_19 : decode cX6_throwFrom 19 = .ok (.iconst 1, 1) := by decide +kernel
theorem dX6_throwFrom_20 : decode cX6_throwFrom 20 = .ok (.iadd, 1) := by decide +kernel
theorem dX6_throwFrom_21 : decode cX6_throwFrom 21 = .ok (.aload_n 0, 1) := by decide +kernel
theorem dX6_throwFrom_22 : decode cX6_throwFrom 22 = .ok (.getfield 32, 3) := by decide +kernel
theorem dX6_throwFrom_25 : decode cX6_throwFrom 25 = .ok (.if_icmp .ge 26, 3) := by decide +kernel
theorem dX6_throwFrom_28 : decode cX6_throwFrom 28 = .ok (.iload_n 3, 1) := by decide +kernel
theorem dX6_throwFrom_29 : decode cX6_throwFrom 29 = .ok (.iconst 2, 1) := by decide +kernel
theorem dX6_throwFrom_30 : decode cX6_throwFrom 30 = .ok (.idiv, 1) := by decide +kernel
theorem dX6_throwFrom_31 : decode cX6_throwFrom 31 = .ok (.istore 4, 2) := by decide +kernel
theorem dX6_throwFrom_33 : decode cX6_throwFrom 33 = .ok (.aload_n 0, 1) := by decide +kernel
theorem dX6_throwFrom_34 : decode cX6_throwFrom 34 = .ok (.getfield 13, 3) := by decide +kernel
theorem dX6_throwFrom_37 : decode cX6_throwFrom 37 = .ok (.aload_n 0, 1) := by decide +kernel
theorem dX6_throwFrom_38 : decode cX6_throwFrom 38 = .ok (.iload_n 1, 1) := by decide +kernel
theorem dX6_throwFrom_39 : decode cX6_throwFrom 39 = .ok (.iload_n 2, 1) := by decide +kernel
theorem dX6_throwFrom_4 : decode cX6_throwFrom 4 = .ok (.aload_n 0, 1) := by decide +kernel
theorem dX6_throwFrom_40 : decode cX6_throwFrom 40 = .ok (.iconst 1, 1) := by decide +kernel
theorem dX6_throwFrom_41 : decode cX6_throwFrom 41 = .ok (.iadd, 1) := by decide +kernel
theorem dX6_throwFrom_42 : decode cX6_throwFrom 42 = .ok (.invokevirtual 88, 3) := by decide +kernel
theorem dX6_throwFrom_45 : decode cX6_throwFrom 45 = .ok (.dup2, 1) := by decide +kernel
theorem dX6_throwFrom_46 : decode cX6_throwFrom 46 = .ok (.iaload, 1) := by decide +kernel
theorem dX6_throwFrom_47 : decode cX6_throwFrom 47 = .ok (.iload 4, 2) := by decide +kernel
theorem dX6_throwFrom_49 : decode cX6_throwFrom 49 = .ok (.iadd, 1) := by decide +kernel
theorem dX6_throwFrom_5 : decode cX6_throwFrom 5 = .ok (.iload_n 1, 1) := by decide +kernel
theorem dX6_throwFrom_50 : decode cX6_throwFrom 50 = .ok (.iastore, 1) := by decide +kernel
theorem dX6_throwFrom_51 : decode cX6_throwFrom 51 = .ok (.aload_n 0, 1) := by decide +kernel
theorem dX6_throwFrom_52 : decode cX6_throwFrom 52 = .ok (.dup, 1) := by decide +kernel
theorem dX6_throwFrom_53 : decode cX6_throwFrom 53 = .ok (.getfield 71, 3) := by decide +kernel
theorem dX6_throwFrom_56 : decode cX6_throwFrom 56 = .ok (.iload_n 3, 1) := by decide +kernel
theorem dX6_throwFrom_57 : decode cX6_throwFrom 57 = .ok (.iload 4, 2) := by decide +kernel
theorem dX6_throwFrom_59 : decode cX6_throwFrom 59 = .ok (.isub, 1) := by decide +kernel
theorem dX6_throwFrom_6 : decode cX6_throwFrom 6 = .ok (.iload_n 2, 1) := by decide +kernel
theorem dX6_throwFrom_60 : decode cX6_throwFrom 60 = .ok (.iadd, 1) := by decide +kernel
theorem dX6_throwFrom_61 : decode cX6_throwFrom 61 = .ok (.putfield 71, 3) := by decide +kernel
theorem dX6_throwFrom_64 : decode cX6_throwFrom 64 = .ok (.return_, 1) := by decide +kernel
theorem dX6_throwFrom_7 : decode cX6_throwFrom 7 = .ok (.invokevirtual 88, 3) := by decide +kernel
def vs_s_fill5a : List Cond := .code yJ7_fill_53178 cJ7_fill_53178 4 none :: (([] : List Cond) ++ ([]))
theorem gd_s_fill5a : vs_s_fill5a.all goodWord = true := gd_C (by decide +kernel) (gd_A (by decide +kernel) rfl)
set_option maxHeartbeats 4000000 in
set_option maxRecDepth 100000 in
theorem s_fill5a (l : Launch) (hl : l.stackTraces = false) (D : va_G) (cy : Nat → ClassId) (sa : Nat → Nat) (fa : Nat) (ff : Nat → Int32) (v : Int) (sz : Nat) (hr_v : (-2147483648) ≤ v ∧ v ≤ 2147483647) : mV9 l yJ7_fill_53178 vs_s_fill5a ({ frames := 0, cells := 0, slots := 0, locals := 0 }) D cy sa sz [vR fa, vI v] [zI fa (cy 0) 5 ff] (fun u : SV => True) (fun u : SV => [zI fa (cy 0) 5 (u.2.2 0)]) 0 0 := by
  refine Met.ofW (cc := cJ7_fill_53178) (maxL := 4) (ret := none) (by decide) rfl ?_
  intro p e s m args below meth c s₁ B hml hv
  obtain ⟨rfl, hsz, hP, hG, hD0, hT⟩ := hv
  have hx := B.exec
  have hb := B.bytes
  have hr := B.returns
  have hts := atoms_spec (ws := vs_s_fill5a) B.pre
  have hown : s.vm.findClass RJ7 = some m.cls := findClass_of_methodNamed B.named
  have hlocks := B.notSynchronized
  subst hsz
  have hD := hD0.self (sz := s.heap.size)
  generalize hAe : va_A [zI fa (cy 0) 5 ff] s.heap.size = A at hD hT ⊢
  have hA : ∀ q : Nat, s.heap.size ≤ q → A q := fun q h => by rw [← hAe]; exact Or.inr h
  have hS : va_S A s.heap s.heap [] := va_S.rf
  have hl0 := lv_entry ([vR fa, vI v]) (n := 4) (Nat.le_of_ble_eq_true rfl)
  rw [lg_entry_eq]
  generalize (lg_sl ([vR fa, vI v]) ++ List.replicate (4 - (lg_sl ([vR fa, vI v])).length) Slot.unset).toArray = ls at hl0 ⊢
  have hlv : lv_has ls 4 [(0, vR fa), (1, vI v)] := hl0
  refine lv_iconst (v := iI 0) hx hb dJ7_fill_53178_0 (by decide) ?_
  refine lv_istore_n (lv' := [(2, vI 0), (0, vR fa), (1, vI v)]) hx hb dJ7_fill_53178_1 rfl hlv (by decide) rfl (fun ls hlv => ?_)
  refine lv_aload_n hx hb dJ7_fill_53178_2 rfl (lv_at hlv 1 rfl) ?_
  refine va_alen (v := iI 5) hx hb hG.1 hP 0 0 rfl rfl (iI_nI _) dJ7_fill_53178_3 ?_
  refine lv_istore_n (lv' := [(3, vI 5), (2, vI 0), (0, vR fa), (1, vI v)]) hx hb dJ7_fill_53178_4 rfl hlv (by decide) rfl (fun ls hlv => ?_)
  refine (?_ : ∀ (fu : Nat) (x : Int) (fg : Nat → Int32) (H : Heap) (locs : List Loc) (ls : Array Slot), 5 - x < (fu : Int) → (0 ≤ x ∧ x ≤ 5) → va_P D vwCl [zI fa (cy 0) 5 fg] H → va_D A [zI fa (cy 0) 5 fg] → va_S A s.heap H locs → lv_has ls 4 [(3, vI 5), (2, vI x), (0, vR fa), (1, vI v)] → W p l e _ s m _ below meth c H locs _ _ _ (F0 m 5 ls [])) (((5 - 0) + 1 : Int)).toNat 0 ff _ _ _ (by omega) (by show (0 : Int) ≤ 0 ∧ (0 : Int) ≤ 5; decide)  hP hD hS hlv
  clear hP hD hS hlv
  intro fu
  induction fu with
  | zero => intro x fg H locs ls hm5 hl5_0  hP hD hS hlv; omega
  | succ fu ih5 =>
    intro x fg H locs ls hm5 hl5_0  hP hD hS hlv
    refine lv_iload_n hx hb dJ7_fill_53178_5 rfl (lv_at hlv 1 rfl) ?_
    refine lv_iload_n hx hb dJ7_fill_53178_6 rfl (lv_at hlv 0 rfl) ?_
    refine ir_ge (tgt := 20) hx hb dJ7_fill_53178_7 (by decide) (by first | exact rgw hl5_0 (by decide) (by decide) | omega) (by show ((-2147483648) : Int) ≤ 5 ∧ (5 : Int) ≤ 2147483647; decide) (fun c_1 => ?_) (fun c_1 => ?_)
    · refine W.widen (k := 0) (n := 0) (Nat.le_of_ble_eq_true rfl) (Nat.le_of_ble_eq_true rfl) ?_
      exact W.vret hx hb hr (fun t ht hW => ⟨⟨((fun k => ([] : List Nat).getD k 0), (fun k => ([] : List Int).getD k 0), (fun k => ([fg] : List (Nat → Int32)).getD k (fun _ => 0))), rfl, trivial, at9 ht hP hD [0] (by decide +kernel) rfl⟩, hS.F ht⟩) hS.2.2 dJ7_fill_53178_20
    · refine lv_aload_n hx hb dJ7_fill_53178_10 rfl (lv_at hlv 2 rfl) ?_
      refine lv_iload_n hx hb dJ7_fill_53178_11 rfl (lv_at hlv 1 rfl) ?_
      refine lv_iload_n hx hb dJ7_fill_53178_12 rfl (lv_at hlv 3 rfl) ?_
      refine va_iast hx hb hG.1 hP hD hS 0 0 rfl rfl (iI_in (by omega) (by decide)) dJ7_fill_53178_13 (fun H locs hP hD hS => ?_)
      obtain ⟨f_2, hP, hD⟩ := pe9 (fun f_2 => [zI fa (cy 0) 5 f_2]) _ hP hD
      obtain ⟨z_3, hz_3⟩ : ∃ z : Int, z = x + 1 := ⟨_, rfl⟩
      refine lv_iinc (v := iI z_3) (lv' := [(2, vI z_3), (3, vI 5), (0, vR fa), (1, vI v)]) hx hb dJ7_fill_53178_14 hlv (k := 1) rfl (by rw [hz_3]; exact (Int32.ofInt_add _ _).symm) (by decide) rfl (fun ls hlv => ?_)
      refine lv_goto (tgt := 5) hx hb dJ7_fill_53178_17 (by decide) ?_
      exact ih5 z_3 f_2 H locs ls (by omega) (by omega)  (hP.sub [0] rfl) (hD.sub [0] (by decide) rfl) hS (lv_sub hlv [1, 0, 2, 3] rfl)
def vs_s_held : List Cond := .code yX11_held cX11_held 4 (some .int) :: (([] : List Cond) ++ ([]))
theorem gd_s_held : vs_s_held.all goodWord = true := gd_C (by decide +kernel) (gd_A (by decide +kernel) rfl)
set_option maxHeartbeats 4000000 in
set_option maxRecDepth 100000 in
theorem s_held (l : Launch) (hl : l.stackTraces = false) (D : va_G) (cy : Nat → ClassId) (sa : Nat → Nat) (x lo hi : Int) (sz : Nat) (hr_x : (-8589934592) ≤ x ∧ x ≤ 8589934592) (hr_lo : (-2147483648) ≤ lo ∧ lo ≤ 2147483647) (hr_hi : (-2147483648) ≤ hi ∧ hi ≤ 2147483647) : mI9 l yX11_held vs_s_held ({ frames := 0, cells := 0, slots := 0, locals := 0 }) D cy sa sz [vJ x, vI lo, vI hi] [] (fun (r : Int32) (u : SV) => r = iI (u.2.1 0) ∧ ((-2147483648) ≤ u.2.1 0 ∧ u.2.1 0 ≤ 2147483647) ∧ (lo ≤ hi → lo ≤ u.2.1 0 ∧ u.2.1 0 ≤ hi)) (fun u : SV => []) 0 0 := by
  refine Met.ofW (cc := cX11_held) (maxL := 4) (ret := (some .int)) (by decide) rfl ?_
  intro p e s m args below meth c s₁ B hml hv
  obtain ⟨rfl, hsz, hP, hG, hD0, hT⟩ := hv
  have hx := B.exec
  have hb := B.bytes
  have hr := B.returns
  have hts := atoms_spec (ws := vs_s_held) B.pre
  have hown : s.vm.findClass RX11 = some m.cls := findClass_of_methodNamed B.named
  have hlocks := B.notSynchronized
  subst hsz
  have hD := hD0.self (sz := s.heap.size)
  generalize hAe : va_A [] s.heap.size = A at hD hT ⊢
  have hA : ∀ q : Nat, s.heap.size ≤ q → A q := fun q h => by rw [← hAe]; exact Or.inr h
  have hS : va_S A s.heap s.heap [] := va_S.rf
  have hl0 := lv_entry ([vJ x, vI lo, vI hi]) (n := 4) (Nat.le_of_ble_eq_true rfl)
  rw [lg_entry_eq]
  generalize (lg_sl ([vJ x, vI lo, vI hi]) ++ List.replicate (4 - (lg_sl ([vJ x, vI lo, vI hi])).length) Slot.unset).toArray = ls at hl0 ⊢
  have hlv : lv_has ls 4 [(0, vJ x), (2, vI lo), (3, vI hi)] := hl0
  refine lv_lload_n hx hb dX11_held_0 rfl (lv_at hlv 0 rfl) ?_
  refine lv_iload_n hx hb dX11_held_1 rfl (lv_at hlv 1 rfl) ?_
  refine lv_i2l (v := jJ lo) hx hb dX11_held_2 (jJ_i (by omega)) ?_
  refine W.lcmp hx hb dX11_held_3 ?_
  refine lt_lc (by omega) (by omega) (fun z_1 hz_1 => ?_)
  refine iz_ge (tgt := 9) hx hb dX11_held_4 (by decide) (by omega) (fun c_2 => ?_) (fun c_2 => ?_)
  · refine lv_lload_n hx hb dX11_held_9 rfl (lv_at hlv 0 rfl) ?_
    refine lv_iload_n hx hb dX11_held_10 rfl (lv_at hlv 2 rfl) ?_
    refine lv_i2l (v := jJ hi) hx hb dX11_held_11 (jJ_i (by omega)) ?_
    refine W.lcmp hx hb dX11_held_12 ?_
    refine lt_lc (by omega) (by omega) (fun z_3 hz_3 => ?_)
    refine iz_le (tgt := 20) hx hb dX11_held_13 (by decide) (by omega) (fun c_4 => ?_) (fun c_4 => ?_)
    · refine lv_lload_n hx hb dX11_held_20 rfl (lv_at hlv 0 rfl) ?_
      refine lv_l2i (v := iI x) hx hb dX11_held_21 (jJ_l (by omega)) ?_
      refine W.widen (k := 0) (n := 0) (Nat.le_of_ble_eq_true rfl) (Nat.le_of_ble_eq_true rfl) ?_
      exact W.iret (v := iI x) hx hb hr (fun t ht hW => ⟨⟨iI x, ((fun k => ([] : List Nat).getD k 0), (fun k => ([x] : List Int).getD k 0), (fun k => ([] : List (Nat → Int32)).getD k (fun _ => 0))), rfl, ⟨rfl, (by show ((-2147483648) ≤ x ∧ x ≤ 2147483647); omega), (by show (lo ≤ hi → lo ≤ x ∧ x ≤ hi); omega)⟩, at9 ht hP hD [] (by decide +kernel) rfl⟩, hS.F ht⟩) hS.2.2 dX11_held_22
    · refine lv_iload_n hx hb dX11_held_16 rfl (lv_at hlv 2 rfl) ?_
      refine lv_goto (tgt := 22) hx hb dX11_held_17 (by decide) ?_
      refine W.widen (k := 0) (n := 0) (Nat.le_of_ble_eq_true rfl) (Nat.le_of_ble_eq_true rfl) ?_
      exact W.iret (v := iI hi) hx hb hr (fun t ht hW => ⟨⟨iI hi, ((fun k => ([] : List Nat).getD k 0), (fun k => ([hi] : List Int).getD k 0), (fun k => ([] : List (Nat → Int32)).getD k (fun _ => 0))), rfl, ⟨rfl, (by show ((-2147483648) ≤ hi ∧ hi ≤ 2147483647); first | exact hr_hi | omega), (by show (lo ≤ hi → lo ≤ hi ∧ hi ≤ hi); omega)⟩, at9 ht hP hD [] (by decide +kernel) rfl⟩, hS.F ht⟩) hS.2.2 dX11_held_22
  · refine lv_iload_n hx hb dX11_held_7 rfl (lv_at hlv 1 rfl) ?_
    refine W.widen (k := 0) (n := 0) (Nat.le_of_ble_eq_true rfl) (Nat.le_of_ble_eq_true rfl) ?_
    exact W.iret (v := iI lo) hx hb hr (fun t ht hW => ⟨⟨iI lo, ((fun k => ([] : List Nat).getD k 0), (fun k => ([lo] : List Int).getD k 0), (fun k => ([] : List (Nat → Int32)).getD k (fun _ => 0))), rfl, ⟨rfl, (by show ((-2147483648) ≤ lo ∧ lo ≤ 2147483647); first | exact hr_lo | omega), (by show (lo ≤ hi → lo ≤ lo ∧ lo ≤ hi); omega)⟩, at9 ht hP hD [] (by decide +kernel) rfl⟩, hS.F ht⟩) hS.2.2 dX11_held_8
def vs_s_sbecome : List Cond := .code yX6_become cX6_become 2 none :: (([.fieldLink RX6 28 "KerbSplash$Street" "wide" "I", .fieldLink RX6 32 "KerbSplash$Street" "rows" "I", .fieldLink RX6 9 "KerbSplash$Street" "height" "[I", .methodLink RX6 74 arraycopyName, .native arraycopyName, .static arraycopyName, .initialized "java/lang/System", .fieldLink RX6 13 "KerbSplash$Street" "water" "[I", .fieldLink RX6 41 "KerbSplash$Street" "drains" "I", .fieldLink RX6 44 "KerbSplash$Street" "drainsTold" "I", .fieldLink RX6 16 "KerbSplash$Street" "drain" "[I", .fieldLink RX6 47 "KerbSplash$Street" "persons" "I", .fieldLink RX6 19 "KerbSplash$Street" "person" "[I", .fieldLink RX6 50 "KerbSplash$Street" "guesses" "I", .fieldLink RX6 53 "KerbSplash$Street" "shelters" "I", .fieldLink RX6 22 "KerbSplash$Street" "shelter" "[I", .fieldLink RX6 56 "KerbSplash$Street" "works" "I", .fieldLink RX6 25 "KerbSplash$Street" "work" "[I", .fieldLink RX6 59 "KerbSplash$Street" "done" "I", .fieldLink RX6 62 "KerbSplash$Street" "minutes" "I", .fieldLink RX6 65 "KerbSplash$Street" "fallen" "I", .fieldLink RX6 68 "KerbSplash$Street" "taken" "I", .fieldLink RX6 71 "KerbSplash$Street" "gone" "I"] : List Cond) ++ ((wsX60) ++ ([])))
theorem gd_s_sbecome : vs_s_sbecome.all goodWord = true := gd_C (by decide +kernel) (gd_A (by decide +kernel) (gd_A (by decide +kernel) rfl))
set_option maxHeartbeats 4000000 in
set_option maxRecDepth 100000 in
theorem s_sbecome (l : Launch) (hl : l.stackTraces = false) (D : va_G) (cy : Nat → ClassId) (sa : Nat → Nat) (tA t2 t3 t6 t8 t11 t13 : Nat) (twi tro tdr tdt tpe tgu tsh two tdn tmi tfl ttk tgo : Int) (thf twf tdf tpf tsf tkf : Nat → Int32) (oA o2 o3 o6 o8 o11 o13 : Nat) (owi oro odr odt ope ogu osh owo odn omi ofl otk ogo : Int) (ohf owf odf opf osf okf : Nat → Int32) (txl txh oxl oxh : Int) (sz : Nat) (hr_twi : 0 ≤ twi ∧ twi ≤ 16) (hr_tro : 0 ≤ tro ∧ tro ≤ 6) (hr_tdr : 0 ≤ tdr ∧ tdr ≤ 14) (hr_tdt : 0 ≤ tdt ∧ tdt ≤ 6) (hr_tpe : 0 ≤ tpe ∧ tpe ≤ 8) (hr_tgu : 0 ≤ tgu ∧ tgu ≤ 20) (hr_tsh : 0 ≤ tsh ∧ tsh ≤ 2) (hr_two : 0 ≤ two ∧ two ≤ 8) (hr_tdn : (-2147483648) ≤ tdn ∧ tdn ≤ 2147483647) (hr_tmi : 0 ≤ tmi ∧ tmi ≤ 600) (hr_tfl : (-2147483648) ≤ tfl ∧ tfl ≤ 2147483647) (hr_ttk : (-2147483648) ≤ ttk ∧ ttk ≤ 2147483647) (hr_tgo : (-2147483648) ≤ tgo ∧ tgo ≤ 2147483647) (hr_owi : 0 ≤ owi ∧ owi ≤ 16) (hr_oro : 0 ≤ oro ∧ oro ≤ 6) (hr_odr : 0 ≤ odr ∧ odr ≤ 14) (hr_odt : 0 ≤ odt ∧ odt ≤ 6) (hr_ope : 0 ≤ ope ∧ ope ≤ 8) (hr_ogu : 0 ≤ ogu ∧ ogu ≤ 20) (hr_osh : 0 ≤ osh ∧ osh ≤ 2) (hr_owo : 0 ≤ owo ∧ owo ≤ 8) (hr_odn : (-2147483648) ≤ odn ∧ odn ≤ 2147483647) (hr_omi : 0 ≤ omi ∧ omi ≤ 600) (hr_ofl : (-2147483648) ≤ ofl ∧ ofl ≤ 2147483647) (hr_otk : (-2147483648) ≤ otk ∧ otk ≤ 2147483647) (hr_ogo : (-2147483648) ≤ ogo ∧ ogo ≤ 2147483647) (hthf : inv_ 96 0 99 thf) (htdf : tab_ 4 14 [0, 0, 0, 0] [15, 5, 99, 16] tdf) (htpf : tab_ 4 28 [txl, 0, (-2147483648), (-2147483648)] [txh, 19, 2147483647, 2147483647] tpf) (htkf : tw_ tkf) (hohf : inv_ 96 0 99 ohf) (hodf : tab_ 4 14 [0, 0, 0, 0] [15, 5, 99, 16] odf) (hopf : tab_ 4 28 [oxl, 0, (-2147483648), (-2147483648)] [oxh, 19, 2147483647, 2147483647] opf) (hokf : tw_ okf) : mV9 l yX6_become vs_s_sbecome ({ frames := 1, cells := 0, slots := 0, locals := 60 }) D cy sa sz [vR tA, vR oA] [zO tA 6 [vI twi, vI tro, vR t2, vR t3, vI tdr, vI tdt, vR t6, vI tpe, vR t8, vI tgu, vI tsh, vR t11, vI two, vR t13, vI tdn, vI tmi, vI tfl, vI ttk, vI tgo], zI t2 (cy 0) 96 thf, zI t3 (cy 0) 96 twf, zI t6 (cy 0) 56 tdf, zI t8 (cy 0) 112 tpf, zI t11 (cy 0) 4 tsf, zI t13 (cy 0) 40 tkf, zO oA 6 [vI owi, vI oro, vR o2, vR o3, vI odr, vI odt, vR o6, vI ope, vR o8, vI ogu, vI osh, vR o11, vI owo, vR o13, vI odn, vI omi, vI ofl, vI otk, vI ogo], zI o2 (cy 0) 96 ohf, zI o3 (cy 0) 96 owf, zI o6 (cy 0) 56 odf, zI o8 (cy 0) 112 opf, zI o11 (cy 0) 4 osf, zI o13 (cy 0) 40 okf] (fun u : SV => inv_ 96 0 99 (u.2.2 0) ∧ tab_ 4 14 [0, 0, 0, 0] [15, 5, 99, 16] (u.2.2 2) ∧ tab_ 4 28 [oxl, 0, (-2147483648), (-2147483648)] [oxh, 19, 2147483647, 2147483647] (u.2.2 3) ∧ tw_ (u.2.2 5) ∧ inv_ 96 0 99 ohf ∧ tab_ 4 14 [0, 0, 0, 0] [15, 5, 99, 16] odf ∧ tab_ 4 28 [oxl, 0, (-2147483648), (-2147483648)] [oxh, 19, 2147483647, 2147483647] opf ∧ tw_ okf) (fun u : SV => [zO tA 6 [vI owi, vI oro, vR t2, vR t3, vI odr, vI odt, vR t6, vI ope, vR t8, vI ogu, vI osh, vR t11, vI owo, vR t13, vI odn, vI omi, vI ofl, vI otk, vI ogo], zI t2 (cy 0) 96 (u.2.2 0), zI t3 (cy 0) 96 (u.2.2 1), zI t6 (cy 0) 56 (u.2.2 2), zI t8 (cy 0) 112 (u.2.2 3), zI t11 (cy 0) 4 (u.2.2 4), zI t13 (cy 0) 40 (u.2.2 5), zO oA 6 [vI owi, vI oro, vR o2, vR o3, vI odr, vI odt, vR o6, vI ope, vR o8, vI ogu, vI osh, vR o11, vI owo, vR o13, vI odn, vI omi, vI ofl, vI otk, vI ogo], zI o2 (cy 0) 96 ohf, zI o3 (cy 0) 96 owf, zI o6 (cy 0) 56 odf, zI o8 (cy 0) 112 opf, zI o11 (cy 0) 4 osf, zI o13 (cy 0) 40 okf]) 0 0 := by
  refine Met.ofW (cc := cX6_become) (maxL := 2) (ret := none) (by decide) rfl ?_
  intro p e s m args below meth c s₁ B hml hv
  obtain ⟨rfl, hsz, hP, hG, hD0, hT⟩ := hv
  have hx := B.exec
  have hb := B.bytes
  have hr := B.returns
  have hts := atoms_spec (ws := vs_s_sbecome) B.pre
  have hown : s.vm.findClass RX6 = some m.cls := findClass_of_methodNamed B.named
  have hlocks := B.notSynchronized
  subst hsz
  have hD := hD0.self (sz := s.heap.size)
  generalize hAe : va_A [zO tA 6 [vI twi, vI tro, vR t2, vR t3, vI tdr, vI tdt, vR t6, vI tpe, vR t8, vI tgu, vI tsh, vR t11, vI two, vR t13, vI tdn, vI tmi, vI tfl, vI ttk, vI tgo], zI t2 (cy 0) 96 thf, zI t3 (cy 0) 96 twf, zI t6 (cy 0) 56 tdf, zI t8 (cy 0) 112 tpf, zI t11 (cy 0) 4 tsf, zI t13 (cy 0) 40 tkf, zO oA 6 [vI owi, vI oro, vR o2, vR o3, vI odr, vI odt, vR o6, vI ope, vR o8, vI ogu, vI osh, vR o11, vI owo, vR o13, vI odn, vI omi, vI ofl, vI otk, vI ogo], zI o2 (cy 0) 96 ohf, zI o3 (cy 0) 96 owf, zI o6 (cy 0) 56 odf, zI o8 (cy 0) 112 opf, zI o11 (cy 0) 4 osf, zI o13 (cy 0) 40 okf] s.heap.size = A at hD hT ⊢
  have hA : ∀ q : Nat, s.heap.size ≤ q → A q := fun q h => by rw [← hAe]; exact Or.inr h
  have hS : va_S A s.heap s.heap [] := va_S.rf
  have hl0 := lv_entry ([vR tA, vR oA]) (n := 2) (Nat.le_of_ble_eq_true rfl)
  rw [lg_entry_eq]
  generalize (lg_sl ([vR tA, vR oA]) ++ List.replicate (2 - (lg_sl ([vR tA, vR oA])).length) Slot.unset).toArray = ls at hl0 ⊢
  have hlv : lv_has ls 2 [(0, vR tA), (1, vR oA)] := hl0
  have lf28 := hts (.fieldLink RX6 28 "KerbSplash$Street" "wide" "I") (List.mem_of_getElem? (i := 1) rfl)
  have hi6 : ∀ w ∈ wsX60, w ∈ vs_s_sbecome := fun w h => List.mem_cons_of_mem _ (List.mem_append_right _ (List.mem_append_left _ h))
  have lf32 := hts (.fieldLink RX6 32 "KerbSplash$Street" "rows" "I") (List.mem_of_getElem? (i := 2) rfl)
  have lf9 := hts (.fieldLink RX6 9 "KerbSplash$Street" "height" "[I") (List.mem_of_getElem? (i := 3) rfl)
  have ay1_74 := hts (.methodLink RX6 74 arraycopyName) (List.mem_of_getElem? (i := 4) rfl)
  have ay2 := hts (.native arraycopyName) (List.mem_of_getElem? (i := 5) rfl)
  have ay3 := hts (.static arraycopyName) (List.mem_of_getElem? (i := 6) rfl)
  have ay4 := hts (.initialized "java/lang/System") (List.mem_of_getElem? (i := 7) rfl)
  have lf13 := hts (.fieldLink RX6 13 "KerbSplash$Street" "water" "[I") (List.mem_of_getElem? (i := 8) rfl)
  have lf41 := hts (.fieldLink RX6 41 "KerbSplash$Street" "drains" "I") (List.mem_of_getElem? (i := 9) rfl)
  have lf44 := hts (.fieldLink RX6 44 "KerbSplash$Street" "drainsTold" "I") (List.mem_of_getElem? (i := 10) rfl)
  have lf16 := hts (.fieldLink RX6 16 "KerbSplash$Street" "drain" "[I") (List.mem_of_getElem? (i := 11) rfl)
  have lf47 := hts (.fieldLink RX6 47 "KerbSplash$Street" "persons" "I") (List.mem_of_getElem? (i := 12) rfl)
  have lf19 := hts (.fieldLink RX6 19 "KerbSplash$Street" "person" "[I") (List.mem_of_getElem? (i := 13) rfl)
  have lf50 := hts (.fieldLink RX6 50 "KerbSplash$Street" "guesses" "I") (List.mem_of_getElem? (i := 14) rfl)
  have lf53 := hts (.fieldLink RX6 53 "KerbSplash$Street" "shelters" "I") (List.mem_of_getElem? (i := 15) rfl)
  have lf22 := hts (.fieldLink RX6 22 "KerbSplash$Street" "shelter" "[I") (List.mem_of_getElem? (i := 16) rfl)
  have lf56 := hts (.fieldLink RX6 56 "KerbSplash$Street" "works" "I") (List.mem_of_getElem? (i := 17) rfl)
  have lf25 := hts (.fieldLink RX6 25 "KerbSplash$Street" "work" "[I") (List.mem_of_getElem? (i := 18) rfl)
  have lf59 := hts (.fieldLink RX6 59 "KerbSplash$Street" "done" "I") (List.mem_of_getElem? (i := 19) rfl)
  have lf62 := hts (.fieldLink RX6 62 "KerbSplash$Street" "minutes" "I") (List.mem_of_getElem? (i := 20) rfl)
  have lf65 := hts (.fieldLink RX6 65 "KerbSplash$Street" "fallen" "I") (List.mem_of_getElem? (i := 21) rfl)
  have lf68 := hts (.fieldLink RX6 68 "KerbSplash$Street" "taken" "I") (List.mem_of_getElem? (i := 22) rfl)
  have lf71 := hts (.fieldLink RX6 71 "KerbSplash$Street" "gone" "I") (List.mem_of_getElem? (i := 23) rfl)
  refine lv_aload_n hx hb dX6_become_0 rfl (lv_at hlv 0 rfl) ?_
  refine lv_aload_n hx hb dX6_become_1 rfl (lv_at hlv 1 rfl) ?_
  refine va_get (D := D) (ci := 6) (v := vI owi) (C := RX6) (T := TX6) (N := 19) hx hb hts hi6 hown hG.1 hP 7 rfl rfl 0 (by decide) lf28 (fun _ h9 => h9) rfl dX6_become_2 ?_
  refine va_put (D := D) (ci := 6) (v := vI owi) (ty := .int) (C := RX6) (T := TX6) (N := 19) hx hb hts hi6 tyX6 tyX6_ok nmX6 hown hG.1 hP hD hS 0 rfl rfl 0 (by decide) lf28 (fun _ h9 => h9) rfl (by decide +kernel) rfl rfl (Nat.le_of_ble_eq_true rfl) dX6_become_5 (fun H locs hP hD hS => ?_)
  obtain ⟨hP, hD⟩ := pw9 [zO tA 6 [vI owi, vI tro, vR t2, vR t3, vI tdr, vI tdt, vR t6, vI tpe, vR t8, vI tgu, vI tsh, vR t11, vI two, vR t13, vI tdn, vI tmi, vI tfl, vI ttk, vI tgo], zI t2 (cy 0) 96 thf, zI t3 (cy 0) 96 twf, zI t6 (cy 0) 56 tdf, zI t8 (cy 0) 112 tpf, zI t11 (cy 0) 4 tsf, zI t13 (cy 0) 40 tkf, zO oA 6 [vI owi, vI oro, vR o2, vR o3, vI odr, vI odt, vR o6, vI ope, vR o8, vI ogu, vI osh, vR o11, vI owo, vR o13, vI odn, vI omi, vI ofl, vI otk, vI ogo], zI o2 (cy 0) 96 ohf, zI o3 (cy 0) 96 owf, zI o6 (cy 0) 56 odf, zI o8 (cy 0) 112 opf, zI o11 (cy 0) 4 osf, zI o13 (cy 0) 40 okf] hP hD
  refine lv_aload_n hx hb dX6_become_8 rfl (lv_at hlv 0 rfl) ?_
  refine lv_aload_n hx hb dX6_become_9 rfl (lv_at hlv 1 rfl) ?_
  refine va_get (D := D) (ci := 6) (v := vI oro) (C := RX6) (T := TX6) (N := 19) hx hb hts hi6 hown hG.1 hP 7 rfl rfl 1 (by decide) lf32 (fun _ h9 => h9) rfl dX6_become_10 ?_
  refine va_put (D := D) (ci := 6) (v := vI oro) (ty := .int) (C := RX6) (T := TX6) (N := 19) hx hb hts hi6 tyX6 tyX6_ok nmX6 hown hG.1 hP hD hS 0 rfl rfl 1 (by decide) lf32 (fun _ h9 => h9) rfl (by decide +kernel) rfl rfl (Nat.le_of_ble_eq_true rfl) dX6_become_13 (fun H locs hP hD hS => ?_)
  obtain ⟨hP, hD⟩ := pw9 [zO tA 6 [vI owi, vI oro, vR t2, vR t3, vI tdr, vI tdt, vR t6, vI tpe, vR t8, vI tgu, vI tsh, vR t11, vI two, vR t13, vI tdn, vI tmi, vI tfl, vI ttk, vI tgo], zI t2 (cy 0) 96 thf, zI t3 (cy 0) 96 twf, zI t6 (cy 0) 56 tdf, zI t8 (cy 0) 112 tpf, zI t11 (cy 0) 4 tsf, zI t13 (cy 0) 40 tkf, zO oA 6 [vI owi, vI oro, vR o2, vR o3, vI odr, vI odt, vR o6, vI ope, vR o8, vI ogu, vI osh, vR o11, vI owo, vR o13, vI odn, vI omi, vI ofl, vI otk, vI ogo], zI o2 (cy 0) 96 ohf, zI o3 (cy 0) 96 owf, zI o6 (cy 0) 56 odf, zI o8 (cy 0) 112 opf, zI o11 (cy 0) 4 osf, zI o13 (cy 0) 40 okf] hP hD
  refine lv_aload_n hx hb dX6_become_16 rfl (lv_at hlv 1 rfl) ?_
  refine va_get (D := D) (ci := 6) (v := vR o2) (C := RX6) (T := TX6) (N := 19) hx hb hts hi6 hown hG.1 hP 7 rfl rfl 2 (by decide) lf9 (fun _ h9 => h9) rfl dX6_become_17 ?_
  refine lv_iconst (v := iI 0) hx hb dX6_become_20 (by decide) ?_
  refine lv_aload_n hx hb dX6_become_21 rfl (lv_at hlv 0 rfl) ?_
  refine va_get (D := D) (ci := 6) (v := vR t2) (C := RX6) (T := TX6) (N := 19) hx hb hts hi6 hown hG.1 hP 0 rfl rfl 2 (by decide) lf9 (fun _ h9 => h9) rfl dX6_become_22 ?_
  refine lv_iconst (v := iI 0) hx hb dX6_become_25 (by decide) ?_
  refine lv_aload_n hx hb dX6_become_26 rfl (lv_at hlv 0 rfl) ?_
  refine va_get (D := D) (ci := 6) (v := vR t2) (C := RX6) (T := TX6) (N := 19) hx hb hts hi6 hown hG.1 hP 0 rfl rfl 2 (by decide) lf9 (fun _ h9 => h9) rfl dX6_become_27 ?_
  refine va_alen (v := iI 96) hx hb hG.1 hP 1 0 rfl rfl (iI_nI _) dX6_become_30 ?_
  refine va_copyi (ty := .int) hx hb (hml.trans hlv.1.symm) hown ay1_74 ay2 ay3 ay4 hG.1 hP hD hS 8 1 0 0 rfl rfl rfl rfl rfl (fun q => absurd ((iI_lt (a := 0) (b := 0) (by omega) (by omega)).mp q) (by omega)) (fun q => absurd ((iI_lt (a := 0) (b := 0) (by omega) (by omega)).mp q) (by omega)) (fun q => absurd ((iI_lt (a := 96) (b := 0) (by omega) (by omega)).mp q) (by omega)) (by have h1 := iI_cl (e := 0) (by omega) (by omega); have h2 := iI_cl (e := 96) (by omega) (by omega); omega) (by have h1 := iI_cl (e := 0) (by omega) (by omega); have h2 := iI_cl (e := 96) (by omega) (by omega); omega) (fun i h => rfl) (Nat.le_of_ble_eq_true rfl) (Nat.le_of_ble_eq_true rfl) dX6_become_31 (fun H locs hP hD hS => ?_)
  obtain ⟨f_1, hf_1, hP, hD⟩ := pe9i (fun f_1 => inv_ 96 0 99 f_1) (fun f_1 => [zO tA 6 [vI owi, vI oro, vR t2, vR t3, vI tdr, vI tdt, vR t6, vI tpe, vR t8, vI tgu, vI tsh, vR t11, vI two, vR t13, vI tdn, vI tmi, vI tfl, vI ttk, vI tgo], zI t2 (cy 0) 96 f_1, zI t3 (cy 0) 96 twf, zI t6 (cy 0) 56 tdf, zI t8 (cy 0) 112 tpf, zI t11 (cy 0) 4 tsf, zI t13 (cy 0) 40 tkf, zO oA 6 [vI owi, vI oro, vR o2, vR o3, vI odr, vI odt, vR o6, vI ope, vR o8, vI ogu, vI osh, vR o11, vI owo, vR o13, vI odn, vI omi, vI ofl, vI otk, vI ogo], zI o2 (cy 0) 96 ohf, zI o3 (cy 0) 96 owf, zI o6 (cy 0) 56 odf, zI o8 (cy 0) 112 opf, zI o11 (cy 0) 4 osf, zI o13 (cy 0) 40 okf]) (inv_cpy hohf (by decide) (by decide) (by decide)) hP hD
  refine lv_aload_n hx hb dX6_become_34 rfl (lv_at hlv 1 rfl) ?_
  refine va_get (D := D) (ci := 6) (v := vR o3) (C := RX6) (T := TX6) (N := 19) hx hb hts hi6 hown hG.1 hP 7 rfl rfl 3 (by decide) lf13 (fun _ h9 => h9) rfl dX6_become_35 ?_
  refine lv_iconst (v := iI 0) hx hb dX6_become_38 (by decide) ?_
  refine lv_aload_n hx hb dX6_become_39 rfl (lv_at hlv 0 rfl) ?_
  refine va_get (D := D) (ci := 6) (v := vR t3) (C := RX6) (T := TX6) (N := 19) hx hb hts hi6 hown hG.1 hP 0 rfl rfl 3 (by decide) lf13 (fun _ h9 => h9) rfl dX6_become_40 ?_
  refine lv_iconst (v := iI 0) hx hb dX6_become_43 (by decide) ?_
  refine lv_aload_n hx hb dX6_become_44 rfl (lv_at hlv 0 rfl) ?_
  refine va_get (D := D) (ci := 6) (v := vR t3) (C := RX6) (T := TX6) (N := 19) hx hb hts hi6 hown hG.1 hP 0 rfl rfl 3 (by decide) lf13 (fun _ h9 => h9) rfl dX6_become_45 ?_
  refine va_alen (v := iI 96) hx hb hG.1 hP 2 0 rfl rfl (iI_nI _) dX6_become_48 ?_
  refine va_copyi (ty := .int) hx hb (hml.trans hlv.1.symm) hown ay1_74 ay2 ay3 ay4 hG.1 hP hD hS 9 2 0 0 rfl rfl rfl rfl rfl (fun q => absurd ((iI_lt (a := 0) (b := 0) (by omega) (by omega)).mp q) (by omega)) (fun q => absurd ((iI_lt (a := 0) (b := 0) (by omega) (by omega)).mp q) (by omega)) (fun q => absurd ((iI_lt (a := 96) (b := 0) (by omega) (by omega)).mp q) (by omega)) (by have h1 := iI_cl (e := 0) (by omega) (by omega); have h2 := iI_cl (e := 96) (by omega) (by omega); omega) (by have h1 := iI_cl (e := 0) (by omega) (by omega); have h2 := iI_cl (e := 96) (by omega) (by omega); omega) (fun i h => rfl) (Nat.le_of_ble_eq_true rfl) (Nat.le_of_ble_eq_true rfl) dX6_become_49 (fun H locs hP hD hS => ?_)
  obtain ⟨f_2, hP, hD⟩ := pe9 (fun f_2 => [zO tA 6 [vI owi, vI oro, vR t2, vR t3, vI tdr, vI tdt, vR t6, vI tpe, vR t8, vI tgu, vI tsh, vR t11, vI two, vR t13, vI tdn, vI tmi, vI tfl, vI ttk, vI tgo], zI t2 (cy 0) 96 f_1, zI t3 (cy 0) 96 f_2, zI t6 (cy 0) 56 tdf, zI t8 (cy 0) 112 tpf, zI t11 (cy 0) 4 tsf, zI t13 (cy 0) 40 tkf, zO oA 6 [vI owi, vI oro, vR o2, vR o3, vI odr, vI odt, vR o6, vI ope, vR o8, vI ogu, vI osh, vR o11, vI owo, vR o13, vI odn, vI omi, vI ofl, vI otk, vI ogo], zI o2 (cy 0) 96 ohf, zI o3 (cy 0) 96 owf, zI o6 (cy 0) 56 odf, zI o8 (cy 0) 112 opf, zI o11 (cy 0) 4 osf, zI o13 (cy 0) 40 okf]) _ hP hD
  refine lv_aload_n hx hb dX6_become_52 rfl (lv_at hlv 0 rfl) ?_
  refine lv_aload_n hx hb dX6_become_53 rfl (lv_at hlv 1 rfl) ?_
  refine va_get (D := D) (ci := 6) (v := vI odr) (C := RX6) (T := TX6) (N := 19) hx hb hts hi6 hown hG.1 hP 7 rfl rfl 4 (by decide) lf41 (fun _ h9 => h9) rfl dX6_become_54 ?_
  refine va_put (D := D) (ci := 6) (v := vI odr) (ty := .int) (C := RX6) (T := TX6) (N := 19) hx hb hts hi6 tyX6 tyX6_ok nmX6 hown hG.1 hP hD hS 0 rfl rfl 4 (by decide) lf41 (fun _ h9 => h9) rfl (by decide +kernel) rfl rfl (Nat.le_of_ble_eq_true rfl) dX6_become_57 (fun H locs hP hD hS => ?_)
  obtain ⟨hP, hD⟩ := pw9 [zO tA 6 [vI owi, vI oro, vR t2, vR t3, vI odr, vI tdt, vR t6, vI tpe, vR t8, vI tgu, vI tsh, vR t11, vI two, vR t13, vI tdn, vI tmi, vI tfl, vI ttk, vI tgo], zI t2 (cy 0) 96 f_1, zI t3 (cy 0) 96 f_2, zI t6 (cy 0) 56 tdf, zI t8 (cy 0) 112 tpf, zI t11 (cy 0) 4 tsf, zI t13 (cy 0) 40 tkf, zO oA 6 [vI owi, vI oro, vR o2, vR o3, vI odr, vI odt, vR o6, vI ope, vR o8, vI ogu, vI osh, vR o11, vI owo, vR o13, vI odn, vI omi, vI ofl, vI otk, vI ogo], zI o2 (cy 0) 96 ohf, zI o3 (cy 0) 96 owf, zI o6 (cy 0) 56 odf, zI o8 (cy 0) 112 opf, zI o11 (cy 0) 4 osf, zI o13 (cy 0) 40 okf] hP hD
  refine lv_aload_n hx hb dX6_become_60 rfl (lv_at hlv 0 rfl) ?_
  refine lv_aload_n hx hb dX6_become_61 rfl (lv_at hlv 1 rfl) ?_
  refine va_get (D := D) (ci := 6) (v := vI odt) (C := RX6) (T := TX6) (N := 19) hx hb hts hi6 hown hG.1 hP 7 rfl rfl 5 (by decide) lf44 (fun _ h9 => h9) rfl dX6_become_62 ?_
  refine va_put (D := D) (ci := 6) (v := vI odt) (ty := .int) (C := RX6) (T := TX6) (N := 19) hx hb hts hi6 tyX6 tyX6_ok nmX6 hown hG.1 hP hD hS 0 rfl rfl 5 (by decide) lf44 (fun _ h9 => h9) rfl (by decide +kernel) rfl rfl (Nat.le_of_ble_eq_true rfl) dX6_become_65 (fun H locs hP hD hS => ?_)
  obtain ⟨hP, hD⟩ := pw9 [zO tA 6 [vI owi, vI oro, vR t2, vR t3, vI odr, vI odt, vR t6, vI tpe, vR t8, vI tgu, vI tsh, vR t11, vI two, vR t13, vI tdn, vI tmi, vI tfl, vI ttk, vI tgo], zI t2 (cy 0) 96 f_1, zI t3 (cy 0) 96 f_2, zI t6 (cy 0) 56 tdf, zI t8 (cy 0) 112 tpf, zI t11 (cy 0) 4 tsf, zI t13 (cy 0) 40 tkf, zO oA 6 [vI owi, vI oro, vR o2, vR o3, vI odr, vI odt, vR o6, vI ope, vR o8, vI ogu, vI osh, vR o11, vI owo, vR o13, vI odn, vI omi, vI ofl, vI otk, vI ogo], zI o2 (cy 0) 96 ohf, zI o3 (cy 0) 96 owf, zI o6 (cy 0) 56 odf, zI o8 (cy 0) 112 opf, zI o11 (cy 0) 4 osf, zI o13 (cy 0) 40 okf] hP hD
  refine lv_aload_n hx hb dX6_become_68 rfl (lv_at hlv 1 rfl) ?_
  refine va_get (D := D) (ci := 6) (v := vR o6) (C := RX6) (T := TX6) (N := 19) hx hb hts hi6 hown hG.1 hP 7 rfl rfl 6 (by decide) lf16 (fun _ h9 => h9) rfl dX6_become_69 ?_
  refine lv_iconst (v := iI 0) hx hb dX6_become_72 (by decide) ?_
  refine lv_aload_n hx hb dX6_become_73 rfl (lv_at hlv 0 rfl) ?_
  refine va_get (D := D) (ci := 6) (v := vR t6) (C := RX6) (T := TX6) (N := 19) hx hb hts hi6 hown hG.1 hP 0 rfl rfl 6 (by decide) lf16 (fun _ h9 => h9) rfl dX6_become_74 ?_
  refine lv_iconst (v := iI 0) hx hb dX6_become_77 (by decide) ?_
  refine lv_aload_n hx hb dX6_become_78 rfl (lv_at hlv 0 rfl) ?_
  refine va_get (D := D) (ci := 6) (v := vR t6) (C := RX6) (T := TX6) (N := 19) hx hb hts hi6 hown hG.1 hP 0 rfl rfl 6 (by decide) lf16 (fun _ h9 => h9) rfl dX6_become_79 ?_
  refine va_alen (v := iI 56) hx hb hG.1 hP 3 0 rfl rfl (iI_nI _) dX6_become_82 ?_
  refine va_copyi (ty := .int) hx hb (hml.trans hlv.1.symm) hown ay1_74 ay2 ay3 ay4 hG.1 hP hD hS 10 3 0 0 rfl rfl rfl rfl rfl (fun q => absurd ((iI_lt (a := 0) (b := 0) (by omega) (by omega)).mp q) (by omega)) (fun q => absurd ((iI_lt (a := 0) (b := 0) (by omega) (by omega)).mp q) (by omega)) (fun q => absurd ((iI_lt (a := 56) (b := 0) (by omega) (by omega)).mp q) (by omega)) (by have h1 := iI_cl (e := 0) (by omega) (by omega); have h2 := iI_cl (e := 56) (by omega) (by omega); omega) (by have h1 := iI_cl (e := 0) (by omega) (by omega); have h2 := iI_cl (e := 56) (by omega) (by omega); omega) (fun i h => rfl) (Nat.le_of_ble_eq_true rfl) (Nat.le_of_ble_eq_true rfl) dX6_become_83 (fun H locs hP hD hS => ?_)
  obtain ⟨f_3, hf_3, hP, hD⟩ := pe9i (fun f_3 => tab_ 4 14 [0, 0, 0, 0] [15, 5, 99, 16] f_3) (fun f_3 => [zO tA 6 [vI owi, vI oro, vR t2, vR t3, vI odr, vI odt, vR t6, vI tpe, vR t8, vI tgu, vI tsh, vR t11, vI two, vR t13, vI tdn, vI tmi, vI tfl, vI ttk, vI tgo], zI t2 (cy 0) 96 f_1, zI t3 (cy 0) 96 f_2, zI t6 (cy 0) 56 f_3, zI t8 (cy 0) 112 tpf, zI t11 (cy 0) 4 tsf, zI t13 (cy 0) 40 tkf, zO oA 6 [vI owi, vI oro, vR o2, vR o3, vI odr, vI odt, vR o6, vI ope, vR o8, vI ogu, vI osh, vR o11, vI owo, vR o13, vI odn, vI omi, vI ofl, vI otk, vI ogo], zI o2 (cy 0) 96 ohf, zI o3 (cy 0) 96 owf, zI o6 (cy 0) 56 odf, zI o8 (cy 0) 112 opf, zI o11 (cy 0) 4 osf, zI o13 (cy 0) 40 okf]) (tab_cpy hodf (by decide) (by decide) (by decide)) hP hD
  refine lv_aload_n hx hb dX6_become_86 rfl (lv_at hlv 0 rfl) ?_
  refine lv_aload_n hx hb dX6_become_87 rfl (lv_at hlv 1 rfl) ?_
  refine va_get (D := D) (ci := 6) (v := vI ope) (C := RX6) (T := TX6) (N := 19) hx hb hts hi6 hown hG.1 hP 7 rfl rfl 7 (by decide) lf47 (fun _ h9 => h9) rfl dX6_become_88 ?_
  refine va_put (D := D) (ci := 6) (v := vI ope) (ty := .int) (C := RX6) (T := TX6) (N := 19) hx hb hts hi6 tyX6 tyX6_ok nmX6 hown hG.1 hP hD hS 0 rfl rfl 7 (by decide) lf47 (fun _ h9 => h9) rfl (by decide +kernel) rfl rfl (Nat.le_of_ble_eq_true rfl) dX6_become_91 (fun H locs hP hD hS => ?_)
  obtain ⟨hP, hD⟩ := pw9 [zO tA 6 [vI owi, vI oro, vR t2, vR t3, vI odr, vI odt, vR t6, vI ope, vR t8, vI tgu, vI tsh, vR t11, vI two, vR t13, vI tdn, vI tmi, vI tfl, vI ttk, vI tgo], zI t2 (cy 0) 96 f_1, zI t3 (cy 0) 96 f_2, zI t6 (cy 0) 56 f_3, zI t8 (cy 0) 112 tpf, zI t11 (cy 0) 4 tsf, zI t13 (cy 0) 40 tkf, zO oA 6 [vI owi, vI oro, vR o2, vR o3, vI odr, vI odt, vR o6, vI ope, vR o8, vI ogu, vI osh, vR o11, vI owo, vR o13, vI odn, vI omi, vI ofl, vI otk, vI ogo], zI o2 (cy 0) 96 ohf, zI o3 (cy 0) 96 owf, zI o6 (cy 0) 56 odf, zI o8 (cy 0) 112 opf, zI o11 (cy 0) 4 osf, zI o13 (cy 0) 40 okf] hP hD
  refine lv_aload_n hx hb dX6_become_94 rfl (lv_at hlv 1 rfl) ?_
  refine va_get (D := D) (ci := 6) (v := vR o8) (C := RX6) (T := TX6) (N := 19) hx hb hts hi6 hown hG.1 hP 7 rfl rfl 8 (by decide) lf19 (fun _ h9 => h9) rfl dX6_become_95 ?_
  refine lv_iconst (v := iI 0) hx hb dX6_become_98 (by decide) ?_
  refine lv_aload_n hx hb dX6_become_99 rfl (lv_at hlv 0 rfl) ?_
  refine va_get (D := D) (ci := 6) (v := vR t8) (C := RX6) (T := TX6) (N := 19) hx hb hts hi6 hown hG.1 hP 0 rfl rfl 8 (by decide) lf19 (fun _ h9 => h9) rfl dX6_become_100 ?_
  refine lv_iconst (v := iI 0) hx hb dX6_become_103 (by decide) ?_
  refine lv_aload_n hx hb dX6_become_104 rfl (lv_at hlv 0 rfl) ?_
  refine va_get (D := D) (ci := 6) (v := vR t8) (C := RX6) (T := TX6) (N := 19) hx hb hts hi6 hown hG.1 hP 0 rfl rfl 8 (by decide) lf19 (fun _ h9 => h9) rfl dX6_become_105 ?_
  refine va_alen (v := iI 112) hx hb hG.1 hP 4 0 rfl rfl (iI_nI _) dX6_become_108 ?_
  refine va_copyi (ty := .int) hx hb (hml.trans hlv.1.symm) hown ay1_74 ay2 ay3 ay4 hG.1 hP hD hS 11 4 0 0 rfl rfl rfl rfl rfl (fun q => absurd ((iI_lt (a := 0) (b := 0) (by omega) (by omega)).mp q) (by omega)) (fun q => absurd ((iI_lt (a := 0) (b := 0) (by omega) (by omega)).mp q) (by omega)) (fun q => absurd ((iI_lt (a := 112) (b := 0) (by omega) (by omega)).mp q) (by omega)) (by have h1 := iI_cl (e := 0) (by omega) (by omega); have h2 := iI_cl (e := 112) (by omega) (by omega); omega) (by have h1 := iI_cl (e := 0) (by omega) (by omega); have h2 := iI_cl (e := 112) (by omega) (by omega); omega) (fun i h => rfl) (Nat.le_of_ble_eq_true rfl) (Nat.le_of_ble_eq_true rfl) dX6_become_109 (fun H locs hP hD hS => ?_)
  obtain ⟨f_4, hf_4, hP, hD⟩ := pe9i (fun f_4 => tab_ 4 28 [oxl, 0, (-2147483648), (-2147483648)] [oxh, 19, 2147483647, 2147483647] f_4) (fun f_4 => [zO tA 6 [vI owi, vI oro, vR t2, vR t3, vI odr, vI odt, vR t6, vI ope, vR t8, vI tgu, vI tsh, vR t11, vI two, vR t13, vI tdn, vI tmi, vI tfl, vI ttk, vI tgo], zI t2 (cy 0) 96 f_1, zI t3 (cy 0) 96 f_2, zI t6 (cy 0) 56 f_3, zI t8 (cy 0) 112 f_4, zI t11 (cy 0) 4 tsf, zI t13 (cy 0) 40 tkf, zO oA 6 [vI owi, vI oro, vR o2, vR o3, vI odr, vI odt, vR o6, vI ope, vR o8, vI ogu, vI osh, vR o11, vI owo, vR o13, vI odn, vI omi, vI ofl, vI otk, vI ogo], zI o2 (cy 0) 96 ohf, zI o3 (cy 0) 96 owf, zI o6 (cy 0) 56 odf, zI o8 (cy 0) 112 opf, zI o11 (cy 0) 4 osf, zI o13 (cy 0) 40 okf]) (tab_cpy hopf (by decide) (by decide) (by decide)) hP hD
  refine lv_aload_n hx hb dX6_become_112 rfl (lv_at hlv 0 rfl) ?_
  refine lv_aload_n hx hb dX6_become_113 rfl (lv_at hlv 1 rfl) ?_
  refine va_get (D := D) (ci := 6) (v := vI ogu) (C := RX6) (T := TX6) (N := 19) hx hb hts hi6 hown hG.1 hP 7 rfl rfl 9 (by decide) lf50 (fun _ h9 => h9) rfl dX6_become_114 ?_
  refine va_put (D := D) (ci := 6) (v := vI ogu) (ty := .int) (C := RX6) (T := TX6) (N := 19) hx hb hts hi6 tyX6 tyX6_ok nmX6 hown hG.1 hP hD hS 0 rfl rfl 9 (by decide) lf50 (fun _ h9 => h9) rfl (by decide +kernel) rfl rfl (Nat.le_of_ble_eq_true rfl) dX6_become_117 (fun H locs hP hD hS => ?_)
  obtain ⟨hP, hD⟩ := pw9 [zO tA 6 [vI owi, vI oro, vR t2, vR t3, vI odr, vI odt, vR t6, vI ope, vR t8, vI ogu, vI tsh, vR t11, vI two, vR t13, vI tdn, vI tmi, vI tfl, vI ttk, vI tgo], zI t2 (cy 0) 96 f_1, zI t3 (cy 0) 96 f_2, zI t6 (cy 0) 56 f_3, zI t8 (cy 0) 112 f_4, zI t11 (cy 0) 4 tsf, zI t13 (cy 0) 40 tkf, zO oA 6 [vI owi, vI oro, vR o2, vR o3, vI odr, vI odt, vR o6, vI ope, vR o8, vI ogu, vI osh, vR o11, vI owo, vR o13, vI odn, vI omi, vI ofl, vI otk, vI ogo], zI o2 (cy 0) 96 ohf, zI o3 (cy 0) 96 owf, zI o6 (cy 0) 56 odf, zI o8 (cy 0) 112 opf, zI o11 (cy 0) 4 osf, zI o13 (cy 0) 40 okf] hP hD
  refine lv_aload_n hx hb dX6_become_120 rfl (lv_at hlv 0 rfl) ?_
  refine lv_aload_n hx hb dX6_become_121 rfl (lv_at hlv 1 rfl) ?_
  refine va_get (D := D) (ci := 6) (v := vI osh) (C := RX6) (T := TX6) (N := 19) hx hb hts hi6 hown hG.1 hP 7 rfl rfl 10 (by decide) lf53 (fun _ h9 => h9) rfl dX6_become_122 ?_
  refine va_put (D := D) (ci := 6) (v := vI osh) (ty := .int) (C := RX6) (T := TX6) (N := 19) hx hb hts hi6 tyX6 tyX6_ok nmX6 hown hG.1 hP hD hS 0 rfl rfl 10 (by decide) lf53 (fun _ h9 => h9) rfl (by decide +kernel) rfl rfl (Nat.le_of_ble_eq_true rfl) dX6_become_125 (fun H locs hP hD hS => ?_)
  obtain ⟨hP, hD⟩ := pw9 [zO tA 6 [vI owi, vI oro, vR t2, vR t3, vI odr, vI odt, vR t6, vI ope, vR t8, vI ogu, vI osh, vR t11, vI two, vR t13, vI tdn, vI tmi, vI tfl, vI ttk, vI tgo], zI t2 (cy 0) 96 f_1, zI t3 (cy 0) 96 f_2, zI t6 (cy 0) 56 f_3, zI t8 (cy 0) 112 f_4, zI t11 (cy 0) 4 tsf, zI t13 (cy 0) 40 tkf, zO oA 6 [vI owi, vI oro, vR o2, vR o3, vI odr, vI odt, vR o6, vI ope, vR o8, vI ogu, vI osh, vR o11, vI owo, vR o13, vI odn, vI omi, vI ofl, vI otk, vI ogo], zI o2 (cy 0) 96 ohf, zI o3 (cy 0) 96 owf, zI o6 (cy 0) 56 odf, zI o8 (cy 0) 112 opf, zI o11 (cy 0) 4 osf, zI o13 (cy 0) 40 okf] hP hD
  refine lv_aload_n hx hb dX6_become_128 rfl (lv_at hlv 1 rfl) ?_
  refine va_get (D := D) (ci := 6) (v := vR o11) (C := RX6) (T := TX6) (N := 19) hx hb hts hi6 hown hG.1 hP 7 rfl rfl 11 (by decide) lf22 (fun _ h9 => h9) rfl dX6_become_129 ?_
  refine lv_iconst (v := iI 0) hx hb dX6_become_132 (by decide) ?_
  refine lv_aload_n hx hb dX6_become_133 rfl (lv_at hlv 0 rfl) ?_
  refine va_get (D := D) (ci := 6) (v := vR t11) (C := RX6) (T := TX6) (N := 19) hx hb hts hi6 hown hG.1 hP 0 rfl rfl 11 (by decide) lf22 (fun _ h9 => h9) rfl dX6_become_134 ?_
  refine lv_iconst (v := iI 0) hx hb dX6_become_137 (by decide) ?_
  refine lv_aload_n hx hb dX6_become_138 rfl (lv_at hlv 0 rfl) ?_
  refine va_get (D := D) (ci := 6) (v := vR t11) (C := RX6) (T := TX6) (N := 19) hx hb hts hi6 hown hG.1 hP 0 rfl rfl 11 (by decide) lf22 (fun _ h9 => h9) rfl dX6_become_139 ?_
  refine va_alen (v := iI 4) hx hb hG.1 hP 5 0 rfl rfl (iI_nI _) dX6_become_142 ?_
  refine va_copyi (ty := .int) hx hb (hml.trans hlv.1.symm) hown ay1_74 ay2 ay3 ay4 hG.1 hP hD hS 12 5 0 0 rfl rfl rfl rfl rfl (fun q => absurd ((iI_lt (a := 0) (b := 0) (by omega) (by omega)).mp q) (by omega)) (fun q => absurd ((iI_lt (a := 0) (b := 0) (by omega) (by omega)).mp q) (by omega)) (fun q => absurd ((iI_lt (a := 4) (b := 0) (by omega) (by omega)).mp q) (by omega)) (by have h1 := iI_cl (e := 0) (by omega) (by omega); have h2 := iI_cl (e := 4) (by omega) (by omega); omega) (by have h1 := iI_cl (e := 0) (by omega) (by omega); have h2 := iI_cl (e := 4) (by omega) (by omega); omega) (fun i h => rfl) (Nat.le_of_ble_eq_true rfl) (Nat.le_of_ble_eq_true rfl) dX6_become_143 (fun H locs hP hD hS => ?_)
  obtain ⟨f_5, hP, hD⟩ := pe9 (fun f_5 => [zO tA 6 [vI owi, vI oro, vR t2, vR t3, vI odr, vI odt, vR t6, vI ope, vR t8, vI ogu, vI osh, vR t11, vI two, vR t13, vI tdn, vI tmi, vI tfl, vI ttk, vI tgo], zI t2 (cy 0) 96 f_1, zI t3 (cy 0) 96 f_2, zI t6 (cy 0) 56 f_3, zI t8 (cy 0) 112 f_4, zI t11 (cy 0) 4 f_5, zI t13 (cy 0) 40 tkf, zO oA 6 [vI owi, vI oro, vR o2, vR o3, vI odr, vI odt, vR o6, vI ope, vR o8, vI ogu, vI osh, vR o11, vI owo, vR o13, vI odn, vI omi, vI ofl, vI otk, vI ogo], zI o2 (cy 0) 96 ohf, zI o3 (cy 0) 96 owf, zI o6 (cy 0) 56 odf, zI o8 (cy 0) 112 opf, zI o11 (cy 0) 4 osf, zI o13 (cy 0) 40 okf]) _ hP hD
  refine lv_aload_n hx hb dX6_become_146 rfl (lv_at hlv 0 rfl) ?_
  refine lv_aload_n hx hb dX6_become_147 rfl (lv_at hlv 1 rfl) ?_
  refine va_get (D := D) (ci := 6) (v := vI owo) (C := RX6) (T := TX6) (N := 19) hx hb hts hi6 hown hG.1 hP 7 rfl rfl 12 (by decide) lf56 (fun _ h9 => h9) rfl dX6_become_148 ?_
  refine va_put (D := D) (ci := 6) (v := vI owo) (ty := .int) (C := RX6) (T := TX6) (N := 19) hx hb hts hi6 tyX6 tyX6_ok nmX6 hown hG.1 hP hD hS 0 rfl rfl 12 (by decide) lf56 (fun _ h9 => h9) rfl (by decide +kernel) rfl rfl (Nat.le_of_ble_eq_true rfl) dX6_become_151 (fun H locs hP hD hS => ?_)
  obtain ⟨hP, hD⟩ := pw9 [zO tA 6 [vI owi, vI oro, vR t2, vR t3, vI odr, vI odt, vR t6, vI ope, vR t8, vI ogu, vI osh, vR t11, vI owo, vR t13, vI tdn, vI tmi, vI tfl, vI ttk, vI tgo], zI t2 (cy 0) 96 f_1, zI t3 (cy 0) 96 f_2, zI t6 (cy 0) 56 f_3, zI t8 (cy 0) 112 f_4, zI t11 (cy 0) 4 f_5, zI t13 (cy 0) 40 tkf, zO oA 6 [vI owi, vI oro, vR o2, vR o3, vI odr, vI odt, vR o6, vI ope, vR o8, vI ogu, vI osh, vR o11, vI owo, vR o13, vI odn, vI omi, vI ofl, vI otk, vI ogo], zI o2 (cy 0) 96 ohf, zI o3 (cy 0) 96 owf, zI o6 (cy 0) 56 odf, zI o8 (cy 0) 112 opf, zI o11 (cy 0) 4 osf, zI o13 (cy 0) 40 okf] hP hD
  refine lv_aload_n hx hb dX6_become_154 rfl (lv_at hlv 1 rfl) ?_
  refine va_get (D := D) (ci := 6) (v := vR o13) (C := RX6) (T := TX6) (N := 19) hx hb hts hi6 hown hG.1 hP 7 rfl rfl 13 (by decide) lf25 (fun _ h9 => h9) rfl dX6_become_155 ?_
  refine lv_iconst (v := iI 0) hx hb dX6_become_158 (by decide) ?_
  refine lv_aload_n hx hb dX6_become_159 rfl (lv_at hlv 0 rfl) ?_
  refine va_get (D := D) (ci := 6) (v := vR t13) (C := RX6) (T := TX6) (N := 19) hx hb hts hi6 hown hG.1 hP 0 rfl rfl 13 (by decide) lf25 (fun _ h9 => h9) rfl dX6_become_160 ?_
  refine lv_iconst (v := iI 0) hx hb dX6_become_163 (by decide) ?_
  refine lv_aload_n hx hb dX6_become_164 rfl (lv_at hlv 0 rfl) ?_
  refine va_get (D := D) (ci := 6) (v := vR t13) (C := RX6) (T := TX6) (N := 19) hx hb hts hi6 hown hG.1 hP 0 rfl rfl 13 (by decide) lf25 (fun _ h9 => h9) rfl dX6_become_165 ?_
  refine va_alen (v := iI 40) hx hb hG.1 hP 6 0 rfl rfl (iI_nI _) dX6_become_168 ?_
  refine va_copyi (ty := .int) hx hb (hml.trans hlv.1.symm) hown ay1_74 ay2 ay3 ay4 hG.1 hP hD hS 13 6 0 0 rfl rfl rfl rfl rfl (fun q => absurd ((iI_lt (a := 0) (b := 0) (by omega) (by omega)).mp q) (by omega)) (fun q => absurd ((iI_lt (a := 0) (b := 0) (by omega) (by omega)).mp q) (by omega)) (fun q => absurd ((iI_lt (a := 40) (b := 0) (by omega) (by omega)).mp q) (by omega)) (by have h1 := iI_cl (e := 0) (by omega) (by omega); have h2 := iI_cl (e := 40) (by omega) (by omega); omega) (by have h1 := iI_cl (e := 0) (by omega) (by omega); have h2 := iI_cl (e := 40) (by omega) (by omega); omega) (fun i h => rfl) (Nat.le_of_ble_eq_true rfl) (Nat.le_of_ble_eq_true rfl) dX6_become_169 (fun H locs hP hD hS => ?_)
  obtain ⟨f_6, hf_6, hP, hD⟩ := pe9i (fun f_6 => tw_ f_6) (fun f_6 => [zO tA 6 [vI owi, vI oro, vR t2, vR t3, vI odr, vI odt, vR t6, vI ope, vR t8, vI ogu, vI osh, vR t11, vI owo, vR t13, vI tdn, vI tmi, vI tfl, vI ttk, vI tgo], zI t2 (cy 0) 96 f_1, zI t3 (cy 0) 96 f_2, zI t6 (cy 0) 56 f_3, zI t8 (cy 0) 112 f_4, zI t11 (cy 0) 4 f_5, zI t13 (cy 0) 40 f_6, zO oA 6 [vI owi, vI oro, vR o2, vR o3, vI odr, vI odt, vR o6, vI ope, vR o8, vI ogu, vI osh, vR o11, vI owo, vR o13, vI odn, vI omi, vI ofl, vI otk, vI ogo], zI o2 (cy 0) 96 ohf, zI o3 (cy 0) 96 owf, zI o6 (cy 0) 56 odf, zI o8 (cy 0) 112 opf, zI o11 (cy 0) 4 osf, zI o13 (cy 0) 40 okf]) (tw_cpy hokf (by decide) (by decide) (by decide)) hP hD
  refine lv_aload_n hx hb dX6_become_172 rfl (lv_at hlv 0 rfl) ?_
  refine lv_aload_n hx hb dX6_become_173 rfl (lv_at hlv 1 rfl) ?_
  refine va_get (D := D) (ci := 6) (v := vI odn) (C := RX6) (T := TX6) (N := 19) hx hb hts hi6 hown hG.1 hP 7 rfl rfl 14 (by decide) lf59 (fun _ h9 => h9) rfl dX6_become_174 ?_
  refine va_put (D := D) (ci := 6) (v := vI odn) (ty := .int) (C := RX6) (T := TX6) (N := 19) hx hb hts hi6 tyX6 tyX6_ok nmX6 hown hG.1 hP hD hS 0 rfl rfl 14 (by decide) lf59 (fun _ h9 => h9) rfl (by decide +kernel) rfl rfl (Nat.le_of_ble_eq_true rfl) dX6_become_177 (fun H locs hP hD hS => ?_)
  obtain ⟨hP, hD⟩ := pw9 [zO tA 6 [vI owi, vI oro, vR t2, vR t3, vI odr, vI odt, vR t6, vI ope, vR t8, vI ogu, vI osh, vR t11, vI owo, vR t13, vI odn, vI tmi, vI tfl, vI ttk, vI tgo], zI t2 (cy 0) 96 f_1, zI t3 (cy 0) 96 f_2, zI t6 (cy 0) 56 f_3, zI t8 (cy 0) 112 f_4, zI t11 (cy 0) 4 f_5, zI t13 (cy 0) 40 f_6, zO oA 6 [vI owi, vI oro, vR o2, vR o3, vI odr, vI odt, vR o6, vI ope, vR o8, vI ogu, vI osh, vR o11, vI owo, vR o13, vI odn, vI omi, vI ofl, vI otk, vI ogo], zI o2 (cy 0) 96 ohf, zI o3 (cy 0) 96 owf, zI o6 (cy 0) 56 odf, zI o8 (cy 0) 112 opf, zI o11 (cy 0) 4 osf, zI o13 (cy 0) 40 okf] hP hD
  refine lv_aload_n hx hb dX6_become_180 rfl (lv_at hlv 0 rfl) ?_
  refine lv_aload_n hx hb dX6_become_181 rfl (lv_at hlv 1 rfl) ?_
  refine va_get (D := D) (ci := 6) (v := vI omi) (C := RX6) (T := TX6) (N := 19) hx hb hts hi6 hown hG.1 hP 7 rfl rfl 15 (by decide) lf62 (fun _ h9 => h9) rfl dX6_become_182 ?_
  refine va_put (D := D) (ci := 6) (v := vI omi) (ty := .int) (C := RX6) (T := TX6) (N := 19) hx hb hts hi6 tyX6 tyX6_ok nmX6 hown hG.1 hP hD hS 0 rfl rfl 15 (by decide) lf62 (fun _ h9 => h9) rfl (by decide +kernel) rfl rfl (Nat.le_of_ble_eq_true rfl) dX6_become_185 (fun H locs hP hD hS => ?_)
  obtain ⟨hP, hD⟩ := pw9 [zO tA 6 [vI owi, vI oro, vR t2, vR t3, vI odr, vI odt, vR t6, vI ope, vR t8, vI ogu, vI osh, vR t11, vI owo, vR t13, vI odn, vI omi, vI tfl, vI ttk, vI tgo], zI t2 (cy 0) 96 f_1, zI t3 (cy 0) 96 f_2, zI t6 (cy 0) 56 f_3, zI t8 (cy 0) 112 f_4, zI t11 (cy 0) 4 f_5, zI t13 (cy 0) 40 f_6, zO oA 6 [vI owi, vI oro, vR o2, vR o3, vI odr, vI odt, vR o6, vI ope, vR o8, vI ogu, vI osh, vR o11, vI owo, vR o13, vI odn, vI omi, vI ofl, vI otk, vI ogo], zI o2 (cy 0) 96 ohf, zI o3 (cy 0) 96 owf, zI o6 (cy 0) 56 odf, zI o8 (cy 0) 112 opf, zI o11 (cy 0) 4 osf, zI o13 (cy 0) 40 okf] hP hD
  refine lv_aload_n hx hb dX6_become_188 rfl (lv_at hlv 0 rfl) ?_
  refine lv_aload_n hx hb dX6_become_189 rfl (lv_at hlv 1 rfl) ?_
  refine va_get (D := D) (ci := 6) (v := vI ofl) (C := RX6) (T := TX6) (N := 19) hx hb hts hi6 hown hG.1 hP 7 rfl rfl 16 (by decide) lf65 (fun _ h9 => h9) rfl dX6_become_190 ?_
  refine va_put (D := D) (ci := 6) (v := vI ofl) (ty := .int) (C := RX6) (T := TX6) (N := 19) hx hb hts hi6 tyX6 tyX6_ok nmX6 hown hG.1 hP hD hS 0 rfl rfl 16 (by decide) lf65 (fun _ h9 => h9) rfl (by decide +kernel) rfl rfl (Nat.le_of_ble_eq_true rfl) dX6_become_193 (fun H locs hP hD hS => ?_)
  obtain ⟨hP, hD⟩ := pw9 [zO tA 6 [vI owi, vI oro, vR t2, vR t3, vI odr, vI odt, vR t6, vI ope, vR t8, vI ogu, vI osh, vR t11, vI owo, vR t13, vI odn, vI omi, vI ofl, vI ttk, vI tgo], zI t2 (cy 0) 96 f_1, zI t3 (cy 0) 96 f_2, zI t6 (cy 0) 56 f_3, zI t8 (cy 0) 112 f_4, zI t11 (cy 0) 4 f_5, zI t13 (cy 0) 40 f_6, zO oA 6 [vI owi, vI oro, vR o2, vR o3, vI odr, vI odt, vR o6, vI ope, vR o8, vI ogu, vI osh, vR o11, vI owo, vR o13, vI odn, vI omi, vI ofl, vI otk, vI ogo], zI o2 (cy 0) 96 ohf, zI o3 (cy 0) 96 owf, zI o6 (cy 0) 56 odf, zI o8 (cy 0) 112 opf, zI o11 (cy 0) 4 osf, zI o13 (cy 0) 40 okf] hP hD
  refine lv_aload_n hx hb dX6_become_196 rfl (lv_at hlv 0 rfl) ?_
  refine lv_aload_n hx hb dX6_become_197 rfl (lv_at hlv 1 rfl) ?_
  refine va_get (D := D) (ci := 6) (v := vI otk) (C := RX6) (T := TX6) (N := 19) hx hb hts hi6 hown hG.1 hP 7 rfl rfl 17 (by decide) lf68 (fun _ h9 => h9) rfl dX6_become_198 ?_
  refine va_put (D := D) (ci := 6) (v := vI otk) (ty := .int) (C := RX6) (T := TX6) (N := 19) hx hb hts hi6 tyX6 tyX6_ok nmX6 hown hG.1 hP hD hS 0 rfl rfl 17 (by decide) lf68 (fun _ h9 => h9) rfl (by decide +kernel) rfl rfl (Nat.le_of_ble_eq_true rfl) dX6_become_201 (fun H locs hP hD hS => ?_)
  obtain ⟨hP, hD⟩ := pw9 [zO tA 6 [vI owi, vI oro, vR t2, vR t3, vI odr, vI odt, vR t6, vI ope, vR t8, vI ogu, vI osh, vR t11, vI owo, vR t13, vI odn, vI omi, vI ofl, vI otk, vI tgo], zI t2 (cy 0) 96 f_1, zI t3 (cy 0) 96 f_2, zI t6 (cy 0) 56 f_3, zI t8 (cy 0) 112 f_4, zI t11 (cy 0) 4 f_5, zI t13 (cy 0) 40 f_6, zO oA 6 [vI owi, vI oro, vR o2, vR o3, vI odr, vI odt, vR o6, vI ope, vR o8, vI ogu, vI osh, vR o11, vI owo, vR o13, vI odn, vI omi, vI ofl, vI otk, vI ogo], zI o2 (cy 0) 96 ohf, zI o3 (cy 0) 96 owf, zI o6 (cy 0) 56 odf, zI o8 (cy 0) 112 opf, zI o11 (cy 0) 4 osf, zI o13 (cy 0) 40 okf] hP hD
  refine lv_aload_n hx hb dX6_become_204 rfl (lv_at hlv 0 rfl) ?_
  refine lv_aload_n hx hb dX6_become_205 rfl (lv_at hlv 1 rfl) ?_
  refine va_get (D := D) (ci := 6) (v := vI ogo) (C := RX6) (T := TX6) (N := 19) hx hb hts hi6 hown hG.1 hP 7 rfl rfl 18 (by decide) lf71 (fun _ h9 => h9) rfl dX6_become_206 ?_
  refine va_put (D := D) (ci := 6) (v := vI ogo) (ty := .int) (C := RX6) (T := TX6) (N := 19) hx hb hts hi6 tyX6 tyX6_ok nmX6 hown hG.1 hP hD hS 0 rfl rfl 18 (by decide) lf71 (fun _ h9 => h9) rfl (by decide +kernel) rfl rfl (Nat.le_of_ble_eq_true rfl) dX6_become_209 (fun H locs hP hD hS => ?_)
  obtain ⟨hP, hD⟩ := pw9 [zO tA 6 [vI owi, vI oro, vR t2, vR t3, vI odr, vI odt, vR t6, vI ope, vR t8, vI ogu, vI osh, vR t11, vI owo, vR t13, vI odn, vI omi, vI ofl, vI otk, vI ogo], zI t2 (cy 0) 96 f_1, zI t3 (cy 0) 96 f_2, zI t6 (cy 0) 56 f_3, zI t8 (cy 0) 112 f_4, zI t11 (cy 0) 4 f_5, zI t13 (cy 0) 40 f_6, zO oA 6 [vI owi, vI oro, vR o2, vR o3, vI odr, vI odt, vR o6, vI ope, vR o8, vI ogu, vI osh, vR o11, vI owo, vR o13, vI odn, vI omi, vI ofl, vI otk, vI ogo], zI o2 (cy 0) 96 ohf, zI o3 (cy 0) 96 owf, zI o6 (cy 0) 56 odf, zI o8 (cy 0) 112 opf, zI o11 (cy 0) 4 osf, zI o13 (cy 0) 40 okf] hP hD
  refine W.widen (k := 0) (n := 0) (Nat.le_of_ble_eq_true rfl) (Nat.le_of_ble_eq_true rfl) ?_
  exact W.vret hx hb hr (fun t ht hW => ⟨⟨((fun k => ([] : List Nat).getD k 0), (fun k => ([] : List Int).getD k 0), (fun k => ([f_1, f_2, f_3, f_4, f_5, f_6] : List (Nat → Int32)).getD k (fun _ => 0))), rfl, ⟨hf_1, hf_3, hf_4, hf_6, hohf, hodf, hopf, hokf⟩, at9 ht hP hD [0, 1, 2, 3, 4, 5, 6, 7, 8, 9, 10, 11, 12, 13] (by decide +kernel) rfl⟩, hS.F ht⟩) hS.2.2 dX6_become_212
def vs_s_addDrain : List Cond := .code yX6_addDrain cX6_addDrain 6 none :: (([.fieldLink RX6 41 "KerbSplash$Street" "drains" "I", .fieldLink RX6 16 "KerbSplash$Street" "drain" "[I"] : List Cond) ++ ((wsX60) ++ ([])))
theorem gd_s_addDrain : vs_s_addDrain.all goodWord = true := gd_C (by decide +kernel) (gd_A (by decide +kernel) (gd_A (by decide +kernel) rfl))
set_option maxHeartbeats 4000000 in
set_option maxRecDepth 100000 in
theorem s_addDrain (l : Launch) (hl : l.stackTraces = false) (D : va_G) (cy : Nat → ClassId) (sa : Nat → Nat) (sA s2 s3 s6 s8 s11 s13 : Nat) (wi ro dr dt pe gu sh wo dn mi fl tk go : Int) (df : Nat → Int32) (x y ra lv : Int) (sz : Nat) (hr_wi : 0 ≤ wi ∧ wi ≤ 16) (hr_ro : 0 ≤ ro ∧ ro ≤ 6) (hr_dr : 0 ≤ dr ∧ dr ≤ 14) (hr_dt : 0 ≤ dt ∧ dt ≤ 6) (hr_pe : 0 ≤ pe ∧ pe ≤ 8) (hr_gu : 0 ≤ gu ∧ gu ≤ 20) (hr_sh : 0 ≤ sh ∧ sh ≤ 2) (hr_wo : 0 ≤ wo ∧ wo ≤ 8) (hr_dn : (-2147483648) ≤ dn ∧ dn ≤ 2147483647) (hr_mi : 0 ≤ mi ∧ mi ≤ 600) (hr_fl : (-2147483648) ≤ fl ∧ fl ≤ 2147483647) (hr_tk : (-2147483648) ≤ tk ∧ tk ≤ 2147483647) (hr_go : (-2147483648) ≤ go ∧ go ≤ 2147483647) (hr_x : 0 ≤ x ∧ x ≤ 15) (hr_y : 0 ≤ y ∧ y ≤ 5) (hr_ra : 0 ≤ ra ∧ ra ≤ 99) (hr_lv : 0 ≤ lv ∧ lv ≤ 16) (hdf : tab_ 4 14 [0, 0, 0, 0] [15, 5, 99, 16] df) : mV9 l yX6_addDrain vs_s_addDrain ({ frames := 0, cells := 0, slots := 0, locals := 0 }) D cy sa sz [vR sA, vI x, vI y, vI ra, vI lv] [zO sA 6 [vI wi, vI ro, vR s2, vR s3, vI dr, vI dt, vR s6, vI pe, vR s8, vI gu, vI sh, vR s11, vI wo, vR s13, vI dn, vI mi, vI fl, vI tk, vI go], zI s6 (cy 0) 56 df] (fun u : SV => (0 ≤ u.2.1 0 ∧ u.2.1 0 ≤ 14) ∧ (u.2.1 0 ≤ dr + 1) ∧ tab_ 4 14 [0, 0, 0, 0] [15, 5, 99, 16] (u.2.2 0)) (fun u : SV => [zO sA 6 [vI wi, vI ro, vR s2, vR s3, vI (u.2.1 0), vI dt, vR s6, vI pe, vR s8, vI gu, vI sh, vR s11, vI wo, vR s13, vI dn, vI mi, vI fl, vI tk, vI go], zI s6 (cy 0) 56 (u.2.2 0)]) 0 0 := by
  refine Met.ofW (cc := cX6_addDrain) (maxL := 6) (ret := none) (by decide) rfl ?_
  intro p e s m args below meth c s₁ B hml hv
  obtain ⟨rfl, hsz, hP, hG, hD0, hT⟩ := hv
  have hx := B.exec
  have hb := B.bytes
  have hr := B.returns
  have hts := atoms_spec (ws := vs_s_addDrain) B.pre
  have hown : s.vm.findClass RX6 = some m.cls := findClass_of_methodNamed B.named
  have hlocks := B.notSynchronized
  subst hsz
  have hD := hD0.self (sz := s.heap.size)
  generalize hAe : va_A [zO sA 6 [vI wi, vI ro, vR s2, vR s3, vI dr, vI dt, vR s6, vI pe, vR s8, vI gu, vI sh, vR s11, vI wo, vR s13, vI dn, vI mi, vI fl, vI tk, vI go], zI s6 (cy 0) 56 df] s.heap.size = A at hD hT ⊢
  have hA : ∀ q : Nat, s.heap.size ≤ q → A q := fun q h => by rw [← hAe]; exact Or.inr h
  have hS : va_S A s.heap s.heap [] := va_S.rf
  have hl0 := lv_entry ([vR sA, vI x, vI y, vI ra, vI lv]) (n := 6) (Nat.le_of_ble_eq_true rfl)
  rw [lg_entry_eq]
  generalize (lg_sl ([vR sA, vI x, vI y, vI ra, vI lv]) ++ List.replicate (6 - (lg_sl ([vR sA, vI x, vI y, vI ra, vI lv])).length) Slot.unset).toArray = ls at hl0 ⊢
  have hlv : lv_has ls 6 [(0, vR sA), (1, vI x), (2, vI y), (3, vI ra), (4, vI lv)] := hl0
  have lf41 := hts (.fieldLink RX6 41 "KerbSplash$Street" "drains" "I") (List.mem_of_getElem? (i := 1) rfl)
  have hi6 : ∀ w ∈ wsX60, w ∈ vs_s_addDrain := fun w h => List.mem_cons_of_mem _ (List.mem_append_right _ (List.mem_append_left _ h))
  have lf16 := hts (.fieldLink RX6 16 "KerbSplash$Street" "drain" "[I") (List.mem_of_getElem? (i := 2) rfl)
  refine lv_iconst (v := iI 4) hx hb dX6_addDrain_0 (by decide) ?_
  refine lv_aload_n hx hb dX6_addDrain_1 rfl (lv_at hlv 0 rfl) ?_
  refine va_get (D := D) (ci := 6) (v := vI dr) (C := RX6) (T := TX6) (N := 19) hx hb hts hi6 hown hG.1 hP 0 rfl rfl 4 (by decide) lf41 (fun _ h9 => h9) rfl dX6_addDrain_2 ?_
  refine lv_imul hx hb dX6_addDrain_5 ?_
  refine lt_e (e0 := 4 * dr) (Int32.ofInt_mul _ _).symm (fun z_1 hz_1 => ?_)
  refine lv_istore (lv' := [(5, vI z_1), (0, vR sA), (1, vI x), (2, vI y), (3, vI ra), (4, vI lv)]) hx hb dX6_addDrain_6 hlv (by decide) rfl (fun ls hlv => ?_)
  refine lv_iload hx hb dX6_addDrain_8 (lv_at hlv 0 rfl) ?_
  refine lv_iconst (v := iI 4) hx hb dX6_addDrain_10 (by decide) ?_
  refine lv_iadd hx hb dX6_addDrain_11 ?_
  refine lt_e (e0 := z_1 + 4) (Int32.ofInt_add _ _).symm (fun z_2 hz_2 => ?_)
  refine lv_aload_n hx hb dX6_addDrain_12 rfl (lv_at hlv 1 rfl) ?_
  refine va_get (D := D) (ci := 6) (v := vR s6) (C := RX6) (T := TX6) (N := 19) hx hb hts hi6 hown hG.1 hP 0 rfl rfl 6 (by decide) lf16 (fun _ h9 => h9) rfl dX6_addDrain_13 ?_
  refine va_alen (v := iI 56) hx hb hG.1 hP 1 0 rfl rfl (iI_nI _) dX6_addDrain_16 ?_
  refine ir_le (tgt := 21) hx hb dX6_addDrain_17 (by decide) (by omega) (by show ((-2147483648) : Int) ≤ 56 ∧ (56 : Int) ≤ 2147483647; decide) (fun c_3 => ?_) (fun c_3 => ?_)
  · refine lv_aload_n hx hb dX6_addDrain_21 rfl (lv_at hlv 1 rfl) ?_
    refine va_get (D := D) (ci := 6) (v := vR s6) (C := RX6) (T := TX6) (N := 19) hx hb hts hi6 hown hG.1 hP 0 rfl rfl 6 (by decide) lf16 (fun _ h9 => h9) rfl dX6_addDrain_22 ?_
    refine lv_iload hx hb dX6_addDrain_25 (lv_at hlv 0 rfl) ?_
    refine lv_iload_n hx hb dX6_addDrain_27 rfl (lv_at hlv 2 rfl) ?_
    refine va_iast hx hb hG.1 hP hD hS 1 0 rfl rfl (iI_in (by omega) (by decide)) dX6_addDrain_28 (fun H locs hP hD hS => ?_)
    obtain ⟨f_4, hf_4, hP, hD⟩ := pe9i (fun f_4 => tab_ 4 14 [0, 0, 0, 0] [15, 5, 99, 16] f_4) (fun f_4 => [zO sA 6 [vI wi, vI ro, vR s2, vR s3, vI dr, vI dt, vR s6, vI pe, vR s8, vI gu, vI sh, vR s11, vI wo, vR s13, vI dn, vI mi, vI fl, vI tk, vI go], zI s6 (cy 0) 56 f_4]) (tab_wr hdf (e := z_1) (k := dr) (c := 0) (a := 0) (b := 15) (by omega) (by omega) (by decide) (by omega) rfl rfl (by omega)) hP hD
    refine lv_aload_n hx hb dX6_addDrain_29 rfl (lv_at hlv 1 rfl) ?_
    refine va_get (D := D) (ci := 6) (v := vR s6) (C := RX6) (T := TX6) (N := 19) hx hb hts hi6 hown hG.1 hP 0 rfl rfl 6 (by decide) lf16 (fun _ h9 => h9) rfl dX6_addDrain_30 ?_
    refine lv_iload hx hb dX6_addDrain_33 (lv_at hlv 0 rfl) ?_
    refine lv_iconst (v := iI 1) hx hb dX6_addDrain_35 (by decide) ?_
    refine lv_iadd hx hb dX6_addDrain_36 ?_
    refine lt_e (e0 := z_1 + 1) (Int32.ofInt_add _ _).symm (fun z_5 hz_5 => ?_)
    refine lv_iload_n hx hb dX6_addDrain_37 rfl (lv_at hlv 3 rfl) ?_
    refine va_iast hx hb hG.1 hP hD hS 1 0 rfl rfl (iI_in (by omega) (by decide)) dX6_addDrain_38 (fun H locs hP hD hS => ?_)
    obtain ⟨f_6, hf_6, hP, hD⟩ := pe9i (fun f_6 => tab_ 4 14 [0, 0, 0, 0] [15, 5, 99, 16] f_6) (fun f_6 => [zO sA 6 [vI wi, vI ro, vR s2, vR s3, vI dr, vI dt, vR s6, vI pe, vR s8, vI gu, vI sh, vR s11, vI wo, vR s13, vI dn, vI mi, vI fl, vI tk, vI go], zI s6 (cy 0) 56 f_6]) (tab_wr hf_4 (e := z_5) (k := dr) (c := 1) (a := 0) (b := 5) (by omega) (by omega) (by decide) (by omega) rfl rfl (by omega)) hP hD
    refine lv_aload_n hx hb dX6_addDrain_39 rfl (lv_at hlv 1 rfl) ?_
    refine va_get (D := D) (ci := 6) (v := vR s6) (C := RX6) (T := TX6) (N := 19) hx hb hts hi6 hown hG.1 hP 0 rfl rfl 6 (by decide) lf16 (fun _ h9 => h9) rfl dX6_addDrain_40 ?_
    refine lv_iload hx hb dX6_addDrain_43 (lv_at hlv 0 rfl) ?_
    refine lv_iconst (v := iI 2) hx hb dX6_addDrain_45 (by decide) ?_
    refine lv_iadd hx hb dX6_addDrain_46 ?_
    refine lt_e (e0 := z_1 + 2) (Int32.ofInt_add _ _).symm (fun z_7 hz_7 => ?_)
    refine lv_iload_n hx hb dX6_addDrain_47 rfl (lv_at hlv 4 rfl) ?_
    refine va_iast hx hb hG.1 hP hD hS 1 0 rfl rfl (iI_in (by omega) (by decide)) dX6_addDrain_48 (fun H locs hP hD hS => ?_)
    obtain ⟨f_8, hf_8, hP, hD⟩ := pe9i (fun f_8 => tab_ 4 14 [0, 0, 0, 0] [15, 5, 99, 16] f_8) (fun f_8 => [zO sA 6 [vI wi, vI ro, vR s2, vR s3, vI dr, vI dt, vR s6, vI pe, vR s8, vI gu, vI sh, vR s11, vI wo, vR s13, vI dn, vI mi, vI fl, vI tk, vI go], zI s6 (cy 0) 56 f_8]) (tab_wr hf_6 (e := z_7) (k := dr) (c := 2) (a := 0) (b := 99) (by omega) (by omega) (by decide) (by omega) rfl rfl (by omega)) hP hD
    refine lv_aload_n hx hb dX6_addDrain_49 rfl (lv_at hlv 1 rfl) ?_
    refine va_get (D := D) (ci := 6) (v := vR s6) (C := RX6) (T := TX6) (N := 19) hx hb hts hi6 hown hG.1 hP 0 rfl rfl 6 (by decide) lf16 (fun _ h9 => h9) rfl dX6_addDrain_50 ?_
    refine lv_iload hx hb dX6_addDrain_53 (lv_at hlv 0 rfl) ?_
    refine lv_iconst (v := iI 3) hx hb dX6_addDrain_55 (by decide) ?_
    refine lv_iadd hx hb dX6_addDrain_56 ?_
    refine lt_e (e0 := z_1 + 3) (Int32.ofInt_add _ _).symm (fun z_9 hz_9 => ?_)
    refine lv_iload hx hb dX6_addDrain_57 (lv_at hlv 5 rfl) ?_
    refine va_iast hx hb hG.1 hP hD hS 1 0 rfl rfl (iI_in (by omega) (by decide)) dX6_addDrain_59 (fun H locs hP hD hS => ?_)
    obtain ⟨f_10, hf_10, hP, hD⟩ := pe9i (fun f_10 => tab_ 4 14 [0, 0, 0, 0] [15, 5, 99, 16] f_10) (fun f_10 => [zO sA 6 [vI wi, vI ro, vR s2, vR s3, vI dr, vI dt, vR s6, vI pe, vR s8, vI gu, vI sh, vR s11, vI wo, vR s13, vI dn, vI mi, vI fl, vI tk, vI go], zI s6 (cy 0) 56 f_10]) (tab_wr hf_8 (e := z_9) (k := dr) (c := 3) (a := 0) (b := 16) (by omega) (by omega) (by decide) (by omega) rfl rfl (by omega)) hP hD
    refine lv_aload_n hx hb dX6_addDrain_60 rfl (lv_at hlv 1 rfl) ?_
    refine lv_dup hx hb dX6_addDrain_61 rfl ?_
    refine va_get (D := D) (ci := 6) (v := vI dr) (C := RX6) (T := TX6) (N := 19) hx hb hts hi6 hown hG.1 hP 0 rfl rfl 4 (by decide) lf41 (fun _ h9 => h9) rfl dX6_addDrain_62 ?_
    refine lv_iconst (v := iI 1) hx hb dX6_addDrain_65 (by decide) ?_
    refine lv_iadd hx hb dX6_addDrain_66 ?_
    refine lt_e (e0 := dr + 1) (Int32.ofInt_add _ _).symm (fun z_11 hz_11 => ?_)
    refine va_put (D := D) (ci := 6) (v := vI z_11) (ty := .int) (C := RX6) (T := TX6) (N := 19) hx hb hts hi6 tyX6 tyX6_ok nmX6 hown hG.1 hP hD hS 0 rfl rfl 4 (by decide) lf41 (fun _ h9 => h9) rfl (by decide +kernel) rfl rfl (Nat.le_of_ble_eq_true rfl) dX6_addDrain_67 (fun H locs hP hD hS => ?_)
    obtain ⟨hP, hD⟩ := pw9 [zO sA 6 [vI wi, vI ro, vR s2, vR s3, vI z_11, vI dt, vR s6, vI pe, vR s8, vI gu, vI sh, vR s11, vI wo, vR s13, vI dn, vI mi, vI fl, vI tk, vI go], zI s6 (cy 0) 56 f_10] hP hD
    refine W.widen (k := 0) (n := 0) (Nat.le_of_ble_eq_true rfl) (Nat.le_of_ble_eq_true rfl) ?_
    exact W.vret hx hb hr (fun t ht hW => ⟨⟨((fun k => ([] : List Nat).getD k 0), (fun k => ([z_11] : List Int).getD k 0), (fun k => ([f_10] : List (Nat → Int32)).getD k (fun _ => 0))), rfl, ⟨(by show (0 ≤ z_11 ∧ z_11 ≤ 14); omega), (by show (z_11 ≤ dr + 1); omega), hf_10⟩, at9 ht hP hD [0, 1] (by decide +kernel) rfl⟩, hS.F ht⟩) hS.2.2 dX6_addDrain_70
  · refine W.widen (k := 0) (n := 0) (Nat.le_of_ble_eq_true rfl) (Nat.le_of_ble_eq_true rfl) ?_
    exact W.vret hx hb hr (fun t ht hW => ⟨⟨((fun k => ([] : List Nat).getD k 0), (fun k => ([dr] : List Int).getD k 0), (fun k => ([df] : List (Nat → Int32)).getD k (fun _ => 0))), rfl, ⟨(by show (0 ≤ dr ∧ dr ≤ 14); first | exact hr_dr | omega), (by show (dr ≤ dr + 1); omega), hdf⟩, at9 ht hP hD [0, 1] (by decide +kernel) rfl⟩, hS.F ht⟩) hS.2.2 dX6_addDrain_20
def vs_s_guessPerson : List Cond := .code yX6_guessPerson cX6_guessPerson 4 none :: (([.fieldLink RX6 50 "KerbSplash$Street" "guesses" "I", .fieldLink RX6 47 "KerbSplash$Street" "persons" "I"] : List Cond) ++ ((wsX60) ++ ((wsV RX6 84 RX6 yX6_putPerson vs_s_putPerson) ++ ([]))))
theorem gd_s_guessPerson : vs_s_guessPerson.all goodWord = true := gd_C (by decide +kernel) (gd_A (by decide +kernel) (gd_A (by decide +kernel) (gd_A (gd_V gd_s_putPerson (by decide +kernel)) rfl)))
set_option maxHeartbeats 4000000 in
set_option maxRecDepth 100000 in
theorem s_guessPerson (l : Launch) (hl : l.stackTraces = false) (D : va_G) (cy : Nat → ClassId) (sa : Nat → Nat) (sA s2 s3 s6 s8 s11 s13 : Nat) (wi ro dr dt pe gu sh wo dn mi fl tk go : Int) (xl xh : Int) (pf : Nat → Int32) (x mo : Int) (sz : Nat) (hr_wi : 0 ≤ wi ∧ wi ≤ 16) (hr_ro : 0 ≤ ro ∧ ro ≤ 6) (hr_dr : 0 ≤ dr ∧ dr ≤ 14) (hr_dt : 0 ≤ dt ∧ dt ≤ 6) (hr_pe : 0 ≤ pe ∧ pe ≤ 8) (hr_gu : 0 ≤ gu ∧ gu ≤ 20) (hr_sh : 0 ≤ sh ∧ sh ≤ 2) (hr_wo : 0 ≤ wo ∧ wo ≤ 8) (hr_dn : (-2147483648) ≤ dn ∧ dn ≤ 2147483647) (hr_mi : 0 ≤ mi ∧ mi ≤ 600) (hr_fl : (-2147483648) ≤ fl ∧ fl ≤ 2147483647) (hr_tk : (-2147483648) ≤ tk ∧ tk ≤ 2147483647) (hr_go : (-2147483648) ≤ go ∧ go ≤ 2147483647) (hr_xl : (-2147483648) ≤ xl ∧ xl ≤ 0) (hr_xh : 15 ≤ xh ∧ xh ≤ 2147483647) (hr_x : 0 ≤ x ∧ x ≤ 15) (hr_mo : 0 ≤ mo ∧ mo ≤ 19) (hpf : tab_ 4 28 [xl, 0, (-2147483648), (-2147483648)] [xh, 19, 2147483647, 2147483647] pf) : mV9 l yX6_guessPerson vs_s_guessPerson ({ frames := 1, cells := 0, slots := 0, locals := 24 }) D cy sa sz [vR sA, vI x, vI mo] [zO sA 6 [vI wi, vI ro, vR s2, vR s3, vI dr, vI dt, vR s6, vI pe, vR s8, vI gu, vI sh, vR s11, vI wo, vR s13, vI dn, vI mi, vI fl, vI tk, vI go], zI s8 (cy 0) 112 pf] (fun u : SV => (0 ≤ u.2.1 0 ∧ u.2.1 0 ≤ 20) ∧ tab_ 4 28 [xl, 0, (-2147483648), (-2147483648)] [xh, 19, 2147483647, 2147483647] (u.2.2 0)) (fun u : SV => [zO sA 6 [vI wi, vI ro, vR s2, vR s3, vI dr, vI dt, vR s6, vI pe, vR s8, vI (u.2.1 0), vI sh, vR s11, vI wo, vR s13, vI dn, vI mi, vI fl, vI tk, vI go], zI s8 (cy 0) 112 (u.2.2 0)]) 0 0 := by
  refine Met.ofW (cc := cX6_guessPerson) (maxL := 4) (ret := none) (by decide) rfl ?_
  intro p e s m args below meth c s₁ B hml hv
  obtain ⟨rfl, hsz, hP, hG, hD0, hT⟩ := hv
  have hx := B.exec
  have hb := B.bytes
  have hr := B.returns
  have hts := atoms_spec (ws := vs_s_guessPerson) B.pre
  have hown : s.vm.findClass RX6 = some m.cls := findClass_of_methodNamed B.named
  have hlocks := B.notSynchronized
  subst hsz
  have hD := hD0.self (sz := s.heap.size)
  generalize hAe : va_A [zO sA 6 [vI wi, vI ro, vR s2, vR s3, vI dr, vI dt, vR s6, vI pe, vR s8, vI gu, vI sh, vR s11, vI wo, vR s13, vI dn, vI mi, vI fl, vI tk, vI go], zI s8 (cy 0) 112 pf] s.heap.size = A at hD hT ⊢
  have hA : ∀ q : Nat, s.heap.size ≤ q → A q := fun q h => by rw [← hAe]; exact Or.inr h
  have hS : va_S A s.heap s.heap [] := va_S.rf
  have hl0 := lv_entry ([vR sA, vI x, vI mo]) (n := 4) (Nat.le_of_ble_eq_true rfl)
  rw [lg_entry_eq]
  generalize (lg_sl ([vR sA, vI x, vI mo]) ++ List.replicate (4 - (lg_sl ([vR sA, vI x, vI mo])).length) Slot.unset).toArray = ls at hl0 ⊢
  have hlv : lv_has ls 4 [(0, vR sA), (1, vI x), (2, vI mo)] := hl0
  have lf50 := hts (.fieldLink RX6 50 "KerbSplash$Street" "guesses" "I") (List.mem_of_getElem? (i := 1) rfl)
  have hi6 : ∀ w ∈ wsX60, w ∈ vs_s_guessPerson := fun w h => List.mem_cons_of_mem _ (List.mem_append_right _ (List.mem_append_left _ h))
  have lf47 := hts (.fieldLink RX6 47 "KerbSplash$Street" "persons" "I") (List.mem_of_getElem? (i := 2) rfl)
  have gg_1 : GoodIn vs_s_guessPerson (wsV RX6 84 RX6 yX6_putPerson vs_s_putPerson) := goodIn_sub (fun w h => List.mem_cons_of_mem _ (List.mem_append_right _ (List.mem_append_right _ (List.mem_append_left _ h)))) (gd_V gd_s_putPerson (by decide +kernel))
  refine lv_iconst (v := iI 0) hx hb dX6_guessPerson_0 (by decide) ?_
  refine lv_istore_n (lv' := [(3, vI 0), (0, vR sA), (1, vI x), (2, vI mo)]) hx hb dX6_guessPerson_1 rfl hlv (by decide) rfl (fun ls hlv => ?_)
  refine (?_ : ∀ (fu : Nat) (q : Int) (pg : Nat → Int32) (H : Heap) (locs : List Loc) (ls : Array Slot), 20 - q < (fu : Int) → (0 ≤ q ∧ q ≤ 20) → (q ≤ mo + 1) → tab_ 4 28 [xl, 0, (-2147483648), (-2147483648)] [xh, 19, 2147483647, 2147483647] pg → va_P D vwCl [zO sA 6 [vI wi, vI ro, vR s2, vR s3, vI dr, vI dt, vR s6, vI pe, vR s8, vI gu, vI sh, vR s11, vI wo, vR s13, vI dn, vI mi, vI fl, vI tk, vI go], zI s8 (cy 0) 112 pg] H → va_D A [zO sA 6 [vI wi, vI ro, vR s2, vR s3, vI dr, vI dt, vR s6, vI pe, vR s8, vI gu, vI sh, vR s11, vI wo, vR s13, vI dn, vI mi, vI fl, vI tk, vI go], zI s8 (cy 0) 112 pg] → va_S A s.heap H locs → lv_has ls 4 [(3, vI q), (0, vR sA), (1, vI x), (2, vI mo)] → W p l e _ s m _ below meth c H locs _ _ _ (F0 m 2 ls [])) (((20 - 0) + 1 : Int)).toNat 0 pf _ _ _ (by omega) (by show (0 : Int) ≤ 0 ∧ (0 : Int) ≤ 20; decide) (by omega) hpf hP hD hS hlv
  clear hP hD hS hlv
  intro fu
  induction fu with
  | zero => intro q pg H locs ls hm2 hl2_0 hl2_1 hipg hP hD hS hlv; omega
  | succ fu ih2 =>
    intro q pg H locs ls hm2 hl2_0 hl2_1 hipg hP hD hS hlv
    refine lv_iload_n hx hb dX6_guessPerson_2 rfl (lv_at hlv 0 rfl) ?_
    refine lv_iload_n hx hb dX6_guessPerson_3 rfl (lv_at hlv 3 rfl) ?_
    refine ir_gt (tgt := 25) hx hb dX6_guessPerson_4 (by decide) (by first | exact rgw hl2_0 (by decide) (by decide) | omega) (by first | exact rgw hr_mo (by decide) (by decide) | omega) (fun c_1 => ?_) (fun c_1 => ?_)
    · refine lv_aload_n hx hb dX6_guessPerson_25 rfl (lv_at hlv 1 rfl) ?_
      refine lv_iload_n hx hb dX6_guessPerson_26 rfl (lv_at hlv 3 rfl) ?_
      refine lv_iconst (v := iI 1) hx hb dX6_guessPerson_27 (by decide) ?_
      refine lv_iadd hx hb dX6_guessPerson_28 ?_
      refine lt_e (e0 := mo + 1) (Int32.ofInt_add _ _).symm (fun z_2 hz_2 => ?_)
      refine va_put (D := D) (ci := 6) (v := vI z_2) (ty := .int) (C := RX6) (T := TX6) (N := 19) hx hb hts hi6 tyX6 tyX6_ok nmX6 hown hG.1 hP hD hS 0 rfl rfl 9 (by decide) lf50 (fun _ h9 => h9) rfl (by decide +kernel) rfl rfl (Nat.le_of_ble_eq_true rfl) dX6_guessPerson_29 (fun H locs hP hD hS => ?_)
      obtain ⟨hP, hD⟩ := pw9 [zO sA 6 [vI wi, vI ro, vR s2, vR s3, vI dr, vI dt, vR s6, vI pe, vR s8, vI z_2, vI sh, vR s11, vI wo, vR s13, vI dn, vI mi, vI fl, vI tk, vI go], zI s8 (cy 0) 112 pg] hP hD
      refine W.widen (k := 0) (n := 0) (Nat.le_of_ble_eq_true rfl) (Nat.le_of_ble_eq_true rfl) ?_
      exact W.vret hx hb hr (fun t ht hW => ⟨⟨((fun k => ([] : List Nat).getD k 0), (fun k => ([z_2] : List Int).getD k 0), (fun k => ([pg] : List (Nat → Int32)).getD k (fun _ => 0))), rfl, ⟨(by show (0 ≤ z_2 ∧ z_2 ≤ 20); omega), hipg⟩, at9 ht hP hD [0, 1] (by decide +kernel) rfl⟩, hS.F ht⟩) hS.2.2 dX6_guessPerson_32
    · refine lv_aload_n hx hb dX6_guessPerson_7 rfl (lv_at hlv 1 rfl) ?_
      refine lv_aload_n hx hb dX6_guessPerson_8 rfl (lv_at hlv 1 rfl) ?_
      refine va_get (D := D) (ci := 6) (v := vI pe) (C := RX6) (T := TX6) (N := 19) hx hb hts hi6 hown hG.1 hP 0 rfl rfl 7 (by decide) lf47 (fun _ h9 => h9) rfl dX6_guessPerson_9 ?_
      refine lv_iload_n hx hb dX6_guessPerson_12 rfl (lv_at hlv 0 rfl) ?_
      refine lv_iadd hx hb dX6_guessPerson_13 ?_
      refine lt_e (e0 := pe + q) (Int32.ofInt_add _ _).symm (fun z_3 hz_3 => ?_)
      refine lv_iload_n hx hb dX6_guessPerson_14 rfl (lv_at hlv 2 rfl) ?_
      refine lv_iload_n hx hb dX6_guessPerson_15 rfl (lv_at hlv 0 rfl) ?_
      refine cjr_v [false, false] (fun pre9 => (va_runV (As := [vI z_3, vI x, vI q]) (rest := []) ⟨hx, hb, hml, hown, hts⟩ (s_putPerson l hl D cy sa sA s2 s3 s6 s8 s11 s13 wi ro dr dt pe gu sh wo dn mi fl tk go xl xh pg z_3 x q H.size (by first | exact hr_wi | omega) (by first | exact hr_ro | omega) (by first | exact hr_dr | omega) (by first | exact hr_dt | omega) (by first | exact hr_pe | omega) (by first | exact hr_gu | omega) (by first | exact hr_sh | omega) (by first | exact hr_wo | omega) (by first | exact hr_dn | omega) (by first | exact hr_mi | omega) (by first | exact hr_fl | omega) (by first | exact hr_tk | omega) (by first | exact hr_go | omega) (by first | exact hr_xl | omega) (by first | exact hr_xh | omega) (by omega) (by first | exact hr_x | omega) (by omega) hipg) (cwV 3 hts gg_1 rfl rfl rfl (by decide +kernel) ⟨Nat.le_of_ble_eq_true rfl, Nat.le_of_ble_eq_true rfl⟩) ⟨pcW.blind, (va_recv hG.1 hP (ci := 6) (q0 := 0) rfl rfl), pre9⟩ rfl rfl hlv.1 rfl (lv_room (Nat.le_of_ble_eq_true rfl)) dX6_guessPerson_16 ⟨Nat.le_of_ble_eq_true rfl, Nat.le_of_ble_eq_true rfl⟩)) hP hD hS hA hG hT [0, 1] rfl (by decide +kernel) (fun u1 H locs hw1 hq9 hS => ?_)
      have hq1_0 : tab_ 4 28 [xl, 0, (-2147483648), (-2147483648)] [xh, 19, 2147483647, 2147483647] (u1.2.2 0) := hw1
      obtain ⟨hP, hD⟩ := pd9 [zO sA 6 [vI wi, vI ro, vR s2, vR s3, vI dr, vI dt, vR s6, vI pe, vR s8, vI gu, vI sh, vR s11, vI wo, vR s13, vI dn, vI mi, vI fl, vI tk, vI go], zI s8 (cy 0) 112 (u1.2.2 0)] hq9
      obtain ⟨z_4, hz_4⟩ : ∃ z : Int, z = q + 1 := ⟨_, rfl⟩
      refine lv_iinc (v := iI z_4) (lv' := [(3, vI z_4), (0, vR sA), (1, vI x), (2, vI mo)]) hx hb dX6_guessPerson_19 hlv (k := 0) rfl (by rw [hz_4]; exact (Int32.ofInt_add _ _).symm) (by decide) rfl (fun ls hlv => ?_)
      refine lv_goto (tgt := 2) hx hb dX6_guessPerson_22 (by decide) ?_
      exact ih2 z_4 (u1.2.2 0) H locs ls (by omega) (by omega) (by omega) hq1_0 (hP.sub [0, 1] rfl) (hD.sub [0, 1] (by decide) rfl) hS (lv_sub hlv [0, 1, 2, 3] rfl)
def vs_s_changeHeight : List Cond := .code yX6_changeHeight cX6_changeHeight 3 none :: (([.fieldLink RX6 9 "KerbSplash$Street" "height" "[I", .initialized RX11, .static yX11_held] : List Cond) ++ ((wsX60) ++ ((vs_s_held) ++ ([]))))
theorem gd_s_changeHeight : vs_s_changeHeight.all goodWord = true := gd_C (by decide +kernel) (gd_A (by decide +kernel) (gd_A (by decide +kernel) (gd_A gd_s_held rfl)))
set_option maxHeartbeats 4000000 in
set_option maxRecDepth 100000 in
theorem s_changeHeight (l : Launch) (hl : l.stackTraces = false) (D : va_G) (cy : Nat → ClassId) (sa : Nat → Nat) (sA s2 s3 s6 s8 s11 s13 : Nat) (wi ro dr dt pe gu sh wo dn mi fl tk go : Int) (hf : Nat → Int32) (n b : Int) (sz : Nat) (hr_wi : 0 ≤ wi ∧ wi ≤ 16) (hr_ro : 0 ≤ ro ∧ ro ≤ 6) (hr_dr : 0 ≤ dr ∧ dr ≤ 14) (hr_dt : 0 ≤ dt ∧ dt ≤ 6) (hr_pe : 0 ≤ pe ∧ pe ≤ 8) (hr_gu : 0 ≤ gu ∧ gu ≤ 20) (hr_sh : 0 ≤ sh ∧ sh ≤ 2) (hr_wo : 0 ≤ wo ∧ wo ≤ 8) (hr_dn : (-2147483648) ≤ dn ∧ dn ≤ 2147483647) (hr_mi : 0 ≤ mi ∧ mi ≤ 600) (hr_fl : (-2147483648) ≤ fl ∧ fl ≤ 2147483647) (hr_tk : (-2147483648) ≤ tk ∧ tk ≤ 2147483647) (hr_go : (-2147483648) ≤ go ∧ go ≤ 2147483647) (hr_n : 0 ≤ n ∧ n ≤ 95) (hr_b : (-99) ≤ b ∧ b ≤ 99) (hhf : inv_ 96 0 99 hf) : mV9 l yX6_changeHeight vs_s_changeHeight ({ frames := 1, cells := 0, slots := 0, locals := 23 }) D cy sa sz [vR sA, vI n, vI b] [zO sA 6 [vI wi, vI ro, vR s2, vR s3, vI dr, vI dt, vR s6, vI pe, vR s8, vI gu, vI sh, vR s11, vI wo, vR s13, vI dn, vI mi, vI fl, vI tk, vI go], zI s2 (cy 0) 96 hf] (fun u : SV => inv_ 96 0 99 (u.2.2 0)) (fun u : SV => [zO sA 6 [vI wi, vI ro, vR s2, vR s3, vI dr, vI dt, vR s6, vI pe, vR s8, vI gu, vI sh, vR s11, vI wo, vR s13, vI dn, vI mi, vI fl, vI tk, vI go], zI s2 (cy 0) 96 (u.2.2 0)]) 0 0 := by
  refine Met.ofW (cc := cX6_changeHeight) (maxL := 3) (ret := none) (by decide) rfl ?_
  intro p e s m args below meth c s₁ B hml hv
  obtain ⟨rfl, hsz, hP, hG, hD0, hT⟩ := hv
  have hx := B.exec
  have hb := B.bytes
  have hr := B.returns
  have hts := atoms_spec (ws := vs_s_changeHeight) B.pre
  have hown : s.vm.findClass RX6 = some m.cls := findClass_of_methodNamed B.named
  have hlocks := B.notSynchronized
  subst hsz
  have hD := hD0.self (sz := s.heap.size)
  generalize hAe : va_A [zO sA 6 [vI wi, vI ro, vR s2, vR s3, vI dr, vI dt, vR s6, vI pe, vR s8, vI gu, vI sh, vR s11, vI wo, vR s13, vI dn, vI mi, vI fl, vI tk, vI go], zI s2 (cy 0) 96 hf] s.heap.size = A at hD hT ⊢
  have hA : ∀ q : Nat, s.heap.size ≤ q → A q := fun q h => by rw [← hAe]; exact Or.inr h
  have hS : va_S A s.heap s.heap [] := va_S.rf
  have hl0 := lv_entry ([vR sA, vI n, vI b]) (n := 3) (Nat.le_of_ble_eq_true rfl)
  rw [lg_entry_eq]
  generalize (lg_sl ([vR sA, vI n, vI b]) ++ List.replicate (3 - (lg_sl ([vR sA, vI n, vI b])).length) Slot.unset).toArray = ls at hl0 ⊢
  have hlv : lv_has ls 3 [(0, vR sA), (1, vI n), (2, vI b)] := hl0
  have lf9 := hts (.fieldLink RX6 9 "KerbSplash$Street" "height" "[I") (List.mem_of_getElem? (i := 1) rfl)
  have hi6 : ∀ w ∈ wsX60, w ∈ vs_s_changeHeight := fun w h => List.mem_cons_of_mem _ (List.mem_append_right _ (List.mem_append_left _ h))
  have gg_1 : GoodIn vs_s_changeHeight (vs_s_held) := goodIn_sub (fun w h => List.mem_cons_of_mem _ (List.mem_append_right _ (List.mem_append_right _ (List.mem_append_left _ h)))) gd_s_held
  have ini_RX11 := hts (.initialized RX11) (List.mem_of_getElem? (i := 2) rfl)
  have st_X11_held := hts (.static yX11_held) (List.mem_of_getElem? (i := 3) rfl)
  refine lv_aload_n hx hb dX6_changeHeight_0 rfl (lv_at hlv 0 rfl) ?_
  refine va_get (D := D) (ci := 6) (v := vR s2) (C := RX6) (T := TX6) (N := 19) hx hb hts hi6 hown hG.1 hP 0 rfl rfl 2 (by decide) lf9 (fun _ h9 => h9) rfl dX6_changeHeight_1 ?_
  refine lv_iload_n hx hb dX6_changeHeight_4 rfl (lv_at hlv 1 rfl) ?_
  refine lv_aload_n hx hb dX6_changeHeight_5 rfl (lv_at hlv 0 rfl) ?_
  refine va_get (D := D) (ci := 6) (v := vR s2) (C := RX6) (T := TX6) (N := 19) hx hb hts hi6 hown hG.1 hP 0 rfl rfl 2 (by decide) lf9 (fun _ h9 => h9) rfl dX6_changeHeight_6 ?_
  refine lv_iload_n hx hb dX6_changeHeight_9 rfl (lv_at hlv 1 rfl) ?_
  refine va_iald hx hb hG.1 hP 1 0 rfl rfl (iI_in (by omega) (by decide)) dX6_changeHeight_10 ?_
  obtain ⟨z_1, ez_1, hz_1, lz_1⟩ := inv_rd hhf (e := n) (by omega) (by decide)
  refine lt_i (y := iI z_1) ez_1 ?_
  refine lv_iload_n hx hb dX6_changeHeight_11 rfl (lv_at hlv 2 rfl) ?_
  refine lv_iadd hx hb dX6_changeHeight_12 ?_
  refine lt_e (e0 := z_1 + b) (Int32.ofInt_add _ _).symm (fun z_2 hz_2 => ?_)
  refine lv_i2l (v := jJ z_2) hx hb dX6_changeHeight_13 (jJ_i (by omega)) ?_
  refine lv_iconst (v := iI 0) hx hb dX6_changeHeight_14 (by decide) ?_
  refine lv_bipush (v := iI 99) hx hb dX6_changeHeight_15 (by decide) ?_
  refine cjr_i [true, true] (fun pre9 => (va_runSN (host := "KerbSplash") (As := [vJ z_2, vI 0, vI 99]) (rest := [vI n, vR s2]) ⟨hx, hb, hml, hown, hts⟩ (s_held l hl D cy sa z_2 0 99 s.heap.size (by omega) (by show ((-2147483648) : Int) ≤ 0 ∧ (0 : Int) ≤ 2147483647; decide) (by show ((-2147483648) : Int) ≤ 99 ∧ (99 : Int) ≤ 2147483647; decide)) ⟨va_cnB 3 hts gg_1 rfl rfl rfl (nM_Street_100 hG.2.1) ini_RX11 (by decide +kernel) ⟨Nat.le_of_ble_eq_true rfl, Nat.le_of_ble_eq_true rfl⟩, st_X11_held, trivial⟩ ⟨pcW.blind, pre9⟩ rfl rfl hlv.1 rfl (lv_room (Nat.le_of_ble_eq_true rfl)) dX6_changeHeight_17 ⟨Nat.le_of_ble_eq_true rfl, Nat.le_of_ble_eq_true rfl⟩)) hP hD hS hA hG hT [] rfl (by decide +kernel) (fun r1 u1 H locs hw1 hq9 hS => ?_)
  obtain ⟨rfl, hq1_1, hq1_2⟩ := hw1
  obtain ⟨hP, hD⟩ := pd9 [zO sA 6 [vI wi, vI ro, vR s2, vR s3, vI dr, vI dt, vR s6, vI pe, vR s8, vI gu, vI sh, vR s11, vI wo, vR s13, vI dn, vI mi, vI fl, vI tk, vI go], zI s2 (cy 0) 96 hf] hq9
  refine va_iast hx hb hG.1 hP hD hS 1 0 rfl rfl (iI_in (by omega) (by decide)) dX6_changeHeight_20 (fun H locs hP hD hS => ?_)
  obtain ⟨f_3, hf_3, hP, hD⟩ := pe9i (fun f_3 => inv_ 96 0 99 f_3) (fun f_3 => [zO sA 6 [vI wi, vI ro, vR s2, vR s3, vI dr, vI dt, vR s6, vI pe, vR s8, vI gu, vI sh, vR s11, vI wo, vR s13, vI dn, vI mi, vI fl, vI tk, vI go], zI s2 (cy 0) 96 f_3]) (inv_wr hhf (by omega)) hP hD
  refine W.widen (k := 0) (n := 0) (Nat.le_of_ble_eq_true rfl) (Nat.le_of_ble_eq_true rfl) ?_
  exact W.vret hx hb hr (fun t ht hW => ⟨⟨((fun k => ([] : List Nat).getD k 0), (fun k => ([] : List Int).getD k 0), (fun k => ([f_3] : List (Nat → Int32)).getD k (fun _ => 0))), rfl, hf_3, at9 ht hP hD [0, 1] (by decide +kernel) rfl⟩, hS.F ht⟩) hS.2.2 dX6_changeHeight_21
def vs_s_doWork : List Cond := .code yX6_doWork cX6_doWork 6 (some .boolean) :: (([.fieldLink RX6 59 "KerbSplash$Street" "done" "I", .fieldLink RX6 25 "KerbSplash$Street" "work" "[I", .fieldLink RX6 16 "KerbSplash$Street" "drain" "[I"] : List Cond) ++ ((wsX60) ++ ((wsV RX6 88 RX6 yX6_index vs_s_index) ++ ((wsV RX6 92 RX6 yX6_changeHeight vs_s_changeHeight) ++ ((wsV RX6 96 RX6 yX6_addDrain vs_s_addDrain) ++ ([]))))))
theorem gd_s_doWork : vs_s_doWork.all goodWord = true := gd_C (by decide +kernel) (gd_A (by decide +kernel) (gd_A (by decide +kernel) (gd_A (gd_V gd_s_index (by decide +kernel)) (gd_A (gd_V gd_s_changeHeight (by decide +kernel)) (gd_A (gd_V gd_s_addDrain (by decide +kernel)) rfl)))))
set_option maxHeartbeats 4000000 in
set_option maxRecDepth 100000 in
theorem s_doWork (l : Launch) (hl : l.stackTraces = false) (D : va_G) (cy : Nat → ClassId) (sa : Nat → Nat) (sA s2 s3 s6 s8 s11 s13 : Nat) (wi ro dr dt pe gu sh wo dn mi fl tk go : Int) (hf df kf : Nat → Int32) (k : Int) (sz : Nat) (hr_wi : 0 ≤ wi ∧ wi ≤ 16) (hr_ro : 0 ≤ ro ∧ ro ≤ 6) (hr_dr : 0 ≤ dr ∧ dr ≤ 14) (hr_dt : 0 ≤ dt ∧ dt ≤ 6) (hr_pe : 0 ≤ pe ∧ pe ≤ 8) (hr_gu : 0 ≤ gu ∧ gu ≤ 20) (hr_sh : 0 ≤ sh ∧ sh ≤ 2) (hr_wo : 0 ≤ wo ∧ wo ≤ 8) (hr_dn : (-2147483648) ≤ dn ∧ dn ≤ 2147483647) (hr_mi : 0 ≤ mi ∧ mi ≤ 600) (hr_fl : (-2147483648) ≤ fl ∧ fl ≤ 2147483647) (hr_tk : (-2147483648) ≤ tk ∧ tk ≤ 2147483647) (hr_go : (-2147483648) ≤ go ∧ go ≤ 2147483647) (hr_k : 0 ≤ k ∧ k ≤ 7) (hhf : inv_ 96 0 99 hf) (hdf : tab_ 4 14 [0, 0, 0, 0] [15, 5, 99, 16] df) (hkf : tw_ kf) : mI9 l yX6_doWork vs_s_doWork ({ frames := 2, cells := 0, slots := 0, locals := 45 }) D cy sa sz [vR sA, vI k] [zO sA 6 [vI wi, vI ro, vR s2, vR s3, vI dr, vI dt, vR s6, vI pe, vR s8, vI gu, vI sh, vR s11, vI wo, vR s13, vI dn, vI mi, vI fl, vI tk, vI go], zI s2 (cy 0) 96 hf, zI s6 (cy 0) 56 df, zI s13 (cy 0) 40 kf] (fun (r : Int32) (u : SV) => r = iI (u.2.1 2) ∧ (0 ≤ u.2.1 0 ∧ u.2.1 0 ≤ 14) ∧ ((-2147483648) ≤ u.2.1 1 ∧ u.2.1 1 ≤ 2147483647) ∧ (0 ≤ u.2.1 2 ∧ u.2.1 2 ≤ 1) ∧ inv_ 96 0 99 (u.2.2 0) ∧ tab_ 4 14 [0, 0, 0, 0] [15, 5, 99, 16] (u.2.2 1) ∧ tw_ kf) (fun u : SV => [zO sA 6 [vI wi, vI ro, vR s2, vR s3, vI (u.2.1 0), vI dt, vR s6, vI pe, vR s8, vI gu, vI sh, vR s11, vI wo, vR s13, vI (u.2.1 1), vI mi, vI fl, vI tk, vI go], zI s2 (cy 0) 96 (u.2.2 0), zI s6 (cy 0) 56 (u.2.2 1), zI s13 (cy 0) 40 kf]) 0 0 := by
  refine Met.ofW (cc := cX6_doWork) (maxL := 6) (ret := (some .boolean)) (by decide) rfl ?_
  intro p e s m args below meth c s₁ B hml hv
  obtain ⟨rfl, hsz, hP, hG, hD0, hT⟩ := hv
  have hx := B.exec
  have hb := B.bytes
  have hr := B.returns
  have hts := atoms_spec (ws := vs_s_doWork) B.pre
  have hown : s.vm.findClass RX6 = some m.cls := findClass_of_methodNamed B.named
  have hlocks := B.notSynchronized
  subst hsz
  have hD := hD0.self (sz := s.heap.size)
  generalize hAe : va_A [zO sA 6 [vI wi, vI ro, vR s2, vR s3, vI dr, vI dt, vR s6, vI pe, vR s8, vI gu, vI sh, vR s11, vI wo, vR s13, vI dn, vI mi, vI fl, vI tk, vI go], zI s2 (cy 0) 96 hf, zI s6 (cy 0) 56 df, zI s13 (cy 0) 40 kf] s.heap.size = A at hD hT ⊢
  have hA : ∀ q : Nat, s.heap.size ≤ q → A q := fun q h => by rw [← hAe]; exact Or.inr h
  have hS : va_S A s.heap s.heap [] := va_S.rf
  have hl0 := lv_entry ([vR sA, vI k]) (n := 6) (Nat.le_of_ble_eq_true rfl)
  rw [lg_entry_eq]
  generalize (lg_sl ([vR sA, vI k]) ++ List.replicate (6 - (lg_sl ([vR sA, vI k])).length) Slot.unset).toArray = ls at hl0 ⊢
  have hlv : lv_has ls 6 [(0, vR sA), (1, vI k)] := hl0
  have lf59 := hts (.fieldLink RX6 59 "KerbSplash$Street" "done" "I") (List.mem_of_getElem? (i := 1) rfl)
  have hi6 : ∀ w ∈ wsX60, w ∈ vs_s_doWork := fun w h => List.mem_cons_of_mem _ (List.mem_append_right _ (List.mem_append_left _ h))
  have lf25 := hts (.fieldLink RX6 25 "KerbSplash$Street" "work" "[I") (List.mem_of_getElem? (i := 2) rfl)
  have lf16 := hts (.fieldLink RX6 16 "KerbSplash$Street" "drain" "[I") (List.mem_of_getElem? (i := 3) rfl)
  have gg_1 : GoodIn vs_s_doWork (wsV RX6 88 RX6 yX6_index vs_s_index) := goodIn_sub (fun w h => List.mem_cons_of_mem _ (List.mem_append_right _ (List.mem_append_right _ (List.mem_append_left _ h)))) (gd_V gd_s_index (by decide +kernel))
  have gg_2 : GoodIn vs_s_doWork (wsV RX6 92 RX6 yX6_changeHeight vs_s_changeHeight) := goodIn_sub (fun w h => List.mem_cons_of_mem _ (List.mem_append_right _ (List.mem_append_right _ (List.mem_append_right _ (List.mem_append_left _ h))))) (gd_V gd_s_changeHeight (by decide +kernel))
  have gg_3 : GoodIn vs_s_doWork (wsV RX6 96 RX6 yX6_addDrain vs_s_addDrain) := goodIn_sub (fun w h => List.mem_cons_of_mem _ (List.mem_append_right _ (List.mem_append_right _ (List.mem_append_right _ (List.mem_append_right _ (List.mem_append_left _ h)))))) (gd_V gd_s_addDrain (by decide +kernel))
  refine lv_aload_n hx hb dX6_doWork_0 rfl (lv_at hlv 0 rfl) ?_
  refine va_get (D := D) (ci := 6) (v := vI dn) (C := RX6) (T := TX6) (N := 19) hx hb hts hi6 hown hG.1 hP 0 rfl rfl 14 (by decide) lf59 (fun _ h9 => h9) rfl dX6_doWork_1 ?_
  refine lv_iload_n hx hb dX6_doWork_4 rfl (lv_at hlv 1 rfl) ?_
  refine lv_ishr hx hb dX6_doWork_5 ?_
  refine lt_z (fun z_1 ez_1 lz_1 hz_1 => ?_)
  refine lv_iconst (v := iI 1) hx hb dX6_doWork_6 (by decide) ?_
  refine lv_iand hx hb dX6_doWork_7 ?_
  refine lt_aE 1 (by decide) (by decide) (hi := 1) (by decide) (fun z_2 ez_2 lz_2 hz_2 => ?_)
  refine iz_eq (tgt := 13) hx hb dX6_doWork_8 (by decide) (by omega) (fun c_3 => ?_) (fun c_3 => ?_)
  · refine lv_aload_n hx hb dX6_doWork_13 rfl (lv_at hlv 0 rfl) ?_
    refine lv_dup hx hb dX6_doWork_14 rfl ?_
    refine va_get (D := D) (ci := 6) (v := vI dn) (C := RX6) (T := TX6) (N := 19) hx hb hts hi6 hown hG.1 hP 0 rfl rfl 14 (by decide) lf59 (fun _ h9 => h9) rfl dX6_doWork_15 ?_
    refine lv_iconst (v := iI 1) hx hb dX6_doWork_18 (by decide) ?_
    refine lv_iload_n hx hb dX6_doWork_19 rfl (lv_at hlv 1 rfl) ?_
    refine lv_ishl hx hb dX6_doWork_20 ?_
    refine lt_z (fun z_4 ez_4 lz_4 hz_4 => ?_)
    refine lv_ior hx hb dX6_doWork_21 ?_
    refine lt_z (fun z_5 ez_5 lz_5 hz_5 => ?_)
    refine va_put (D := D) (ci := 6) (v := vI z_5) (ty := .int) (C := RX6) (T := TX6) (N := 19) hx hb hts hi6 tyX6 tyX6_ok nmX6 hown hG.1 hP hD hS 0 rfl rfl 14 (by decide) lf59 (fun _ h9 => h9) rfl (by decide +kernel) rfl rfl (Nat.le_of_ble_eq_true rfl) dX6_doWork_22 (fun H locs hP hD hS => ?_)
    obtain ⟨hP, hD⟩ := pw9 [zO sA 6 [vI wi, vI ro, vR s2, vR s3, vI dr, vI dt, vR s6, vI pe, vR s8, vI gu, vI sh, vR s11, vI wo, vR s13, vI z_5, vI mi, vI fl, vI tk, vI go], zI s2 (cy 0) 96 hf, zI s6 (cy 0) 56 df, zI s13 (cy 0) 40 kf] hP hD
    refine lv_iconst (v := iI 5) hx hb dX6_doWork_25 (by decide) ?_
    refine lv_iload_n hx hb dX6_doWork_26 rfl (lv_at hlv 1 rfl) ?_
    refine lv_imul hx hb dX6_doWork_27 ?_
    refine lt_e (e0 := 5 * k) (Int32.ofInt_mul _ _).symm (fun z_6 hz_6 => ?_)
    refine lv_istore_n (lv' := [(2, vI z_6), (0, vR sA), (1, vI k)]) hx hb dX6_doWork_28 rfl hlv (by decide) rfl (fun ls hlv => ?_)
    refine lv_aload_n hx hb dX6_doWork_29 rfl (lv_at hlv 1 rfl) ?_
    refine va_get (D := D) (ci := 6) (v := vR s13) (C := RX6) (T := TX6) (N := 19) hx hb hts hi6 hown hG.1 hP 0 rfl rfl 13 (by decide) lf25 (fun _ h9 => h9) rfl dX6_doWork_30 ?_
    refine lv_iload_n hx hb dX6_doWork_33 rfl (lv_at hlv 0 rfl) ?_
    refine lv_iconst (v := iI 2) hx hb dX6_doWork_34 (by decide) ?_
    refine lv_iadd hx hb dX6_doWork_35 ?_
    refine lt_e (e0 := z_6 + 2) (Int32.ofInt_add _ _).symm (fun z_7 hz_7 => ?_)
    refine va_iald hx hb hG.1 hP 3 0 rfl rfl (iI_in (by omega) (by decide)) dX6_doWork_36 ?_
    obtain ⟨z_8, ez_8, hz_8, lz_8⟩ := tab_rd hkf.1 (e := z_7) (k := k) (c := 2) (a := 0) (b := 15) (by omega) (by omega) (by decide) (by omega) rfl rfl
    refine lt_i (y := iI z_8) ez_8 ?_
    refine lv_istore_n (lv' := [(3, vI z_8), (2, vI z_6), (0, vR sA), (1, vI k)]) hx hb dX6_doWork_37 rfl hlv (by decide) rfl (fun ls hlv => ?_)
    refine lv_aload_n hx hb dX6_doWork_38 rfl (lv_at hlv 2 rfl) ?_
    refine va_get (D := D) (ci := 6) (v := vR s13) (C := RX6) (T := TX6) (N := 19) hx hb hts hi6 hown hG.1 hP 0 rfl rfl 13 (by decide) lf25 (fun _ h9 => h9) rfl dX6_doWork_39 ?_
    refine lv_iload_n hx hb dX6_doWork_42 rfl (lv_at hlv 1 rfl) ?_
    refine lv_iconst (v := iI 3) hx hb dX6_doWork_43 (by decide) ?_
    refine lv_iadd hx hb dX6_doWork_44 ?_
    refine lt_e (e0 := z_6 + 3) (Int32.ofInt_add _ _).symm (fun z_9 hz_9 => ?_)
    refine va_iald hx hb hG.1 hP 3 0 rfl rfl (iI_in (by omega) (by decide)) dX6_doWork_45 ?_
    obtain ⟨z_10, ez_10, hz_10, lz_10⟩ := tab_rd hkf.1 (e := z_9) (k := k) (c := 3) (a := 0) (b := 5) (by omega) (by omega) (by decide) (by omega) rfl rfl
    refine lt_i (y := iI z_10) ez_10 ?_
    refine lv_istore (lv' := [(4, vI z_10), (3, vI z_8), (2, vI z_6), (0, vR sA), (1, vI k)]) hx hb dX6_doWork_46 hlv (by decide) rfl (fun ls hlv => ?_)
    refine lv_aload_n hx hb dX6_doWork_48 rfl (lv_at hlv 3 rfl) ?_
    refine va_get (D := D) (ci := 6) (v := vR s13) (C := RX6) (T := TX6) (N := 19) hx hb hts hi6 hown hG.1 hP 0 rfl rfl 13 (by decide) lf25 (fun _ h9 => h9) rfl dX6_doWork_49 ?_
    refine lv_iload_n hx hb dX6_doWork_52 rfl (lv_at hlv 2 rfl) ?_
    refine lv_iconst (v := iI 4) hx hb dX6_doWork_53 (by decide) ?_
    refine lv_iadd hx hb dX6_doWork_54 ?_
    refine lt_e (e0 := z_6 + 4) (Int32.ofInt_add _ _).symm (fun z_11 hz_11 => ?_)
    refine va_iald hx hb hG.1 hP 3 0 rfl rfl (iI_in (by omega) (by decide)) dX6_doWork_55 ?_
    obtain ⟨z_12, ez_12, hz_12, lz_12⟩ := tab_rd hkf.1 (e := z_11) (k := k) (c := 4) (a := 0) (b := 99) (by omega) (by omega) (by decide) (by omega) rfl rfl
    refine lt_i (y := iI z_12) ez_12 ?_
    refine lv_istore (lv' := [(5, vI z_12), (4, vI z_10), (3, vI z_8), (2, vI z_6), (0, vR sA), (1, vI k)]) hx hb dX6_doWork_56 hlv (by decide) rfl (fun ls hlv => ?_)
    refine lv_aload_n hx hb dX6_doWork_58 rfl (lv_at hlv 4 rfl) ?_
    refine va_get (D := D) (ci := 6) (v := vR s13) (C := RX6) (T := TX6) (N := 19) hx hb hts hi6 hown hG.1 hP 0 rfl rfl 13 (by decide) lf25 (fun _ h9 => h9) rfl dX6_doWork_59 ?_
    refine lv_iload_n hx hb dX6_doWork_62 rfl (lv_at hlv 3 rfl) ?_
    refine va_iald hx hb hG.1 hP 3 0 rfl rfl (iI_in (by omega) (by decide)) dX6_doWork_63 ?_
    obtain ⟨z_13, ez_13, hz_13, lz_13⟩ := tab_rd hkf.1 (e := z_6) (k := k) (c := 0) (a := 0) (b := 3) (by omega) (by omega) (by decide) (by omega) rfl rfl
    refine lt_i (y := iI z_13) ez_13 ?_
    by_cases k_14 : z_13 = 0
    · refine lt_i (y := iI 0) (by rw [k_14]) ?_
      refine lv_tableIn (tgt := 92) hx hb dX6_doWork_64 (by decide) (by decide) rfl (by decide) ?_
      have hclr := tw_x hkf (k := k) (e0 := z_6) (e2 := z_7) (by omega) (by omega) (by omega) ez_13 ez_8 (by omega) (by omega)
      refine lv_aload_n hx hb dX6_doWork_92 rfl (lv_at hlv 4 rfl) ?_
      refine va_get (D := D) (ci := 6) (v := vR s6) (C := RX6) (T := TX6) (N := 19) hx hb hts hi6 hown hG.1 hP 0 rfl rfl 6 (by decide) lf16 (fun _ h9 => h9) rfl dX6_doWork_93 ?_
      refine lv_iconst (v := iI 4) hx hb dX6_doWork_96 (by decide) ?_
      refine lv_iload_n hx hb dX6_doWork_97 rfl (lv_at hlv 2 rfl) ?_
      refine lv_imul hx hb dX6_doWork_98 ?_
      refine lt_e (e0 := 4 * z_8) (Int32.ofInt_mul _ _).symm (fun z_15 hz_15 => ?_)
      refine lv_iconst (v := iI 3) hx hb dX6_doWork_99 (by decide) ?_
      refine lv_iadd hx hb dX6_doWork_100 ?_
      refine lt_e (e0 := z_15 + 3) (Int32.ofInt_add _ _).symm (fun z_16 hz_16 => ?_)
      refine lv_iconst (v := iI 0) hx hb dX6_doWork_101 (by decide) ?_
      refine va_iast hx hb hG.1 hP hD hS 2 0 rfl rfl (iI_in (by omega) (by decide)) dX6_doWork_102 (fun H locs hP hD hS => ?_)
      obtain ⟨f_17, hf_17, hP, hD⟩ := pe9i (fun f_17 => tab_ 4 14 [0, 0, 0, 0] [15, 5, 99, 16] f_17) (fun f_17 => [zO sA 6 [vI wi, vI ro, vR s2, vR s3, vI dr, vI dt, vR s6, vI pe, vR s8, vI gu, vI sh, vR s11, vI wo, vR s13, vI z_5, vI mi, vI fl, vI tk, vI go], zI s2 (cy 0) 96 hf, zI s6 (cy 0) 56 f_17, zI s13 (cy 0) 40 kf]) (tab_wr hdf (e := z_16) (k := z_8) (c := 3) (a := 0) (b := 16) (by omega) (by omega) (by decide) (by omega) rfl rfl (by omega)) hP hD
      refine lv_goto (tgt := 149) hx hb dX6_doWork_103 (by decide) ?_
      refine lv_iconst (v := iI 1) hx hb dX6_doWork_149 (by decide) ?_
      refine W.widen (k := 0) (n := 0) (Nat.le_of_ble_eq_true rfl) (Nat.le_of_ble_eq_true rfl) ?_
      exact W.zret (v := iI 1) hx hb hr (by first | rfl | decide) (fun t ht hW => ⟨⟨iI 1, ((fun k => ([] : List Nat).getD k 0), (fun k => ([dr, z_5, 1] : List Int).getD k 0), (fun k => ([hf, f_17] : List (Nat → Int32)).getD k (fun _ => 0))), rfl, ⟨rfl, (by show (0 ≤ dr ∧ dr ≤ 14); first | exact hr_dr | omega), (by show ((-2147483648) ≤ z_5 ∧ z_5 ≤ 2147483647); omega), (by show (0 ≤ 1 ∧ 1 ≤ 1); show (0 : Int) ≤ 1 ∧ (1 : Int) ≤ 1; decide), hhf, hf_17, hkf⟩, at9 ht hP hD [0, 1, 2, 3] (by decide +kernel) rfl⟩, hS.F ht⟩) hS.2.2 dX6_doWork_150
    by_cases k_18 : z_13 = 1
    · refine lt_i (y := iI 1) (by rw [k_18]) ?_
      refine lv_tableIn (tgt := 106) hx hb dX6_doWork_64 (by decide) (by decide) rfl (by decide) ?_
      refine lv_aload_n hx hb dX6_doWork_106 rfl (lv_at hlv 4 rfl) ?_
      refine lv_aload_n hx hb dX6_doWork_107 rfl (lv_at hlv 4 rfl) ?_
      refine lv_iload_n hx hb dX6_doWork_108 rfl (lv_at hlv 2 rfl) ?_
      refine lv_iload hx hb dX6_doWork_109 (lv_at hlv 1 rfl) ?_
      refine cjr_i [false, true, true, true] (fun pre9 => (va_runV (As := [vI z_8, vI z_10]) (rest := [vR sA]) ⟨hx, hb, hml, hown, hts⟩ (s_index l hl D cy sa sA s2 s3 s6 s8 s11 s13 wi ro dr dt pe gu sh wo z_5 mi fl tk go z_8 z_10 H.size (by first | exact hr_wi | omega) (by first | exact hr_ro | omega) (by first | exact hr_dr | omega) (by first | exact hr_dt | omega) (by first | exact hr_pe | omega) (by first | exact hr_gu | omega) (by first | exact hr_sh | omega) (by first | exact hr_wo | omega) (by omega) (by first | exact hr_mi | omega) (by first | exact hr_fl | omega) (by first | exact hr_tk | omega) (by first | exact hr_go | omega) (by first | exact lz_8 | omega) (by first | exact lz_10 | omega)) (cwV 2 hts gg_1 rfl rfl rfl (by decide +kernel) ⟨Nat.le_of_ble_eq_true rfl, Nat.le_of_ble_eq_true rfl⟩) ⟨pcW.blind, (va_recv hG.1 hP (ci := 6) (q0 := 0) rfl rfl), pre9⟩ rfl rfl hlv.1 rfl (lv_room (Nat.le_of_ble_eq_true rfl)) dX6_doWork_111 ⟨Nat.le_of_ble_eq_true rfl, Nat.le_of_ble_eq_true rfl⟩)) hP hD hS hA hG hT [0] rfl (by decide +kernel) (fun r1 u1 H locs hw1 hq9 hS => ?_)
      obtain ⟨rfl, hq1_1⟩ := hw1
      obtain ⟨hP, hD⟩ := pd9 [zI s2 (cy 0) 96 hf, zI s6 (cy 0) 56 df, zI s13 (cy 0) 40 kf, zO sA 6 [vI wi, vI ro, vR s2, vR s3, vI dr, vI dt, vR s6, vI pe, vR s8, vI gu, vI sh, vR s11, vI wo, vR s13, vI z_5, vI mi, vI fl, vI tk, vI go]] hq9
      refine lv_iload hx hb dX6_doWork_114 (lv_at hlv 0 rfl) ?_
      refine cjr_v [false, true, true, false] (fun pre9 => (va_runV (As := [vI (u1.2.1 0), vI z_12]) (rest := []) ⟨hx, hb, hml, hown, hts⟩ (s_changeHeight l hl D cy sa sA s2 s3 s6 s8 s11 s13 wi ro dr dt pe gu sh wo z_5 mi fl tk go hf (u1.2.1 0) z_12 H.size (by first | exact hr_wi | omega) (by first | exact hr_ro | omega) (by first | exact hr_dr | omega) (by first | exact hr_dt | omega) (by first | exact hr_pe | omega) (by first | exact hr_gu | omega) (by first | exact hr_sh | omega) (by first | exact hr_wo | omega) (by omega) (by first | exact hr_mi | omega) (by first | exact hr_fl | omega) (by first | exact hr_tk | omega) (by first | exact hr_go | omega) (by first | exact hq1_1 | omega) (by first | exact rgw lz_12 (by decide) (by decide) | omega) hhf) (cwV 2 hts gg_2 rfl rfl rfl (by decide +kernel) ⟨Nat.le_of_ble_eq_true rfl, Nat.le_of_ble_eq_true rfl⟩) ⟨pcW.blind, (va_recv hG.1 hP (ci := 6) (q0 := 3) rfl rfl), pre9⟩ rfl rfl hlv.1 rfl (lv_room (Nat.le_of_ble_eq_true rfl)) dX6_doWork_116 ⟨Nat.le_of_ble_eq_true rfl, Nat.le_of_ble_eq_true rfl⟩)) hP hD hS hA hG hT [3, 0] rfl (by decide +kernel) (fun u2 H locs hw2 hq9 hS => ?_)
      have hq2_0 : inv_ 96 0 99 (u2.2.2 0) := hw2
      obtain ⟨hP, hD⟩ := pd9 [zI s6 (cy 0) 56 df, zI s13 (cy 0) 40 kf, zO sA 6 [vI wi, vI ro, vR s2, vR s3, vI dr, vI dt, vR s6, vI pe, vR s8, vI gu, vI sh, vR s11, vI wo, vR s13, vI z_5, vI mi, vI fl, vI tk, vI go], zI s2 (cy 0) 96 (u2.2.2 0)] hq9
      refine lv_goto (tgt := 149) hx hb dX6_doWork_119 (by decide) ?_
      refine lv_iconst (v := iI 1) hx hb dX6_doWork_149 (by decide) ?_
      refine W.widen (k := 0) (n := 0) (Nat.le_of_ble_eq_true rfl) (Nat.le_of_ble_eq_true rfl) ?_
      exact W.zret (v := iI 1) hx hb hr (by first | rfl | decide) (fun t ht hW => ⟨⟨iI 1, ((fun k => ([] : List Nat).getD k 0), (fun k => ([dr, z_5, 1] : List Int).getD k 0), (fun k => ([(u2.2.2 0), df] : List (Nat → Int32)).getD k (fun _ => 0))), rfl, ⟨rfl, (by show (0 ≤ dr ∧ dr ≤ 14); first | exact hr_dr | omega), (by show ((-2147483648) ≤ z_5 ∧ z_5 ≤ 2147483647); omega), (by show (0 ≤ 1 ∧ 1 ≤ 1); show (0 : Int) ≤ 1 ∧ (1 : Int) ≤ 1; decide), hq2_0, hdf, hkf⟩, at9 ht hP hD [2, 3, 0, 1] (by decide +kernel) rfl⟩, hS.F ht⟩) hS.2.2 dX6_doWork_150
    by_cases k_19 : z_13 = 2
    · refine lt_i (y := iI 2) (by rw [k_19]) ?_
      refine lv_tableIn (tgt := 122) hx hb dX6_doWork_64 (by decide) (by decide) rfl (by decide) ?_
      refine lv_aload_n hx hb dX6_doWork_122 rfl (lv_at hlv 4 rfl) ?_
      refine lv_aload_n hx hb dX6_doWork_123 rfl (lv_at hlv 4 rfl) ?_
      refine lv_iload_n hx hb dX6_doWork_124 rfl (lv_at hlv 2 rfl) ?_
      refine lv_iload hx hb dX6_doWork_125 (lv_at hlv 1 rfl) ?_
      refine cjr_i [false, true, true, true] (fun pre9 => (va_runV (As := [vI z_8, vI z_10]) (rest := [vR sA]) ⟨hx, hb, hml, hown, hts⟩ (s_index l hl D cy sa sA s2 s3 s6 s8 s11 s13 wi ro dr dt pe gu sh wo z_5 mi fl tk go z_8 z_10 H.size (by first | exact hr_wi | omega) (by first | exact hr_ro | omega) (by first | exact hr_dr | omega) (by first | exact hr_dt | omega) (by first | exact hr_pe | omega) (by first | exact hr_gu | omega) (by first | exact hr_sh | omega) (by first | exact hr_wo | omega) (by omega) (by first | exact hr_mi | omega) (by first | exact hr_fl | omega) (by first | exact hr_tk | omega) (by first | exact hr_go | omega) (by first | exact lz_8 | omega) (by first | exact lz_10 | omega)) (cwV 2 hts gg_1 rfl rfl rfl (by decide +kernel) ⟨Nat.le_of_ble_eq_true rfl, Nat.le_of_ble_eq_true rfl⟩) ⟨pcW.blind, (va_recv hG.1 hP (ci := 6) (q0 := 0) rfl rfl), pre9⟩ rfl rfl hlv.1 rfl (lv_room (Nat.le_of_ble_eq_true rfl)) dX6_doWork_127 ⟨Nat.le_of_ble_eq_true rfl, Nat.le_of_ble_eq_true rfl⟩)) hP hD hS hA hG hT [0] rfl (by decide +kernel) (fun r3 u3 H locs hw3 hq9 hS => ?_)
      obtain ⟨rfl, hq3_1⟩ := hw3
      obtain ⟨hP, hD⟩ := pd9 [zI s2 (cy 0) 96 hf, zI s6 (cy 0) 56 df, zI s13 (cy 0) 40 kf, zO sA 6 [vI wi, vI ro, vR s2, vR s3, vI dr, vI dt, vR s6, vI pe, vR s8, vI gu, vI sh, vR s11, vI wo, vR s13, vI z_5, vI mi, vI fl, vI tk, vI go]] hq9
      refine lv_iload hx hb dX6_doWork_130 (lv_at hlv 0 rfl) ?_
      refine lv_ineg hx hb dX6_doWork_132 ?_
      refine lt_e (e0 := -z_12) (ng_eq _) (fun z_20 hz_20 => ?_)
      refine cjr_v [false, true, true, false] (fun pre9 => (va_runV (As := [vI (u3.2.1 0), vI z_20]) (rest := []) ⟨hx, hb, hml, hown, hts⟩ (s_changeHeight l hl D cy sa sA s2 s3 s6 s8 s11 s13 wi ro dr dt pe gu sh wo z_5 mi fl tk go hf (u3.2.1 0) z_20 H.size (by first | exact hr_wi | omega) (by first | exact hr_ro | omega) (by first | exact hr_dr | omega) (by first | exact hr_dt | omega) (by first | exact hr_pe | omega) (by first | exact hr_gu | omega) (by first | exact hr_sh | omega) (by first | exact hr_wo | omega) (by omega) (by first | exact hr_mi | omega) (by first | exact hr_fl | omega) (by first | exact hr_tk | omega) (by first | exact hr_go | omega) (by first | exact hq3_1 | omega) (by omega) hhf) (cwV 2 hts gg_2 rfl rfl rfl (by decide +kernel) ⟨Nat.le_of_ble_eq_true rfl, Nat.le_of_ble_eq_true rfl⟩) ⟨pcW.blind, (va_recv hG.1 hP (ci := 6) (q0 := 3) rfl rfl), pre9⟩ rfl rfl hlv.1 rfl (lv_room (Nat.le_of_ble_eq_true rfl)) dX6_doWork_133 ⟨Nat.le_of_ble_eq_true rfl, Nat.le_of_ble_eq_true rfl⟩)) hP hD hS hA hG hT [3, 0] rfl (by decide +kernel) (fun u4 H locs hw4 hq9 hS => ?_)
      have hq4_0 : inv_ 96 0 99 (u4.2.2 0) := hw4
      obtain ⟨hP, hD⟩ := pd9 [zI s6 (cy 0) 56 df, zI s13 (cy 0) 40 kf, zO sA 6 [vI wi, vI ro, vR s2, vR s3, vI dr, vI dt, vR s6, vI pe, vR s8, vI gu, vI sh, vR s11, vI wo, vR s13, vI z_5, vI mi, vI fl, vI tk, vI go], zI s2 (cy 0) 96 (u4.2.2 0)] hq9
      refine lv_goto (tgt := 149) hx hb dX6_doWork_136 (by decide) ?_
      refine lv_iconst (v := iI 1) hx hb dX6_doWork_149 (by decide) ?_
      refine W.widen (k := 0) (n := 0) (Nat.le_of_ble_eq_true rfl) (Nat.le_of_ble_eq_true rfl) ?_
      exact W.zret (v := iI 1) hx hb hr (by first | rfl | decide) (fun t ht hW => ⟨⟨iI 1, ((fun k => ([] : List Nat).getD k 0), (fun k => ([dr, z_5, 1] : List Int).getD k 0), (fun k => ([(u4.2.2 0), df] : List (Nat → Int32)).getD k (fun _ => 0))), rfl, ⟨rfl, (by show (0 ≤ dr ∧ dr ≤ 14); first | exact hr_dr | omega), (by show ((-2147483648) ≤ z_5 ∧ z_5 ≤ 2147483647); omega), (by show (0 ≤ 1 ∧ 1 ≤ 1); show (0 : Int) ≤ 1 ∧ (1 : Int) ≤ 1; decide), hq4_0, hdf, hkf⟩, at9 ht hP hD [2, 3, 0, 1] (by decide +kernel) rfl⟩, hS.F ht⟩) hS.2.2 dX6_doWork_150
    refine lv_tableOut (tgt := 139) hx hb dX6_doWork_64 (by rw [iI_to (by omega) (by omega)]; omega) (by decide) ?_
    refine lv_aload_n hx hb dX6_doWork_139 rfl (lv_at hlv 4 rfl) ?_
    refine lv_iload_n hx hb dX6_doWork_140 rfl (lv_at hlv 2 rfl) ?_
    refine lv_iload hx hb dX6_doWork_141 (lv_at hlv 1 rfl) ?_
    refine lv_iload hx hb dX6_doWork_143 (lv_at hlv 0 rfl) ?_
    refine lv_iconst (v := iI 0) hx hb dX6_doWork_145 (by decide) ?_
    refine cjr_v [false, true, false, true] (fun pre9 => (va_runV (As := [vI z_8, vI z_10, vI z_12, vI 0]) (rest := []) ⟨hx, hb, hml, hown, hts⟩ (s_addDrain l hl D cy sa sA s2 s3 s6 s8 s11 s13 wi ro dr dt pe gu sh wo z_5 mi fl tk go df z_8 z_10 z_12 0 H.size (by first | exact hr_wi | omega) (by first | exact hr_ro | omega) (by first | exact hr_dr | omega) (by first | exact hr_dt | omega) (by first | exact hr_pe | omega) (by first | exact hr_gu | omega) (by first | exact hr_sh | omega) (by first | exact hr_wo | omega) (by omega) (by first | exact hr_mi | omega) (by first | exact hr_fl | omega) (by first | exact hr_tk | omega) (by first | exact hr_go | omega) (by first | exact lz_8 | omega) (by first | exact lz_10 | omega) (by first | exact lz_12 | omega) (by show (0 : Int) ≤ 0 ∧ (0 : Int) ≤ 16; decide) hdf) (cwV 4 hts gg_3 rfl rfl rfl (by decide +kernel) ⟨Nat.le_of_ble_eq_true rfl, Nat.le_of_ble_eq_true rfl⟩) ⟨pcW.blind, (va_recv hG.1 hP (ci := 6) (q0 := 0) rfl rfl), pre9⟩ rfl rfl hlv.1 rfl (lv_room (Nat.le_of_ble_eq_true rfl)) dX6_doWork_146 ⟨Nat.le_of_ble_eq_true rfl, Nat.le_of_ble_eq_true rfl⟩)) hP hD hS hA hG hT [0, 2] rfl (by decide +kernel) (fun u5 H locs hw5 hq9 hS => ?_)
    obtain ⟨hq5_0, hq5_1, hq5_2⟩ := hw5
    obtain ⟨hP, hD⟩ := pd9 [zI s2 (cy 0) 96 hf, zI s13 (cy 0) 40 kf, zO sA 6 [vI wi, vI ro, vR s2, vR s3, vI (u5.2.1 0), vI dt, vR s6, vI pe, vR s8, vI gu, vI sh, vR s11, vI wo, vR s13, vI z_5, vI mi, vI fl, vI tk, vI go], zI s6 (cy 0) 56 (u5.2.2 0)] hq9
    refine lv_iconst (v := iI 1) hx hb dX6_doWork_149 (by decide) ?_
    refine W.widen (k := 0) (n := 0) (Nat.le_of_ble_eq_true rfl) (Nat.le_of_ble_eq_true rfl) ?_
    exact W.zret (v := iI 1) hx hb hr (by first | rfl | decide) (fun t ht hW => ⟨⟨iI 1, ((fun k => ([] : List Nat).getD k 0), (fun k => ([(u5.2.1 0), z_5, 1] : List Int).getD k 0), (fun k => ([hf, (u5.2.2 0)] : List (Nat → Int32)).getD k (fun _ => 0))), rfl, ⟨rfl, (by show (0 ≤ (u5.2.1 0) ∧ (u5.2.1 0) ≤ 14); first | exact hq5_0 | omega), (by show ((-2147483648) ≤ z_5 ∧ z_5 ≤ 2147483647); omega), (by show (0 ≤ 1 ∧ 1 ≤ 1); show (0 : Int) ≤ 1 ∧ (1 : Int) ≤ 1; decide), hhf, hq5_2, hkf⟩, at9 ht hP hD [2, 0, 3, 1] (by decide +kernel) rfl⟩, hS.F ht⟩) hS.2.2 dX6_doWork_150
  · refine lv_iconst (v := iI 0) hx hb dX6_doWork_11 (by decide) ?_
    refine W.widen (k := 0) (n := 0) (Nat.le_of_ble_eq_true rfl) (Nat.le_of_ble_eq_true rfl) ?_
    exact W.zret (v := iI 0) hx hb hr (by first | rfl | decide) (fun t ht hW => ⟨⟨iI 0, ((fun k => ([] : List Nat).getD k 0), (fun k => ([dr, dn, 0] : List Int).getD k 0), (fun k => ([hf, df] : List (Nat → Int32)).getD k (fun _ => 0))), rfl, ⟨rfl, (by show (0 ≤ dr ∧ dr ≤ 14); first | exact hr_dr | omega), (by show ((-2147483648) ≤ dn ∧ dn ≤ 2147483647); first | exact hr_dn | omega), (by show (0 ≤ 0 ∧ 0 ≤ 1); show (0 : Int) ≤ 0 ∧ (0 : Int) ≤ 1; decide), hhf, hdf, hkf⟩, at9 ht hP hD [0, 1, 2, 3] (by decide +kernel) rfl⟩, hS.F ht⟩) hS.2.2 dX6_doWork_12
def vs_s_doWorks : List Cond := .code yX6_doWorks cX6_doWorks 3 none :: (([.fieldLink RX6 56 "KerbSplash$Street" "works" "I"] : List Cond) ++ ((wsX60) ++ ((wsV RX6 106 RX6 yX6_doWork vs_s_doWork) ++ ([]))))
theorem gd_s_doWorks : vs_s_doWorks.all goodWord = true := gd_C (by decide +kernel) (gd_A (by decide +kernel) (gd_A (by decide +kernel) (gd_A (gd_V gd_s_doWork (by decide +kernel)) rfl)))
set_option maxHeartbeats 4000000 in
set_option maxRecDepth 100000 in
theorem s_doWorks (l : Launch) (hl : l.stackTraces = false) (D : va_G) (cy : Nat → ClassId) (sa : Nat → Nat) (sA s2 s3 s6 s8 s11 s13 : Nat) (wi ro dr dt pe gu sh wo dn mi fl tk go : Int) (hf df kf : Nat → Int32) (n : Int) (sz : Nat) (hr_wi : 0 ≤ wi ∧ wi ≤ 16) (hr_ro : 0 ≤ ro ∧ ro ≤ 6) (hr_dr : 0 ≤ dr ∧ dr ≤ 14) (hr_dt : 0 ≤ dt ∧ dt ≤ 6) (hr_pe : 0 ≤ pe ∧ pe ≤ 8) (hr_gu : 0 ≤ gu ∧ gu ≤ 20) (hr_sh : 0 ≤ sh ∧ sh ≤ 2) (hr_wo : 0 ≤ wo ∧ wo ≤ 8) (hr_dn : (-2147483648) ≤ dn ∧ dn ≤ 2147483647) (hr_mi : 0 ≤ mi ∧ mi ≤ 600) (hr_fl : (-2147483648) ≤ fl ∧ fl ≤ 2147483647) (hr_tk : (-2147483648) ≤ tk ∧ tk ≤ 2147483647) (hr_go : (-2147483648) ≤ go ∧ go ≤ 2147483647) (hr_n : (-2147483648) ≤ n ∧ n ≤ 2147483647) (hhf : inv_ 96 0 99 hf) (hdf : tab_ 4 14 [0, 0, 0, 0] [15, 5, 99, 16] df) (hkf : tw_ kf) : mV9 l yX6_doWorks vs_s_doWorks ({ frames := 3, cells := 0, slots := 0, locals := 70 }) D cy sa sz [vR sA, vI n] [zO sA 6 [vI wi, vI ro, vR s2, vR s3, vI dr, vI dt, vR s6, vI pe, vR s8, vI gu, vI sh, vR s11, vI wo, vR s13, vI dn, vI mi, vI fl, vI tk, vI go], zI s2 (cy 0) 96 hf, zI s6 (cy 0) 56 df, zI s13 (cy 0) 40 kf] (fun u : SV => (0 ≤ u.2.1 0 ∧ u.2.1 0 ≤ 14) ∧ ((-2147483648) ≤ u.2.1 1 ∧ u.2.1 1 ≤ 2147483647) ∧ inv_ 96 0 99 (u.2.2 0) ∧ tab_ 4 14 [0, 0, 0, 0] [15, 5, 99, 16] (u.2.2 1) ∧ tw_ kf) (fun u : SV => [zO sA 6 [vI wi, vI ro, vR s2, vR s3, vI (u.2.1 0), vI dt, vR s6, vI pe, vR s8, vI gu, vI sh, vR s11, vI wo, vR s13, vI (u.2.1 1), vI mi, vI fl, vI tk, vI go], zI s2 (cy 0) 96 (u.2.2 0), zI s6 (cy 0) 56 (u.2.2 1), zI s13 (cy 0) 40 kf]) 0 0 := by
  refine Met.ofW (cc := cX6_doWorks) (maxL := 3) (ret := none) (by decide) rfl ?_
  intro p e s m args below meth c s₁ B hml hv
  obtain ⟨rfl, hsz, hP, hG, hD0, hT⟩ := hv
  have hx := B.exec
  have hb := B.bytes
  have hr := B.returns
  have hts := atoms_spec (ws := vs_s_doWorks) B.pre
  have hown : s.vm.findClass RX6 = some m.cls := findClass_of_methodNamed B.named
  have hlocks := B.notSynchronized
  subst hsz
  have hD := hD0.self (sz := s.heap.size)
  generalize hAe : va_A [zO sA 6 [vI wi, vI ro, vR s2, vR s3, vI dr, vI dt, vR s6, vI pe, vR s8, vI gu, vI sh, vR s11, vI wo, vR s13, vI dn, vI mi, vI fl, vI tk, vI go], zI s2 (cy 0) 96 hf, zI s6 (cy 0) 56 df, zI s13 (cy 0) 40 kf] s.heap.size = A at hD hT ⊢
  have hA : ∀ q : Nat, s.heap.size ≤ q → A q := fun q h => by rw [← hAe]; exact Or.inr h
  have hS : va_S A s.heap s.heap [] := va_S.rf
  have hl0 := lv_entry ([vR sA, vI n]) (n := 3) (Nat.le_of_ble_eq_true rfl)
  rw [lg_entry_eq]
  generalize (lg_sl ([vR sA, vI n]) ++ List.replicate (3 - (lg_sl ([vR sA, vI n])).length) Slot.unset).toArray = ls at hl0 ⊢
  have hlv : lv_has ls 3 [(0, vR sA), (1, vI n)] := hl0
  have lf56 := hts (.fieldLink RX6 56 "KerbSplash$Street" "works" "I") (List.mem_of_getElem? (i := 1) rfl)
  have hi6 : ∀ w ∈ wsX60, w ∈ vs_s_doWorks := fun w h => List.mem_cons_of_mem _ (List.mem_append_right _ (List.mem_append_left _ h))
  have gg_1 : GoodIn vs_s_doWorks (wsV RX6 106 RX6 yX6_doWork vs_s_doWork) := goodIn_sub (fun w h => List.mem_cons_of_mem _ (List.mem_append_right _ (List.mem_append_right _ (List.mem_append_left _ h)))) (gd_V gd_s_doWork (by decide +kernel))
  refine lv_iconst (v := iI 0) hx hb dX6_doWorks_0 (by decide) ?_
  refine lv_istore_n (lv' := [(2, vI 0), (0, vR sA), (1, vI n)]) hx hb dX6_doWorks_1 rfl hlv (by decide) rfl (fun ls hlv => ?_)
  refine (?_ : ∀ (fu : Nat) (q : Int) (qd : Int) (qn : Int) (hg : Nat → Int32) (dg : Nat → Int32) (H : Heap) (locs : List Loc) (ls : Array Slot), 8 - q < (fu : Int) → (0 ≤ q ∧ q ≤ 8) → (0 ≤ qd ∧ qd ≤ 14) → ((-2147483648) ≤ qn ∧ qn ≤ 2147483647) → inv_ 96 0 99 hg → tab_ 4 14 [0, 0, 0, 0] [15, 5, 99, 16] dg → va_P D vwCl [zO sA 6 [vI wi, vI ro, vR s2, vR s3, vI qd, vI dt, vR s6, vI pe, vR s8, vI gu, vI sh, vR s11, vI wo, vR s13, vI qn, vI mi, vI fl, vI tk, vI go], zI s2 (cy 0) 96 hg, zI s6 (cy 0) 56 dg, zI s13 (cy 0) 40 kf] H → va_D A [zO sA 6 [vI wi, vI ro, vR s2, vR s3, vI qd, vI dt, vR s6, vI pe, vR s8, vI gu, vI sh, vR s11, vI wo, vR s13, vI qn, vI mi, vI fl, vI tk, vI go], zI s2 (cy 0) 96 hg, zI s6 (cy 0) 56 dg, zI s13 (cy 0) 40 kf] → va_S A s.heap H locs → lv_has ls 3 [(2, vI q), (0, vR sA), (1, vI n)] → W p l e _ s m _ below meth c H locs _ _ _ (F0 m 2 ls [])) (((8 - 0) + 1 : Int)).toNat 0 dr dn hf df _ _ _ (by omega) (by show (0 : Int) ≤ 0 ∧ (0 : Int) ≤ 8; decide) (by first | exact hr_dr | omega) (by first | exact hr_dn | omega) hhf hdf hP hD hS hlv
  clear hP hD hS hlv
  intro fu
  induction fu with
  | zero => intro q qd qn hg dg H locs ls hm2 hl2_0 hl2_1 hl2_2 hihg hidg hP hD hS hlv; omega
  | succ fu ih2 =>
    intro q qd qn hg dg H locs ls hm2 hl2_0 hl2_1 hl2_2 hihg hidg hP hD hS hlv
    refine lv_iload_n hx hb dX6_doWorks_2 rfl (lv_at hlv 0 rfl) ?_
    refine lv_aload_n hx hb dX6_doWorks_3 rfl (lv_at hlv 1 rfl) ?_
    refine va_get (D := D) (ci := 6) (v := vI wo) (C := RX6) (T := TX6) (N := 19) hx hb hts hi6 hown hG.1 hP 0 rfl rfl 12 (by decide) lf56 (fun _ h9 => h9) rfl dX6_doWorks_4 ?_
    refine ir_ge (tgt := 30) hx hb dX6_doWorks_7 (by decide) (by first | exact rgw hl2_0 (by decide) (by decide) | omega) (by first | exact rgw hr_wo (by decide) (by decide) | omega) (fun c_1 => ?_) (fun c_1 => ?_)
    · refine W.widen (k := 0) (n := 0) (Nat.le_of_ble_eq_true rfl) (Nat.le_of_ble_eq_true rfl) ?_
      exact W.vret hx hb hr (fun t ht hW => ⟨⟨((fun k => ([] : List Nat).getD k 0), (fun k => ([qd, qn] : List Int).getD k 0), (fun k => ([hg, dg] : List (Nat → Int32)).getD k (fun _ => 0))), rfl, ⟨(by show (0 ≤ qd ∧ qd ≤ 14); first | exact hl2_1 | omega), (by show ((-2147483648) ≤ qn ∧ qn ≤ 2147483647); first | exact hl2_2 | omega), hihg, hidg, hkf⟩, at9 ht hP hD [0, 1, 2, 3] (by decide +kernel) rfl⟩, hS.F ht⟩) hS.2.2 dX6_doWorks_30
    · refine lv_iload_n hx hb dX6_doWorks_10 rfl (lv_at hlv 2 rfl) ?_
      refine lv_iload_n hx hb dX6_doWorks_11 rfl (lv_at hlv 0 rfl) ?_
      refine lv_ishr hx hb dX6_doWorks_12 ?_
      refine lt_z (fun z_2 ez_2 lz_2 hz_2 => ?_)
      refine lv_iconst (v := iI 1) hx hb dX6_doWorks_13 (by decide) ?_
      refine lv_iand hx hb dX6_doWorks_14 ?_
      refine lt_aE 1 (by decide) (by decide) (hi := 1) (by decide) (fun z_3 ez_3 lz_3 hz_3 => ?_)
      refine iz_eq (tgt := 24) hx hb dX6_doWorks_15 (by decide) (by omega) (fun c_4 => ?_) (fun c_4 => ?_)
      · obtain ⟨z_5, hz_5⟩ : ∃ z : Int, z = q + 1 := ⟨_, rfl⟩
        refine lv_iinc (v := iI z_5) (lv' := [(2, vI z_5), (0, vR sA), (1, vI n)]) hx hb dX6_doWorks_24 hlv (k := 0) rfl (by rw [hz_5]; exact (Int32.ofInt_add _ _).symm) (by decide) rfl (fun ls hlv => ?_)
        refine lv_goto (tgt := 2) hx hb dX6_doWorks_27 (by decide) ?_
        exact ih2 z_5 qd qn hg dg H locs ls (by omega) (by omega) (by first | exact hl2_1 | omega) (by first | exact hl2_2 | omega) hihg hidg (hP.sub [0, 1, 2, 3] rfl) (hD.sub [0, 1, 2, 3] (by decide) rfl) hS (lv_sub hlv [0, 1, 2] rfl)
      · refine lv_aload_n hx hb dX6_doWorks_18 rfl (lv_at hlv 1 rfl) ?_
        refine lv_iload_n hx hb dX6_doWorks_19 rfl (lv_at hlv 0 rfl) ?_
        refine cjr_i [false, false, false, false] (fun pre9 => (va_runV (As := [vI q]) (rest := []) ⟨hx, hb, hml, hown, hts⟩ (s_doWork l hl D cy sa sA s2 s3 s6 s8 s11 s13 wi ro qd dt pe gu sh wo qn mi fl tk go hg dg kf q H.size (by first | exact hr_wi | omega) (by first | exact hr_ro | omega) (by first | exact hl2_1 | omega) (by first | exact hr_dt | omega) (by first | exact hr_pe | omega) (by first | exact hr_gu | omega) (by first | exact hr_sh | omega) (by first | exact hr_wo | omega) (by first | exact hl2_2 | omega) (by first | exact hr_mi | omega) (by first | exact hr_fl | omega) (by first | exact hr_tk | omega) (by first | exact hr_go | omega) (by omega) hihg hidg hkf) (cwV 1 hts gg_1 rfl rfl rfl (by decide +kernel) ⟨Nat.le_of_ble_eq_true rfl, Nat.le_of_ble_eq_true rfl⟩) ⟨pcW.blind, (va_recv hG.1 hP (ci := 6) (q0 := 0) rfl rfl), pre9⟩ rfl rfl hlv.1 rfl (lv_room (Nat.le_of_ble_eq_true rfl)) dX6_doWorks_20 ⟨Nat.le_of_ble_eq_true rfl, Nat.le_of_ble_eq_true rfl⟩)) hP hD hS hA hG hT [0, 1, 2, 3] rfl (by decide +kernel) (fun r1 u1 H locs hw1 hq9 hS => ?_)
        obtain ⟨rfl, hq1_1, hq1_2, hq1_3, hq1_4, hq1_5, hq1_6⟩ := hw1
        obtain ⟨hP, hD⟩ := pd9 [zO sA 6 [vI wi, vI ro, vR s2, vR s3, vI (u1.2.1 0), vI dt, vR s6, vI pe, vR s8, vI gu, vI sh, vR s11, vI wo, vR s13, vI (u1.2.1 1), vI mi, vI fl, vI tk, vI go], zI s2 (cy 0) 96 (u1.2.2 0), zI s6 (cy 0) 56 (u1.2.2 1), zI s13 (cy 0) 40 kf] hq9
        refine lv_pop hx hb dX6_doWorks_23 rfl ?_
        obtain ⟨z_6, hz_6⟩ : ∃ z : Int, z = q + 1 := ⟨_, rfl⟩
        refine lv_iinc (v := iI z_6) (lv' := [(2, vI z_6), (0, vR sA), (1, vI n)]) hx hb dX6_doWorks_24 hlv (k := 0) rfl (by rw [hz_6]; exact (Int32.ofInt_add _ _).symm) (by decide) rfl (fun ls hlv => ?_)
        refine lv_goto (tgt := 2) hx hb dX6_doWorks_27 (by decide) ?_
        exact ih2 z_6 (u1.2.1 0) (u1.2.1 1) (u1.2.2 0) (u1.2.2 1) H locs ls (by omega) (by omega) (by first | exact hq1_1 | omega) (by first | exact hq1_2 | omega) hq1_4 hq1_5 (hP.sub [0, 1, 2, 3] rfl) (hD.sub [0, 1, 2, 3] (by decide) rfl) hS (lv_sub hlv [0, 1, 2] rfl)
def vs_s_passRain : List Cond := .code yX6_passRain cX6_passRain 4 (some .int) :: (([.fieldLink RX6 62 "KerbSplash$Street" "minutes" "I", .methodLink RX6 110 Lib.Math.min.name, .static Lib.Math.min.name, .initialized "java/lang/Math", .code Lib.Math.min.name Lib.Math.min.code 2 (some .int)] : List Cond) ++ ((wsX50) ++ ((wsX60) ++ ((wsV RX6 115 RX6 yX6_passMinute vs_s_passMinute) ++ ([])))))
theorem gd_s_passRain : vs_s_passRain.all goodWord = true := gd_C (by decide +kernel) (gd_A (by decide +kernel) (gd_A (by decide +kernel) (gd_A (by decide +kernel) (gd_A (gd_V gd_s_passMinute (by decide +kernel)) rfl))))
set_option maxHeartbeats 4000000 in
set_option maxRecDepth 100000 in
theorem s_passRain (l : Launch) (hl : l.stackTraces = false) (D : va_G) (cy : Nat → ClassId) (sa : Nat → Nat) (sA s2 s3 s6 s8 s11 s13 : Nat) (wi ro dr dt pe gu sh wo dn mi fl tk go : Int) (hf wf df ff : Nat → Int32) (ra rf : Nat) (rm : Int) (sz : Nat) (hr_wi : 0 ≤ wi ∧ wi ≤ 16) (hr_ro : 0 ≤ ro ∧ ro ≤ 6) (hr_dr : 0 ≤ dr ∧ dr ≤ 14) (hr_dt : 0 ≤ dt ∧ dt ≤ 6) (hr_pe : 0 ≤ pe ∧ pe ≤ 8) (hr_gu : 0 ≤ gu ∧ gu ≤ 20) (hr_sh : 0 ≤ sh ∧ sh ≤ 2) (hr_wo : 0 ≤ wo ∧ wo ≤ 8) (hr_dn : (-2147483648) ≤ dn ∧ dn ≤ 2147483647) (hr_mi : 0 ≤ mi ∧ mi ≤ 600) (hr_fl : (-2147483648) ≤ fl ∧ fl ≤ 2147483647) (hr_tk : (-2147483648) ≤ tk ∧ tk ≤ 2147483647) (hr_go : (-2147483648) ≤ go ∧ go ≤ 2147483647) (hr_rm : 0 ≤ rm ∧ rm ≤ 240) (hhf : inv_ 96 0 99 hf) (hdf : tab_ 4 14 [0, 0, 0, 0] [15, 5, 99, 16] df) (hff : inv_ 240 0 20 ff) : mI9 l yX6_passRain vs_s_passRain ({ frames := 4, cells := 0, slots := 0, locals := 98 }) D cy sa sz [vR sA, vR ra] [zO sA 6 [vI wi, vI ro, vR s2, vR s3, vI dr, vI dt, vR s6, vI pe, vR s8, vI gu, vI sh, vR s11, vI wo, vR s13, vI dn, vI mi, vI fl, vI tk, vI go], zI s2 (cy 0) 96 hf, zI s3 (cy 0) 96 wf, zI s6 (cy 0) 56 df, zO ra 5 [vR rf, vI rm], zI rf (cy 0) 240 ff] (fun (r : Int32) (u : SV) => r = iI (u.2.1 3) ∧ (0 ≤ u.2.1 0 ∧ u.2.1 0 ≤ 600) ∧ ((-2147483648) ≤ u.2.1 1 ∧ u.2.1 1 ≤ 2147483647) ∧ ((-2147483648) ≤ u.2.1 2 ∧ u.2.1 2 ≤ 2147483647) ∧ (0 ≤ u.2.1 3 ∧ u.2.1 3 ≤ 240) ∧ inv_ 96 0 99 hf ∧ tab_ 4 14 [0, 0, 0, 0] [15, 5, 99, 16] df ∧ inv_ 240 0 20 ff) (fun u : SV => [zO sA 6 [vI wi, vI ro, vR s2, vR s3, vI dr, vI dt, vR s6, vI pe, vR s8, vI gu, vI sh, vR s11, vI wo, vR s13, vI dn, vI (u.2.1 0), vI (u.2.1 1), vI (u.2.1 2), vI go], zI s2 (cy 0) 96 hf, zI s3 (cy 0) 96 (u.2.2 0), zI s6 (cy 0) 56 df, zO ra 5 [vR rf, vI rm], zI rf (cy 0) 240 ff]) 0 0 := by
  refine Met.ofW (cc := cX6_passRain) (maxL := 4) (ret := (some .int)) (by decide) rfl ?_
  intro p e s m args below meth c s₁ B hml hv
  obtain ⟨rfl, hsz, hP, hG, hD0, hT⟩ := hv
  have hx := B.exec
  have hb := B.bytes
  have hr := B.returns
  have hts := atoms_spec (ws := vs_s_passRain) B.pre
  have hown : s.vm.findClass RX6 = some m.cls := findClass_of_methodNamed B.named
  have hlocks := B.notSynchronized
  subst hsz
  have hD := hD0.self (sz := s.heap.size)
  generalize hAe : va_A [zO sA 6 [vI wi, vI ro, vR s2, vR s3, vI dr, vI dt, vR s6, vI pe, vR s8, vI gu, vI sh, vR s11, vI wo, vR s13, vI dn, vI mi, vI fl, vI tk, vI go], zI s2 (cy 0) 96 hf, zI s3 (cy 0) 96 wf, zI s6 (cy 0) 56 df, zO ra 5 [vR rf, vI rm], zI rf (cy 0) 240 ff] s.heap.size = A at hD hT ⊢
  have hA : ∀ q : Nat, s.heap.size ≤ q → A q := fun q h => by rw [← hAe]; exact Or.inr h
  have hS : va_S A s.heap s.heap [] := va_S.rf
  have hl0 := lv_entry ([vR sA, vR ra]) (n := 4) (Nat.le_of_ble_eq_true rfl)
  rw [lg_entry_eq]
  generalize (lg_sl ([vR sA, vR ra]) ++ List.replicate (4 - (lg_sl ([vR sA, vR ra])).length) Slot.unset).toArray = ls at hl0 ⊢
  have hlv : lv_has ls 4 [(0, vR sA), (1, vR ra)] := hl0
  have hi5 : ∀ w ∈ wsX50, w ∈ vs_s_passRain := fun w h => List.mem_cons_of_mem _ (List.mem_append_right _ (List.mem_append_left _ h))
  have lf62 := hts (.fieldLink RX6 62 "KerbSplash$Street" "minutes" "I") (List.mem_of_getElem? (i := 1) rfl)
  have hi6 : ∀ w ∈ wsX60, w ∈ vs_s_passRain := fun w h => List.mem_cons_of_mem _ (List.mem_append_right _ (List.mem_append_right _ (List.mem_append_left _ h)))
  have mk110 := hts (.methodLink RX6 110 Lib.Math.min.name) (List.mem_of_getElem? (i := 2) rfl)
  have ms_min := hts (.static Lib.Math.min.name) (List.mem_of_getElem? (i := 3) rfl)
  have mi_ := hts (.initialized "java/lang/Math") (List.mem_of_getElem? (i := 4) rfl)
  have mc_min := hts (.code Lib.Math.min.name Lib.Math.min.code 2 (some .int)) (List.mem_of_getElem? (i := 5) rfl)
  have gg_2 : GoodIn vs_s_passRain (wsV RX6 115 RX6 yX6_passMinute vs_s_passMinute) := goodIn_sub (fun w h => List.mem_cons_of_mem _ (List.mem_append_right _ (List.mem_append_right _ (List.mem_append_right _ (List.mem_append_left _ h))))) (gd_V gd_s_passMinute (by decide +kernel))
  refine lv_aload_n hx hb dX6_passRain_0 rfl (lv_at hlv 1 rfl) ?_
  refine va_getN (D := D) (ci := 5) (v := vI rm) (C := RX5) (T := TX5) (N := 2) hx hb hts hi5 hown hG.1 hP 4 rfl rfl 1 (by decide) (va_Nw.use rfl (nF_Street_119 hG.2.1)) (fun _ h9 => h9) rfl dX6_passRain_1 ?_
  refine lv_sipush (v := iI 600) hx hb dX6_passRain_4 (by decide) ?_
  refine lv_aload_n hx hb dX6_passRain_7 rfl (lv_at hlv 0 rfl) ?_
  refine va_get (D := D) (ci := 6) (v := vI mi) (C := RX6) (T := TX6) (N := 19) hx hb hts hi6 hown hG.1 hP 0 rfl rfl 15 (by decide) lf62 (fun _ h9 => h9) rfl dX6_passRain_8 ?_
  refine lv_isub hx hb dX6_passRain_11 ?_
  refine lt_e (e0 := 600 - mi) (Int32.ofInt_sub _ _).symm (fun z_1 hz_1 => ?_)
  refine va_mmin hx hb (hml.trans hlv.1.symm) hown mk110 ms_min mi_ mc_min (Nat.le_of_ble_eq_true rfl) (Nat.le_of_ble_eq_true rfl) (Nat.le_of_ble_eq_true rfl) (Nat.le_of_ble_eq_true rfl) dX6_passRain_12 ?_
  refine lt_mn (by omega) (by omega) (fun z_2 hz_2 => ?_)
  refine lv_istore_n (lv' := [(2, vI z_2), (0, vR sA), (1, vR ra)]) hx hb dX6_passRain_15 rfl hlv (by decide) rfl (fun ls hlv => ?_)
  refine lv_iconst (v := iI 0) hx hb dX6_passRain_16 (by decide) ?_
  refine lv_istore_n (lv' := [(3, vI 0), (2, vI z_2), (0, vR sA), (1, vR ra)]) hx hb dX6_passRain_17 rfl hlv (by decide) rfl (fun ls hlv => ?_)
  refine (?_ : ∀ (fu : Nat) (q3 : Int) (qm : Int) (qf : Int) (qt : Int) (wg : Nat → Int32) (H : Heap) (locs : List Loc) (ls : Array Slot), 240 - q3 < (fu : Int) → (0 ≤ q3 ∧ q3 ≤ 240) → (0 ≤ qm ∧ qm ≤ 600) → ((-2147483648) ≤ qf ∧ qf ≤ 2147483647) → ((-2147483648) ≤ qt ∧ qt ≤ 2147483647) → (qm = mi + q3) → va_P D vwCl [zO sA 6 [vI wi, vI ro, vR s2, vR s3, vI dr, vI dt, vR s6, vI pe, vR s8, vI gu, vI sh, vR s11, vI wo, vR s13, vI dn, vI qm, vI qf, vI qt, vI go], zI s2 (cy 0) 96 hf, zI s3 (cy 0) 96 wg, zI s6 (cy 0) 56 df, zO ra 5 [vR rf, vI rm], zI rf (cy 0) 240 ff] H → va_D A [zO sA 6 [vI wi, vI ro, vR s2, vR s3, vI dr, vI dt, vR s6, vI pe, vR s8, vI gu, vI sh, vR s11, vI wo, vR s13, vI dn, vI qm, vI qf, vI qt, vI go], zI s2 (cy 0) 96 hf, zI s3 (cy 0) 96 wg, zI s6 (cy 0) 56 df, zO ra 5 [vR rf, vI rm], zI rf (cy 0) 240 ff] → va_S A s.heap H locs → lv_has ls 4 [(3, vI q3), (2, vI z_2), (0, vR sA), (1, vR ra)] → W p l e _ s m _ below meth c H locs _ _ _ (F0 m 18 ls [])) (((240 - 0) + 1 : Int)).toNat 0 mi fl tk wf _ _ _ (by omega) (by show (0 : Int) ≤ 0 ∧ (0 : Int) ≤ 240; decide) (by first | exact hr_mi | omega) (by first | exact hr_fl | omega) (by first | exact hr_tk | omega) (by omega)  hP hD hS hlv
  clear hP hD hS hlv
  intro fu
  induction fu with
  | zero => intro q3 qm qf qt wg H locs ls hm18 hl18_0 hl18_1 hl18_2 hl18_3 hl18_4  hP hD hS hlv; omega
  | succ fu ih18 =>
    intro q3 qm qf qt wg H locs ls hm18 hl18_0 hl18_1 hl18_2 hl18_3 hl18_4  hP hD hS hlv
    refine lv_iload_n hx hb dX6_passRain_18 rfl (lv_at hlv 0 rfl) ?_
    refine lv_iload_n hx hb dX6_passRain_19 rfl (lv_at hlv 1 rfl) ?_
    refine ir_ge (tgt := 39) hx hb dX6_passRain_20 (by decide) (by first | exact rgw hl18_0 (by decide) (by decide) | omega) (by omega) (fun c_3 => ?_) (fun c_3 => ?_)
    · refine lv_iload_n hx hb dX6_passRain_39 rfl (lv_at hlv 1 rfl) ?_
      refine W.widen (k := 0) (n := 0) (Nat.le_of_ble_eq_true rfl) (Nat.le_of_ble_eq_true rfl) ?_
      exact W.iret (v := iI z_2) hx hb hr (fun t ht hW => ⟨⟨iI z_2, ((fun k => ([] : List Nat).getD k 0), (fun k => ([qm, qf, qt, z_2] : List Int).getD k 0), (fun k => ([wg] : List (Nat → Int32)).getD k (fun _ => 0))), rfl, ⟨rfl, (by show (0 ≤ qm ∧ qm ≤ 600); first | exact hl18_1 | omega), (by show ((-2147483648) ≤ qf ∧ qf ≤ 2147483647); first | exact hl18_2 | omega), (by show ((-2147483648) ≤ qt ∧ qt ≤ 2147483647); first | exact hl18_3 | omega), (by show (0 ≤ z_2 ∧ z_2 ≤ 240); omega), hhf, hdf, hff⟩, at9 ht hP hD [0, 1, 2, 3, 4, 5] (by decide +kernel) rfl⟩, hS.F ht⟩) hS.2.2 dX6_passRain_40
    · refine lv_aload_n hx hb dX6_passRain_23 rfl (lv_at hlv 2 rfl) ?_
      refine lv_aload_n hx hb dX6_passRain_24 rfl (lv_at hlv 3 rfl) ?_
      refine va_getN (D := D) (ci := 5) (v := vR rf) (C := RX5) (T := TX5) (N := 2) hx hb hts hi5 hown hG.1 hP 4 rfl rfl 0 (by decide) (va_Nw.use rfl (nF_Street_122 hG.2.1)) (fun _ h9 => h9) rfl dX6_passRain_25 ?_
      refine lv_iload_n hx hb dX6_passRain_28 rfl (lv_at hlv 0 rfl) ?_
      refine va_iald hx hb hG.1 hP 5 0 rfl rfl (iI_in (by omega) (by decide)) dX6_passRain_29 ?_
      obtain ⟨z_4, ez_4, hz_4, lz_4⟩ := inv_rd hff (e := q3) (by omega) (by decide)
      refine lt_i (y := iI z_4) ez_4 ?_
      refine cjr_v [false, false, false, false, true, true] (fun pre9 => (va_runV (As := [vI z_4]) (rest := []) ⟨hx, hb, hml, hown, hts⟩ (s_passMinute l hl D cy sa sA s2 s3 s6 s8 s11 s13 wi ro dr dt pe gu sh wo dn qm qf qt go hf wg df z_4 H.size (by first | exact hr_wi | omega) (by first | exact hr_ro | omega) (by first | exact hr_dr | omega) (by first | exact hr_dt | omega) (by first | exact hr_pe | omega) (by first | exact hr_gu | omega) (by first | exact hr_sh | omega) (by first | exact hr_wo | omega) (by first | exact hr_dn | omega) (by first | exact hl18_1 | omega) (by first | exact hl18_2 | omega) (by first | exact hl18_3 | omega) (by first | exact hr_go | omega) (by first | exact lz_4 | omega) (by omega) hhf hdf) (cwV 1 hts gg_2 rfl rfl rfl (by decide +kernel) ⟨Nat.le_of_ble_eq_true rfl, Nat.le_of_ble_eq_true rfl⟩) ⟨pcW.blind, (va_recv hG.1 hP (ci := 6) (q0 := 0) rfl rfl), pre9⟩ rfl rfl hlv.1 rfl (lv_room (Nat.le_of_ble_eq_true rfl)) dX6_passRain_30 ⟨Nat.le_of_ble_eq_true rfl, Nat.le_of_ble_eq_true rfl⟩)) hP hD hS hA hG hT [0, 1, 2, 3] rfl (by decide +kernel) (fun u1 H locs hw1 hq9 hS => ?_)
      obtain ⟨hq1_0, hq1_1, hq1_2, hq1_3, hq1_4, hq1_5⟩ := hw1
      obtain ⟨hP, hD⟩ := pd9 [zO ra 5 [vR rf, vI rm], zI rf (cy 0) 240 ff, zO sA 6 [vI wi, vI ro, vR s2, vR s3, vI dr, vI dt, vR s6, vI pe, vR s8, vI gu, vI sh, vR s11, vI wo, vR s13, vI dn, vI (u1.2.1 0), vI (u1.2.1 1), vI (u1.2.1 2), vI go], zI s2 (cy 0) 96 hf, zI s3 (cy 0) 96 (u1.2.2 0), zI s6 (cy 0) 56 df] hq9
      obtain ⟨z_5, hz_5⟩ : ∃ z : Int, z = q3 + 1 := ⟨_, rfl⟩
      refine lv_iinc (v := iI z_5) (lv' := [(3, vI z_5), (2, vI z_2), (0, vR sA), (1, vR ra)]) hx hb dX6_passRain_33 hlv (k := 0) rfl (by rw [hz_5]; exact (Int32.ofInt_add _ _).symm) (by decide) rfl (fun ls hlv => ?_)
      refine lv_goto (tgt := 18) hx hb dX6_passRain_36 (by decide) ?_
      exact ih18 z_5 (u1.2.1 0) (u1.2.1 1) (u1.2.1 2) (u1.2.2 0) H locs ls (by omega) (by omega) (by first | exact hq1_0 | omega) (by first | exact hq1_1 | omega) (by first | exact hq1_2 | omega) (by omega)  (hP.sub [2, 3, 4, 5, 0, 1] rfl) (hD.sub [2, 3, 4, 5, 0, 1] (by decide) rfl) hS (lv_sub hlv [0, 1, 2, 3] rfl)
def vs_s_throwFrom : List Cond := .code yX6_throwFrom cX6_throwFrom 5 none :: (([.fieldLink RX6 13 "KerbSplash$Street" "water" "[I", .fieldLink RX6 32 "KerbSplash$Street" "rows" "I", .fieldLink RX6 71 "KerbSplash$Street" "gone" "I"] : List Cond) ++ ((wsX60) ++ ((wsV RX6 88 RX6 yX6_index vs_s_index) ++ ([]))))
theorem gd_s_throwFrom : vs_s_throwFrom.all goodWord = true := gd_C (by decide +kernel) (gd_A (by decide +kernel) (gd_A (by decide +kernel) (gd_A (gd_V gd_s_index (by decide +kernel)) rfl)))
set_option maxHeartbeats 4000000 in
set_option maxRecDepth 100000 in
theorem s_throwFrom (l : Launch) (hl : l.stackTraces = false) (D : va_G) (cy : Nat → ClassId) (sa : Nat → Nat) (sA s2 s3 s6 s8 s11 s13 : Nat) (wi ro dr dt pe gu sh wo dn mi fl tk go : Int) (wf : Nat → Int32) (x y t : Int) (sz : Nat) (hr_wi : 0 ≤ wi ∧ wi ≤ 16) (hr_ro : 0 ≤ ro ∧ ro ≤ 6) (hr_dr : 0 ≤ dr ∧ dr ≤ 14) (hr_dt : 0 ≤ dt ∧ dt ≤ 6) (hr_pe : 0 ≤ pe ∧ pe ≤ 8) (hr_gu : 0 ≤ gu ∧ gu ≤ 20) (hr_sh : 0 ≤ sh ∧ sh ≤ 2) (hr_wo : 0 ≤ wo ∧ wo ≤ 8) (hr_dn : (-2147483648) ≤ dn ∧ dn ≤ 2147483647) (hr_mi : 0 ≤ mi ∧ mi ≤ 600) (hr_fl : (-2147483648) ≤ fl ∧ fl ≤ 2147483647) (hr_tk : (-2147483648) ≤ tk ∧ tk ≤ 2147483647) (hr_go : (-2147483648) ≤ go ∧ go ≤ 2147483647) (hr_x : 0 ≤ x ∧ x ≤ 15) (hr_y : 0 ≤ y ∧ y ≤ 5) (hr_t : (-2147483648) ≤ t ∧ t ≤ 2147483647) : mV9 l yX6_throwFrom vs_s_throwFrom ({ frames := 1, cells := 0, slots := 0, locals := 22 }) D cy sa sz [vR sA, vI x, vI y, vI t] [zO sA 6 [vI wi, vI ro, vR s2, vR s3, vI dr, vI dt, vR s6, vI pe, vR s8, vI gu, vI sh, vR s11, vI wo, vR s13, vI dn, vI mi, vI fl, vI tk, vI go], zI s3 (cy 0) 96 wf] (fun u : SV => ((-2147483648) ≤ u.2.1 0 ∧ u.2.1 0 ≤ 2147483647)) (fun u : SV => [zO sA 6 [vI wi, vI ro, vR s2, vR s3, vI dr, vI dt, vR s6, vI pe, vR s8, vI gu, vI sh, vR s11, vI wo, vR s13, vI dn, vI mi, vI fl, vI tk, vI (u.2.1 0)], zI s3 (cy 0) 96 (u.2.2 0)]) 0 0 := by
  refine Met.ofW (cc := cX6_throwFrom) (maxL := 5) (ret := none) (by decide) rfl ?_
  intro p e s m args below meth c s₁ B hml hv
  obtain ⟨rfl, hsz, hP, hG, hD0, hT⟩ := hv
  have hx := B.exec
  have hb := B.bytes
  have hr := B.returns
  have hts := atoms_spec (ws := vs_s_throwFrom) B.pre
  have hown : s.vm.findClass RX6 = some m.cls := findClass_of_methodNamed B.named
  have hlocks := B.notSynchronized
  subst hsz
  have hD := hD0.self (sz := s.heap.size)
  generalize hAe : va_A [zO sA 6 [vI wi, vI ro, vR s2, vR s3, vI dr, vI dt, vR s6, vI pe, vR s8, vI gu, vI sh, vR s11, vI wo, vR s13, vI dn, vI mi, vI fl, vI tk, vI go], zI s3 (cy 0) 96 wf] s.heap.size = A at hD hT ⊢
  have hA : ∀ q : Nat, s.heap.size ≤ q → A q := fun q h => by rw [← hAe]; exact Or.inr h
  have hS : va_S A s.heap s.heap [] := va_S.rf
  have hl0 := lv_entry ([vR sA, vI x, vI y, vI t]) (n := 5) (Nat.le_of_ble_eq_true rfl)
  rw [lg_entry_eq]
  generalize (lg_sl ([vR sA, vI x, vI y, vI t]) ++ List.replicate (5 - (lg_sl ([vR sA, vI x, vI y, vI t])).length) Slot.unset).toArray = ls at hl0 ⊢
  have hlv : lv_has ls 5 [(0, vR sA), (1, vI x), (2, vI y), (3, vI t)] := hl0
  have lf13 := hts (.fieldLink RX6 13 "KerbSplash$Street" "water" "[I") (List.mem_of_getElem? (i := 1) rfl)
  have hi6 : ∀ w ∈ wsX60, w ∈ vs_s_throwFrom := fun w h => List.mem_cons_of_mem _ (List.mem_append_right _ (List.mem_append_left _ h))
  have gg_1 : GoodIn vs_s_throwFrom (wsV RX6 88 RX6 yX6_index vs_s_index) := goodIn_sub (fun w h => List.mem_cons_of_mem _ (List.mem_append_right _ (List.mem_append_right _ (List.mem_append_left _ h)))) (gd_V gd_s_index (by decide +kernel))
  have lf32 := hts (.fieldLink RX6 32 "KerbSplash$Street" "rows" "I") (List.mem_of_getElem? (i := 2) rfl)
  have lf71 := hts (.fieldLink RX6 71 "KerbSplash$Street" "gone" "I") (List.mem_of_getElem? (i := 3) rfl)
  refine lv_aload_n hx hb dX6_throwFrom_0 rfl (lv_at hlv 0 rfl) ?_
  refine va_get (D := D) (ci := 6) (v := vR s3) (C := RX6) (T := TX6) (N := 19) hx hb hts hi6 hown hG.1 hP 0 rfl rfl 3 (by decide) lf13 (fun _ h9 => h9) rfl dX6_throwFrom_1 ?_
  refine lv_aload_n hx hb dX6_throwFrom_4 rfl (lv_at hlv 0 rfl) ?_
  refine lv_iload_n hx hb dX6_throwFrom_5 rfl (lv_at hlv 1 rfl) ?_
  refine lv_iload_n hx hb dX6_throwFrom_6 rfl (lv_at hlv 2 rfl) ?_
  refine cjr_i [false, true] (fun pre9 => (va_runV (As := [vI x, vI y]) (rest := [vR s3]) ⟨hx, hb, hml, hown, hts⟩ (s_index l hl D cy sa sA s2 s3 s6 s8 s11 s13 wi ro dr dt pe gu sh wo dn mi fl tk go x y s.heap.size (by first | exact hr_wi | omega) (by first | exact hr_ro | omega) (by first | exact hr_dr | omega) (by first | exact hr_dt | omega) (by first | exact hr_pe | omega) (by first | exact hr_gu | omega) (by first | exact hr_sh | omega) (by first | exact hr_wo | omega) (by first | exact hr_dn | omega) (by first | exact hr_mi | omega) (by first | exact hr_fl | omega) (by first | exact hr_tk | omega) (by first | exact hr_go | omega) (by first | exact hr_x | omega) (by first | exact hr_y | omega)) (cwV 2 hts gg_1 rfl rfl rfl (by decide +kernel) ⟨Nat.le_of_ble_eq_true rfl, Nat.le_of_ble_eq_true rfl⟩) ⟨pcW.blind, (va_recv hG.1 hP (ci := 6) (q0 := 0) rfl rfl), pre9⟩ rfl rfl hlv.1 rfl (lv_room (Nat.le_of_ble_eq_true rfl)) dX6_throwFrom_7 ⟨Nat.le_of_ble_eq_true rfl, Nat.le_of_ble_eq_true rfl⟩)) hP hD hS hA hG hT [0] rfl (by decide +kernel) (fun r1 u1 H locs hw1 hq9 hS => ?_)
  obtain ⟨rfl, hq1_1⟩ := hw1
  obtain ⟨hP, hD⟩ := pd9 [zI s3 (cy 0) 96 wf, zO sA 6 [vI wi, vI ro, vR s2, vR s3, vI dr, vI dt, vR s6, vI pe, vR s8, vI gu, vI sh, vR s11, vI wo, vR s13, vI dn, vI mi, vI fl, vI tk, vI go]] hq9
  refine lv_dup2_11 hx hb dX6_throwFrom_10 rfl rfl ?_
  refine va_iald hx hb hG.1 hP 0 0 rfl rfl (iI_in (by omega) (by decide)) dX6_throwFrom_11 ?_
  refine lt_z (fun z_1 ez_1 lz_1 hz_1 => ?_)
  refine lv_iload_n hx hb dX6_throwFrom_12 rfl (lv_at hlv 3 rfl) ?_
  refine lv_isub hx hb dX6_throwFrom_13 ?_
  refine lt_z (fun z_2 ez_2 lz_2 hz_2 => ?_)
  refine va_iast hx hb hG.1 hP hD hS 0 0 rfl rfl (iI_in (by omega) (by decide)) dX6_throwFrom_14 (fun H locs hP hD hS => ?_)
  obtain ⟨f_3, hP, hD⟩ := pe9 (fun f_3 => [zI s3 (cy 0) 96 f_3, zO sA 6 [vI wi, vI ro, vR s2, vR s3, vI dr, vI dt, vR s6, vI pe, vR s8, vI gu, vI sh, vR s11, vI wo, vR s13, vI dn, vI mi, vI fl, vI tk, vI go]]) _ hP hD
  refine lv_iconst (v := iI 0) hx hb dX6_throwFrom_15 (by decide) ?_
  refine lv_istore (lv' := [(4, vI 0), (0, vR sA), (1, vI x), (2, vI y), (3, vI t)]) hx hb dX6_throwFrom_16 hlv (by decide) rfl (fun ls hlv => ?_)
  refine lv_iload_n hx hb dX6_throwFrom_18 rfl (lv_at hlv 3 rfl) ?_
  refine lv_iconst (v := iI 1) hx hb dX6_throwFrom_19 (by decide) ?_
  refine lv_iadd hx hb dX6_throwFrom_20 ?_
  refine lt_e (e0 := y + 1) (Int32.ofInt_add _ _).symm (fun z_4 hz_4 => ?_)
  refine lv_aload_n hx hb dX6_throwFrom_21 rfl (lv_at hlv 1 rfl) ?_
  refine va_get (D := D) (ci := 6) (v := vI ro) (C := RX6) (T := TX6) (N := 19) hx hb hts hi6 hown hG.1 hP 1 rfl rfl 1 (by decide) lf32 (fun _ h9 => h9) rfl dX6_throwFrom_22 ?_
  refine ir_ge (tgt := 51) hx hb dX6_throwFrom_25 (by decide) (by omega) (by first | exact rgw hr_ro (by decide) (by decide) | omega) (fun c_5 => ?_) (fun c_5 => ?_)
  · refine lv_aload_n hx hb dX6_throwFrom_51 rfl (lv_at hlv 1 rfl) ?_
    refine lv_dup hx hb dX6_throwFrom_52 rfl ?_
    refine va_get (D := D) (ci := 6) (v := vI go) (C := RX6) (T := TX6) (N := 19) hx hb hts hi6 hown hG.1 hP 1 rfl rfl 18 (by decide) lf71 (fun _ h9 => h9) rfl dX6_throwFrom_53 ?_
    refine lv_iload_n hx hb dX6_throwFrom_56 rfl (lv_at hlv 4 rfl) ?_
    refine lv_iload hx hb dX6_throwFrom_57 (lv_at hlv 0 rfl) ?_
    refine lv_isub hx hb dX6_throwFrom_59 ?_
    refine lt_e (e0 := t - 0) (Int32.ofInt_sub _ _).symm (fun z_6 hz_6 => ?_)
    refine lv_iadd hx hb dX6_throwFrom_60 ?_
    refine lt_z (fun z_7 ez_7 lz_7 hz_7 => ?_)
    refine va_put (D := D) (ci := 6) (v := vI z_7) (ty := .int) (C := RX6) (T := TX6) (N := 19) hx hb hts hi6 tyX6 tyX6_ok nmX6 hown hG.1 hP hD hS 1 rfl rfl 18 (by decide) lf71 (fun _ h9 => h9) rfl (by decide +kernel) rfl rfl (Nat.le_of_ble_eq_true rfl) dX6_throwFrom_61 (fun H locs hP hD hS => ?_)
    obtain ⟨hP, hD⟩ := pw9 [zI s3 (cy 0) 96 f_3, zO sA 6 [vI wi, vI ro, vR s2, vR s3, vI dr, vI dt, vR s6, vI pe, vR s8, vI gu, vI sh, vR s11, vI wo, vR s13, vI dn, vI mi, vI fl, vI tk, vI z_7]] hP hD
    refine W.widen (k := 0) (n := 0) (Nat.le_of_ble_eq_true rfl) (Nat.le_of_ble_eq_true rfl) ?_
    exact W.vret hx hb hr (fun t ht hW => ⟨⟨((fun k => ([] : List Nat).getD k 0), (fun k => ([z_7] : List Int).getD k 0), (fun k => ([f_3] : List (Nat → Int32)).getD k (fun _ => 0))), rfl, (by show ((-2147483648) ≤ z_7 ∧ z_7 ≤ 2147483647); omega), at9 ht hP hD [1, 0] (by decide +kernel) rfl⟩, hS.F ht⟩) hS.2.2 dX6_throwFrom_64
  · refine lv_iload_n hx hb dX6_throwFrom_28 rfl (lv_at hlv 4 rfl) ?_
    refine lv_iconst (v := iI 2) hx hb dX6_throwFrom_29 (by decide) ?_
    refine lv_idiv hx hb dX6_throwFrom_30 (fun q => absurd ((iI_eq (a := 2) (b := 0) (by omega) (by omega)).mp q) (by omega)) ?_
    refine lt_z (fun z_8 ez_8 lz_8 hz_8 => ?_)
    refine lv_istore (lv' := [(4, vI z_8), (0, vR sA), (1, vI x), (2, vI y), (3, vI t)]) hx hb dX6_throwFrom_31 hlv (by decide) rfl (fun ls hlv => ?_)
    refine lv_aload_n hx hb dX6_throwFrom_33 rfl (lv_at hlv 1 rfl) ?_
    refine va_get (D := D) (ci := 6) (v := vR s3) (C := RX6) (T := TX6) (N := 19) hx hb hts hi6 hown hG.1 hP 1 rfl rfl 3 (by decide) lf13 (fun _ h9 => h9) rfl dX6_throwFrom_34 ?_
    refine lv_aload_n hx hb dX6_throwFrom_37 rfl (lv_at hlv 1 rfl) ?_
    refine lv_iload_n hx hb dX6_throwFrom_38 rfl (lv_at hlv 2 rfl) ?_
    refine lv_iload_n hx hb dX6_throwFrom_39 rfl (lv_at hlv 3 rfl) ?_
    refine lv_iconst (v := iI 1) hx hb dX6_throwFrom_40 (by decide) ?_
    refine lv_iadd hx hb dX6_throwFrom_41 ?_
    refine lt_e (e0 := y + 1) (Int32.ofInt_add _ _).symm (fun z_9 hz_9 => ?_)
    refine cjr_i [true, false] (fun pre9 => (va_runV (As := [vI x, vI z_9]) (rest := [vR s3]) ⟨hx, hb, hml, hown, hts⟩ (s_index l hl D cy sa sA s2 s3 s6 s8 s11 s13 wi ro dr dt pe gu sh wo dn mi fl tk go x z_9 H.size (by first | exact hr_wi | omega) (by first | exact hr_ro | omega) (by first | exact hr_dr | omega) (by first | exact hr_dt | omega) (by first | exact hr_pe | omega) (by first | exact hr_gu | omega) (by first | exact hr_sh | omega) (by first | exact hr_wo | omega) (by first | exact hr_dn | omega) (by first | exact hr_mi | omega) (by first | exact hr_fl | omega) (by first | exact hr_tk | omega) (by first | exact hr_go | omega) (by first | exact hr_x | omega) (by omega)) (cwV 2 hts gg_1 rfl rfl rfl (by decide +kernel) ⟨Nat.le_of_ble_eq_true rfl, Nat.le_of_ble_eq_true rfl⟩) ⟨pcW.blind, (va_recv hG.1 hP (ci := 6) (q0 := 1) rfl rfl), pre9⟩ rfl rfl hlv.1 rfl (lv_room (Nat.le_of_ble_eq_true rfl)) dX6_throwFrom_42 ⟨Nat.le_of_ble_eq_true rfl, Nat.le_of_ble_eq_true rfl⟩)) hP hD hS hA hG hT [1] rfl (by decide +kernel) (fun r2 u2 H locs hw2 hq9 hS => ?_)
    obtain ⟨rfl, hq2_1⟩ := hw2
    obtain ⟨hP, hD⟩ := pd9 [zI s3 (cy 0) 96 f_3, zO sA 6 [vI wi, vI ro, vR s2, vR s3, vI dr, vI dt, vR s6, vI pe, vR s8, vI gu, vI sh, vR s11, vI wo, vR s13, vI dn, vI mi, vI fl, vI tk, vI go]] hq9
    refine lv_dup2_11 hx hb dX6_throwFrom_45 rfl rfl ?_
    refine va_iald hx hb hG.1 hP 0 0 rfl rfl (iI_in (by omega) (by decide)) dX6_throwFrom_46 ?_
    refine lt_z (fun z_10 ez_10 lz_10 hz_10 => ?_)
    refine lv_iload hx hb dX6_throwFrom_47 (lv_at hlv 0 rfl) ?_
    refine lv_iadd hx hb dX6_throwFrom_49 ?_
    refine lt_z (fun z_11 ez_11 lz_11 hz_11 => ?_)
    refine va_iast hx hb hG.1 hP hD hS 0 0 rfl rfl (iI_in (by omega) (by decide)) dX6_throwFrom_50 (fun H locs hP hD hS => ?_)
    obtain ⟨f_12, hP, hD⟩ := pe9 (fun f_12 => [zI s3 (cy 0) 96 f_12, zO sA 6 [vI wi, vI ro, vR s2, vR s3, vI dr, vI dt, vR s6, vI pe, vR s8, vI gu, vI sh, vR s11, vI wo, vR s13, vI dn, vI mi, vI fl, vI tk, vI go]]) _ hP hD
    refine lv_aload_n hx hb dX6_throwFrom_51 rfl (lv_at hlv 1 rfl) ?_
    refine lv_dup hx hb dX6_throwFrom_52 rfl ?_
    refine va_get (D := D) (ci := 6) (v := vI go) (C := RX6) (T := TX6) (N := 19) hx hb hts hi6 hown hG.1 hP 1 rfl rfl 18 (by decide) lf71 (fun _ h9 => h9) rfl dX6_throwFrom_53 ?_
    refine lv_iload_n hx hb dX6_throwFrom_56 rfl (lv_at hlv 4 rfl) ?_
    refine lv_iload hx hb dX6_throwFrom_57 (lv_at hlv 0 rfl) ?_
    refine lv_isub hx hb dX6_throwFrom_59 ?_
    refine lt_z (fun z_13 ez_13 lz_13 hz_13 => ?_)
    refine lv_iadd hx hb dX6_throwFrom_60 ?_
    refine lt_z (fun z_14 ez_14 lz_14 hz_14 => ?_)
    refine va_put (D := D) (ci := 6) (v := vI z_14) (ty := .int) (C := RX6) (T := TX6) (N := 19) hx hb hts hi6 tyX6 tyX6_ok nmX6 hown hG.1 hP hD hS 1 rfl rfl 18 (by decide) lf71 (fun _ h9 => h9) rfl (by decide +kernel) rfl rfl (Nat.le_of_ble_eq_true rfl) dX6_throwFrom_61 (fun H locs hP hD hS => ?_)
    obtain ⟨hP, hD⟩ := pw9 [zI s3 (cy 0) 96 f_12, zO sA 6 [vI wi, vI ro, vR s2, vR s3, vI dr, vI dt, vR s6, vI pe, vR s8, vI gu, vI sh, vR s11, vI wo, vR s13, vI dn, vI mi, vI fl, vI tk, vI z_14]] hP hD
    refine W.widen (k := 0) (n := 0) (Nat.le_of_ble_eq_true rfl) (Nat.le_of_ble_eq_true rfl) ?_
    exact W.vret hx hb hr (fun t ht hW => ⟨⟨((fun k => ([] : List Nat).getD k 0), (fun k => ([z_14] : List Int).getD k 0), (fun k => ([f_12] : List (Nat → Int32)).getD k (fun _ => 0))), rfl, (by show ((-2147483648) ≤ z_14 ∧ z_14 ≤ 2147483647); omega), at9 ht hP hD [1, 0] (by decide +kernel) rfl⟩, hS.F ht⟩) hS.2.2 dX6_throwFrom_64
def vs_s_stepAll : List Cond := .code yX6_stepAll cX6_stepAll 3 none :: (([.fieldLink RX6 47 "KerbSplash$Street" "persons" "I", .fieldLink RX6 19 "KerbSplash$Street" "person" "[I"] : List Cond) ++ ((wsX60) ++ ([])))
theorem gd_s_stepAll : vs_s_stepAll.all goodWord = true := gd_C (by decide +kernel) (gd_A (by decide +kernel) (gd_A (by decide +kernel) rfl))
set_option maxHeartbeats 4000000 in
set_option maxRecDepth 100000 in
theorem s_stepAll (l : Launch) (hl : l.stackTraces = false) (D : va_G) (cy : Nat → ClassId) (sa : Nat → Nat) (sA s2 s3 s6 s8 s11 s13 : Nat) (wi ro dr dt pe gu sh wo dn mi fl tk go : Int) (pf : Nat → Int32) (n : Int) (sz : Nat) (hr_wi : 0 ≤ wi ∧ wi ≤ 16) (hr_ro : 0 ≤ ro ∧ ro ≤ 6) (hr_dr : 0 ≤ dr ∧ dr ≤ 14) (hr_dt : 0 ≤ dt ∧ dt ≤ 6) (hr_pe : 0 ≤ pe ∧ pe ≤ 8) (hr_gu : 0 ≤ gu ∧ gu ≤ 20) (hr_sh : 0 ≤ sh ∧ sh ≤ 2) (hr_wo : 0 ≤ wo ∧ wo ≤ 8) (hr_dn : (-2147483648) ≤ dn ∧ dn ≤ 2147483647) (hr_mi : 0 ≤ mi ∧ mi ≤ 600) (hr_fl : (-2147483648) ≤ fl ∧ fl ≤ 2147483647) (hr_tk : (-2147483648) ≤ tk ∧ tk ≤ 2147483647) (hr_go : (-2147483648) ≤ go ∧ go ≤ 2147483647) (hr_n : (-2147483648) ≤ n ∧ n ≤ 2147483647) (hpf : tab_ 4 28 [(-2147483648), 0, (-2147483648), (-2147483648)] [2147483647, 19, 2147483647, 2147483647] pf) : mV9 l yX6_stepAll vs_s_stepAll ({ frames := 0, cells := 0, slots := 0, locals := 0 }) D cy sa sz [vR sA, vI n] [zO sA 6 [vI wi, vI ro, vR s2, vR s3, vI dr, vI dt, vR s6, vI pe, vR s8, vI gu, vI sh, vR s11, vI wo, vR s13, vI dn, vI mi, vI fl, vI tk, vI go], zI s8 (cy 0) 112 pf] (fun u : SV => tab_ 4 28 [(-2147483648), 0, (-2147483648), (-2147483648)] [2147483647, 19, 2147483647, 2147483647] (u.2.2 0)) (fun u : SV => [zO sA 6 [vI wi, vI ro, vR s2, vR s3, vI dr, vI dt, vR s6, vI pe, vR s8, vI gu, vI sh, vR s11, vI wo, vR s13, vI dn, vI mi, vI fl, vI tk, vI go], zI s8 (cy 0) 112 (u.2.2 0)]) 0 0 := by
  refine Met.ofW (cc := cX6_stepAll) (maxL := 3) (ret := none) (by decide) rfl ?_
  intro p e s m args below meth c s₁ B hml hv
  obtain ⟨rfl, hsz, hP, hG, hD0, hT⟩ := hv
  have hx := B.exec
  have hb := B.bytes
  have hr := B.returns
  have hts := atoms_spec (ws := vs_s_stepAll) B.pre
  have hown : s.vm.findClass RX6 = some m.cls := findClass_of_methodNamed B.named
  have hlocks := B.notSynchronized
  subst hsz
  have hD := hD0.self (sz := s.heap.size)
  generalize hAe : va_A [zO sA 6 [vI wi, vI ro, vR s2, vR s3, vI dr, vI dt, vR s6, vI pe, vR s8, vI gu, vI sh, vR s11, vI wo, vR s13, vI dn, vI mi, vI fl, vI tk, vI go], zI s8 (cy 0) 112 pf] s.heap.size = A at hD hT ⊢
  have hA : ∀ q : Nat, s.heap.size ≤ q → A q := fun q h => by rw [← hAe]; exact Or.inr h
  have hS : va_S A s.heap s.heap [] := va_S.rf
  have hl0 := lv_entry ([vR sA, vI n]) (n := 3) (Nat.le_of_ble_eq_true rfl)
  rw [lg_entry_eq]
  generalize (lg_sl ([vR sA, vI n]) ++ List.replicate (3 - (lg_sl ([vR sA, vI n])).length) Slot.unset).toArray = ls at hl0 ⊢
  have hlv : lv_has ls 3 [(0, vR sA), (1, vI n)] := hl0
  have lf47 := hts (.fieldLink RX6 47 "KerbSplash$Street" "persons" "I") (List.mem_of_getElem? (i := 1) rfl)
  have hi6 : ∀ w ∈ wsX60, w ∈ vs_s_stepAll := fun w h => List.mem_cons_of_mem _ (List.mem_append_right _ (List.mem_append_left _ h))
  have lf19 := hts (.fieldLink RX6 19 "KerbSplash$Street" "person" "[I") (List.mem_of_getElem? (i := 2) rfl)
  refine lv_iconst (v := iI 0) hx hb dX6_stepAll_0 (by decide) ?_
  refine lv_istore_n (lv' := [(2, vI 0), (0, vR sA), (1, vI n)]) hx hb dX6_stepAll_1 rfl hlv (by decide) rfl (fun ls hlv => ?_)
  refine (?_ : ∀ (fu : Nat) (q : Int) (pg : Nat → Int32) (H : Heap) (locs : List Loc) (ls : Array Slot), 8 - q < (fu : Int) → (0 ≤ q ∧ q ≤ 8) → tab_ 4 28 [(-2147483648), 0, (-2147483648), (-2147483648)] [2147483647, 19, 2147483647, 2147483647] pg → va_P D vwCl [zO sA 6 [vI wi, vI ro, vR s2, vR s3, vI dr, vI dt, vR s6, vI pe, vR s8, vI gu, vI sh, vR s11, vI wo, vR s13, vI dn, vI mi, vI fl, vI tk, vI go], zI s8 (cy 0) 112 pg] H → va_D A [zO sA 6 [vI wi, vI ro, vR s2, vR s3, vI dr, vI dt, vR s6, vI pe, vR s8, vI gu, vI sh, vR s11, vI wo, vR s13, vI dn, vI mi, vI fl, vI tk, vI go], zI s8 (cy 0) 112 pg] → va_S A s.heap H locs → lv_has ls 3 [(2, vI q), (0, vR sA), (1, vI n)] → W p l e _ s m _ below meth c H locs _ _ _ (F0 m 2 ls [])) (((8 - 0) + 1 : Int)).toNat 0 pf _ _ _ (by omega) (by show (0 : Int) ≤ 0 ∧ (0 : Int) ≤ 8; decide) hpf hP hD hS hlv
  clear hP hD hS hlv
  intro fu
  induction fu with
  | zero => intro q pg H locs ls hm2 hl2_0 hipg hP hD hS hlv; omega
  | succ fu ih2 =>
    intro q pg H locs ls hm2 hl2_0 hipg hP hD hS hlv
    refine lv_iload_n hx hb dX6_stepAll_2 rfl (lv_at hlv 0 rfl) ?_
    refine lv_aload_n hx hb dX6_stepAll_3 rfl (lv_at hlv 1 rfl) ?_
    refine va_get (D := D) (ci := 6) (v := vI pe) (C := RX6) (T := TX6) (N := 19) hx hb hts hi6 hown hG.1 hP 0 rfl rfl 7 (by decide) lf47 (fun _ h9 => h9) rfl dX6_stepAll_4 ?_
    refine ir_ge (tgt := 28) hx hb dX6_stepAll_7 (by decide) (by first | exact rgw hl2_0 (by decide) (by decide) | omega) (by first | exact rgw hr_pe (by decide) (by decide) | omega) (fun c_1 => ?_) (fun c_1 => ?_)
    · refine W.widen (k := 0) (n := 0) (Nat.le_of_ble_eq_true rfl) (Nat.le_of_ble_eq_true rfl) ?_
      exact W.vret hx hb hr (fun t ht hW => ⟨⟨((fun k => ([] : List Nat).getD k 0), (fun k => ([] : List Int).getD k 0), (fun k => ([pg] : List (Nat → Int32)).getD k (fun _ => 0))), rfl, hipg, at9 ht hP hD [0, 1] (by decide +kernel) rfl⟩, hS.F ht⟩) hS.2.2 dX6_stepAll_28
    · refine lv_aload_n hx hb dX6_stepAll_10 rfl (lv_at hlv 1 rfl) ?_
      refine va_get (D := D) (ci := 6) (v := vR s8) (C := RX6) (T := TX6) (N := 19) hx hb hts hi6 hown hG.1 hP 0 rfl rfl 8 (by decide) lf19 (fun _ h9 => h9) rfl dX6_stepAll_11 ?_
      refine lv_iconst (v := iI 4) hx hb dX6_stepAll_14 (by decide) ?_
      refine lv_iload_n hx hb dX6_stepAll_15 rfl (lv_at hlv 0 rfl) ?_
      refine lv_imul hx hb dX6_stepAll_16 ?_
      refine lt_e (e0 := 4 * q) (Int32.ofInt_mul _ _).symm (fun z_2 hz_2 => ?_)
      refine lv_dup2_11 hx hb dX6_stepAll_17 rfl rfl ?_
      refine va_iald hx hb hG.1 hP 1 0 rfl rfl (iI_in (by omega) (by decide)) dX6_stepAll_18 ?_
      obtain ⟨z_3, ez_3, hz_3, lz_3⟩ := tab_rd hipg (e := z_2) (k := q) (c := 0) (a := (-2147483648)) (b := 2147483647) (by omega) (by omega) (by decide) (by omega) rfl rfl
      refine lt_i (y := iI z_3) ez_3 ?_
      refine lv_iload_n hx hb dX6_stepAll_19 rfl (lv_at hlv 2 rfl) ?_
      refine lv_iadd hx hb dX6_stepAll_20 ?_
      refine lt_z (fun z_4 ez_4 lz_4 hz_4 => ?_)
      refine va_iast hx hb hG.1 hP hD hS 1 0 rfl rfl (iI_in (by omega) (by decide)) dX6_stepAll_21 (fun H locs hP hD hS => ?_)
      obtain ⟨f_5, hf_5, hP, hD⟩ := pe9i (fun f_5 => tab_ 4 28 [(-2147483648), 0, (-2147483648), (-2147483648)] [2147483647, 19, 2147483647, 2147483647] f_5) (fun f_5 => [zO sA 6 [vI wi, vI ro, vR s2, vR s3, vI dr, vI dt, vR s6, vI pe, vR s8, vI gu, vI sh, vR s11, vI wo, vR s13, vI dn, vI mi, vI fl, vI tk, vI go], zI s8 (cy 0) 112 f_5]) (tab_wr hipg (e := z_2) (k := q) (c := 0) (a := (-2147483648)) (b := 2147483647) (by omega) (by omega) (by decide) (by omega) rfl rfl (by omega)) hP hD
      obtain ⟨z_6, hz_6⟩ : ∃ z : Int, z = q + 1 := ⟨_, rfl⟩
      refine lv_iinc (v := iI z_6) (lv' := [(2, vI z_6), (0, vR sA), (1, vI n)]) hx hb dX6_stepAll_22 hlv (k := 0) rfl (by rw [hz_6]; exact (Int32.ofInt_add _ _).symm) (by decide) rfl (fun ls hlv => ?_)
      refine lv_goto (tgt := 2) hx hb dX6_stepAll_25 (by decide) ?_
      exact ih2 z_6 f_5 H locs ls (by omega) (by omega) hf_5 (hP.sub [0, 1] rfl) (hD.sub [0, 1] (by decide) rfl) hS (lv_sub hlv [0, 1, 2] rfl)
