theorem dX12_readWork_0 : decode cX12_readWork 0 = .ok (.bipush 28, 2) := by decide +kernel
theorem dX12_readWork_10 : decode cX12_readWork 10 = .ok (.iadd, 1) := by decide +kernel
theorem dX12_readWork_100 : decode cX12_readWork 100 = .ok (.iload_n 1, 1) := by decide +kernel
theorem dX12_readWork_101 : decode cX12_readWork 101 = .ok (.iastore, 1) := by decide +kernel
theorem dX12_readWork_102 : decode cX12_readWork 102 = .ok (.aload_n 0, 1) := by decide +kernel
theorem dX12_readWork_103 : decode cX12_readWork 103 = .ok (.getfield 26, 3) := by decide +kernel
theorem dX12_readWork_106 : decode cX12_readWork 106 = .ok (.iload_n 2, 1) := by decide +kernel
theorem dX12_readWork_107 : decode cX12_readWork 107 = .ok (.iconst 1, 1) := by decide +kernel
theorem dX12_readWork_108 : decode cX12_readWork 108 = .ok (.iadd, 1) := by decide +kernel
theorem dX12_readWork_109 : decode cX12_readWork 109 = .ok (.iload_n 3, 1) := by decide +kernel
theorem dX12_readWork_11 : decode cX12_readWork 11 = .ok (.istore_n 2, 1) := by decide +kernel
theorem dX12_readWork_110 : decode cX12_readWork 110 = .ok (.iastore, 1) := by decide +kernel
theorem dX12_readWork_111 : decode cX12_readWork 111 = .ok (.aload_n 0, 1) := by decide +kernel
theorem dX12_readWork_112 : decode cX12_readWork 112 = .ok (.getfield 26, 3) := by decide +kernel
theorem dX12_readWork_115 : decode cX12_readWork 115 = .ok (.iload_n 2, 1) := by decide +kernel
theorem dX12_readWork_116 : decode cX12_readWork 116 = .ok (.iconst 2, 1) := by decide +kernel
theorem dX12_readWork_117 : decode cX12_readWork 117 = .ok (.iadd, 1) := by decide +kernel
theorem dX12_readWork_118 : decode cX12_readWork 118 = .ok (.iload 4, 2) := by decide +kernel
theorem dX12_readWork_12 : decode cX12_readWork 12 = .ok (.iload_n 1, 1) := by decide +kernel
theorem dX12_readWork_120 : decode cX12_readWork 120 = .ok (.iastore, 1) := by decide +kernel
theorem dX12_readWork_121 : decode cX12_readWork 121 = .ok (.aload_n 0, 1) := by decide +kernel
theorem dX12_readWork_122 : decode cX12_readWork 122 = .ok (.getfield 26, 3) := by decide +kernel
theorem dX12_readWork_125 : decode cX12_readWork 125 = .ok (.iload_n 2, 1) := by decide +kernel
theorem dX12_readWork_126 : decode cX12_readWork 126 = .ok (.iconst 3, 1) := by decide +kernel
theorem dX12_readWork_127 : decode cX12_readWork 127 = .ok (.iadd, 1) := by decide +kernel
theorem dX12_readWork_128 : decode cX12_readWork 128 = .ok (.iload 5, 2) := by decide +kernel
theorem dX12_readWork_13 : decode cX12_readWork 13 = .ok (.ifCond .ne 19, 3) := by decide +kernel
theorem dX12_readWork_130 : decode cX12_readWork 130 = .ok (.iastore, 1) := by decide +kernel
theorem dX12_readWork_131 : decode cX12_readWork 131 = .ok (.aload_n 0, 1) := by decide +kernel
theorem dX12_readWork_132 : decode cX12_readWork 132 = .ok (.getfield 26, 3) := by decide +kernel
theorem dX12_readWork_135 : decode cX12_readWork 135 = .ok (.iload_n 2, 1) := by decide +kernel
theorem dX12_readWork_136 : decode cX12_readWork 136 = .ok (.iconst 4, 1) := by decide +kernel
theorem dX12_readWork_137 : decode cX12_readWork 137 = .ok (.iadd, 1) := by decide +kernel
theorem dX12_readWork_138 : decode cX12_readWork 138 = .ok (.iload 6, 2) := by decide +kernel
theorem dX12_readWork_140 : decode cX12_readWork 140 = .ok (.iastore, 1) := by decide +kernel
theorem dX12_readWork_141 : decode cX12_readWork 141 = .ok (.aload_n 0, 1) := by decide +kernel
theorem dX12_readWork_142 : decode cX12_readWork 142 = .ok (.getfield 26, 3) := by decide +kernel
theorem dX12_readWork_145 : decode cX12_readWork 145 = .ok (.iconst 5, 1) := by decide +kernel
theorem dX12_readWork_146 : decode cX12_readWork 146 = .ok (.dup2, 1) := by decide +kernel
theorem dX12_readWork_147 : decode cX12_readWork 147 = .ok (.iaload, 1) := by decide +kernel
theorem dX12_readWork_148 : decode cX12_readWork 148 = .ok (.iconst 1, 1) := by decide +kernel
theorem dX12_readWork_149 : decode cX12_readWork 149 = .ok (.iadd, 1) := by decide +kernel
theorem dX12_readWork_150 : decode cX12_readWork 150 = .ok (.iastore, 1) := by decide +kernel
theorem dX12_readWork_151 : decode cX12_readWork 151 = .ok (.return_, 1) := by decide +kernel
theorem dX12_readWork_16 : decode cX12_readWork 16 = .ok (.aload_n 0, 1) := by decide +kernel
theorem dX12_readWork_17 : decode cX12_readWork 17 = .ok (.iconst 0, 1) := by decide +kernel
theorem dX12_readWork_18 : decode cX12_readWork 18 = .ok (.aload_n 0, 1) := by decide +kernel
theorem dX12_readWork_19 : decode cX12_readWork 19 = .ok (.getfield 26, 3) := by decide +kernel
theorem dX12_readWork_2 : decode cX12_readWork 2 = .ok (.iconst 5, 1) := by decide +kernel
theorem dX12_readWork_22 : decode cX12_readWork 22 = .ok (.iconst 2, 1) := by decide +kernel
theorem dX12_readWork_23 : decode cX12_readWork 23 = .ok (.iaload, 1) := by decide +kernel
theorem dX12_readWork_24 : decode cX12_readWork 24 = .ok (.iconst 1, 1) := by decide +kernel
theorem dX12_readWork_25 : decode cX12_readWork 25 = .ok (.isub, 1) := by decide +kernel
theorem dX12_readWork_26 : decode cX12_readWork 26 = .ok (.invokevirtual 123, 3) := by decide +kernel
theorem dX12_readWork_29 : decode cX12_readWork 29 = .ok (.goto 7, 3) := by decide +kernel
theorem dX12_readWork_3 : decode cX12_readWork 3 = .ok (.aload_n 0, 1) := by decide +kernel
theorem dX12_readWork_32 : decode cX12_readWork 32 = .ok (.aload_n 0, 1) := by decide +kernel
theorem dX12_readWork_33 : decode cX12_readWork 33 = .ok (.invokevirtual 127, 3) := by decide +kernel
theorem dX12_readWork_36 : decode cX12_readWork 36 = .ok (.istore_n 3, 1) := by decide +kernel
theorem dX12_readWork_37 : decode cX12_readWork 37 = .ok (.iload_n 1, 1) := by decide +kernel
theorem dX12_readWork_38 : decode cX12_readWork 38 = .ok (.ifCond .ne 7, 3) := by decide +kernel
theorem dX12_readWork_4 : decode cX12_readWork 4 = .ok (.getfield 26, 3) := by decide +kernel
theorem dX12_readWork_41 : decode cX12_readWork 41 = .ok (.iconst 0, 1) := by decide +kernel
theorem dX12_readWork_42 : decode cX12_readWork 42 = .ok (.goto 7, 3) := by decide +kernel
theorem dX12_readWork_45 : decode cX12_readWork 45 = .ok (.aload_n 0, 1) := by decide +kernel
theorem dX12_readWork_46 : decode cX12_readWork 46 = .ok (.invokevirtual 130, 3) := by decide +kernel
theorem dX12_readWork_49 : decode cX12_readWork 49 = .ok (.istore 4, 2) := by decide +kernel
theorem dX12_readWork_51 : decode cX12_readWork 51 = .ok (.iload_n 1, 1) := by decide +kernel
theorem dX12_readWork_52 : decode cX12_readWork 52 = .ok (.ifCond .ne 7, 3) := by decide +kernel
theorem dX12_readWork_55 : decode cX12_readWork 55 = .ok (.iconst 0, 1) := by decide +kernel
theorem dX12_readWork_56 : decode cX12_readWork 56 = .ok (.goto 20, 3) := by decide +kernel
theorem dX12_readWork_59 : decode cX12_readWork 59 = .ok (.aload_n 0, 1) := by decide +kernel
theorem dX12_readWork_60 : decode cX12_readWork 60 = .ok (.iconst 1, 1) := by decide +kernel
theorem dX12_readWork_61 : decode cX12_readWork 61 = .ok (.iload_n 1, 1) := by decide +kernel
theorem dX12_readWork_62 : decode cX12_readWork 62 = .ok (.iconst 3, 1) := by decide +kernel
theorem dX12_readWork_63 : decode cX12_readWork 63 = .ok (.if_icmp .ne 8, 3) := by decide +kernel
theorem dX12_readWork_66 : decode cX12_readWork 66 = .ok (.bipush 99, 2) := by decide +kernel
theorem dX12_readWork_68 : decode cX12_readWork 68 = .ok (.goto 5, 3) := by decide +kernel
theorem dX12_readWork_7 : decode cX12_readWork 7 = .ok (.iconst 5, 1) := by decide +kernel
theorem dX12_readWork_71 : decode cX12_readWork 71 = .ok (.bipush 50, 2) := by decide +kernel
theorem dX12_readWork_73 : decode cX12_readWork 73 = .ok (.invokevirtual 123, 3) := by decide +kernel
theorem dX12_readWork_76 : decode cX12_readWork 76 = .ok (.istore 5, 2) := by decide +kernel
theorem dX12_readWork_78 : decode cX12_readWork 78 = .ok (.aload_n 0, 1) := by decide +kernel
theorem dX12_readWork_79 : decode cX12_readWork 79 = .ok (.iconst 1, 1) := by decide +kernel
theorem dX12_readWork_8 : decode cX12_readWork 8 = .ok (.iaload, 1) := by decide +kernel
theorem dX12_readWork_80 : decode cX12_readWork 80 = .ok (.bipush 99, 2) := by decide +kernel
theorem dX12_readWork_82 : decode cX12_readWork 82 = .ok (.invokevirtual 123, 3) := by decide +kernel
theorem dX12_readWork_85 : decode cX12_readWork 85 = .ok (.istore 6, 2) := by decide +kernel
theorem dX12_readWork_87 : decode cX12_readWork 87 = .ok (.aload_n 0, 1) := by decide +kernel
theorem dX12_readWork_88 : decode cX12_readWork 88 = .ok (.invokevirtual 109, 3) := by decide +kernel
theorem dX12_readWork_9 : decode cX12_readWork 9 = .ok (.imul, 1) := by decide +kernel
theorem dX12_readWork_91 : decode cX12_readWork 91 = .ok (.ifCond .ne 4, 3) := by decide +kernel
theorem dX12_readWork_94 : decode cX12_readWork 94 = .ok (.return_, 1) := by decide +kernel
theorem dX12_readWork_95 : decode cX12_readWork 95 = .ok (.aload_n 0, 1) := by decide +kernel
theorem dX12_readWork_96 : decode cX12_readWork 96 = .ok (.getfield 26, 3) := by decide +kernel
theorem dX12_readWork_99 : decode cX12_readWork 99 = .ok (.iload_n 2, 1) := by decide +kernel