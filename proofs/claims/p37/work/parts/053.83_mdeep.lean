theorem dX12_blame_0 : decode cX12_blame 0 = .ok (.aload_n 0, 1) := by decide +kernel
theorem dX12_blame_1 : decode cX12_blame 1 = .ok (.iconst 0, 1) := by decide +kernel
theorem dX12_blame_100 : decode cX12_blame 100 = .ok (.iadd, 1) := by decide +kernel
theorem dX12_blame_101 : decode cX12_blame 101 = .ok (.iconst 0, 1) := by decide +kernel
theorem dX12_blame_102 : decode cX12_blame 102 = .ok (.iastore, 1) := by decide +kernel
theorem dX12_blame_103 : decode cX12_blame 103 = .ok (.aload_n 0, 1) := by decide +kernel
theorem dX12_blame_104 : decode cX12_blame 104 = .ok (.iload_n 1, 1) := by decide +kernel
theorem dX12_blame_105 : decode cX12_blame 105 = .ok (.iload_n 2, 1) := by decide +kernel
theorem dX12_blame_106 : decode cX12_blame 106 = .ok (.iload_n 3, 1) := by decide +kernel
theorem dX12_blame_107 : decode cX12_blame 107 = .ok (.invokestatic 289, 3) := by decide +kernel
theorem dX12_blame_110 : decode cX12_blame 110 = .ok (.invokevirtual 384, 3) := by decide +kernel
theorem dX12_blame_113 : decode cX12_blame 113 = .ok (.istore 9, 2) := by decide +kernel
theorem dX12_blame_115 : decode cX12_blame 115 = .ok (.aload_n 0, 1) := by decide +kernel
theorem dX12_blame_116 : decode cX12_blame 116 = .ok (.invokevirtual 387, 3) := by decide +kernel
theorem dX12_blame_119 : decode cX12_blame 119 = .ok (.iload 9, 2) := by decide +kernel
theorem dX12_blame_12 : decode cX12_blame 12 = .ok (.ifCond .eq 36, 3) := by decide +kernel
theorem dX12_blame_121 : decode cX12_blame 121 = .ok (.iload 7, 2) := by decide +kernel
theorem dX12_blame_123 : decode cX12_blame 123 = .ok (.if_icmp .lt 6, 3) := by decide +kernel
theorem dX12_blame_126 : decode cX12_blame 126 = .ok (.goto 11, 3) := by decide +kernel
theorem dX12_blame_129 : decode cX12_blame 129 = .ok (.iload 8, 2) := by decide +kernel
theorem dX12_blame_131 : decode cX12_blame 131 = .ok (.istore 6, 2) := by decide +kernel
theorem dX12_blame_133 : decode cX12_blame 133 = .ok (.iload 9, 2) := by decide +kernel
theorem dX12_blame_135 : decode cX12_blame 135 = .ok (.istore 7, 2) := by decide +kernel
theorem dX12_blame_137 : decode cX12_blame 137 = .ok (.iinc 8 1, 3) := by decide +kernel
theorem dX12_blame_140 : decode cX12_blame 140 = .ok (.goto (-60), 3) := by decide +kernel
theorem dX12_blame_143 : decode cX12_blame 143 = .ok (.iload 4, 2) := by decide +kernel
theorem dX12_blame_145 : decode cX12_blame 145 = .ok (.ifCond .ne 8, 3) := by decide +kernel
theorem dX12_blame_148 : decode cX12_blame 148 = .ok (.iload 6, 2) := by decide +kernel
theorem dX12_blame_15 : decode cX12_blame 15 = .ok (.aload_n 0, 1) := by decide +kernel
theorem dX12_blame_150 : decode cX12_blame 150 = .ok (.goto 8, 3) := by decide +kernel
theorem dX12_blame_153 : decode cX12_blame 153 = .ok (.iload 5, 2) := by decide +kernel
theorem dX12_blame_155 : decode cX12_blame 155 = .ok (.iload 7, 2) := by decide +kernel
theorem dX12_blame_157 : decode cX12_blame 157 = .ok (.isub, 1) := by decide +kernel
theorem dX12_blame_158 : decode cX12_blame 158 = .ok (.ireturn, 1) := by decide +kernel
theorem dX12_blame_16 : decode cX12_blame 16 = .ok (.iload_n 1, 1) := by decide +kernel
theorem dX12_blame_17 : decode cX12_blame 17 = .ok (.iconst 2, 1) := by decide +kernel
theorem dX12_blame_18 : decode cX12_blame 18 = .ok (.invokevirtual 324, 3) := by decide +kernel
theorem dX12_blame_2 : decode cX12_blame 2 = .ok (.putfield 1, 3) := by decide +kernel
theorem dX12_blame_21 : decode cX12_blame 21 = .ok (.ifCond .eq 27, 3) := by decide +kernel
theorem dX12_blame_24 : decode cX12_blame 24 = .ok (.aload_n 0, 1) := by decide +kernel
theorem dX12_blame_25 : decode cX12_blame 25 = .ok (.iload 4, 2) := by decide +kernel
theorem dX12_blame_27 : decode cX12_blame 27 = .ok (.iconst 0, 1) := by decide +kernel
theorem dX12_blame_28 : decode cX12_blame 28 = .ok (.iconst 1, 1) := by decide +kernel
theorem dX12_blame_29 : decode cX12_blame 29 = .ok (.invokestatic 279, 3) := by decide +kernel
theorem dX12_blame_32 : decode cX12_blame 32 = .ok (.iconst 3, 1) := by decide +kernel
theorem dX12_blame_33 : decode cX12_blame 33 = .ok (.iconst 2, 1) := by decide +kernel
theorem dX12_blame_34 : decode cX12_blame 34 = .ok (.invokevirtual 175, 3) := by decide +kernel
theorem dX12_blame_37 : decode cX12_blame 37 = .ok (.ifCond .eq 11, 3) := by decide +kernel
theorem dX12_blame_40 : decode cX12_blame 40 = .ok (.aload_n 0, 1) := by decide +kernel
theorem dX12_blame_41 : decode cX12_blame 41 = .ok (.iconst 4, 1) := by decide +kernel
theorem dX12_blame_42 : decode cX12_blame 42 = .ok (.invokevirtual 312, 3) := by decide +kernel
theorem dX12_blame_45 : decode cX12_blame 45 = .ok (.ifCond .ne 5, 3) := by decide +kernel
theorem dX12_blame_48 : decode cX12_blame 48 = .ok (.iconst 0, 1) := by decide +kernel
theorem dX12_blame_49 : decode cX12_blame 49 = .ok (.ireturn, 1) := by decide +kernel
theorem dX12_blame_5 : decode cX12_blame 5 = .ok (.aload_n 0, 1) := by decide +kernel
theorem dX12_blame_50 : decode cX12_blame 50 = .ok (.aload_n 0, 1) := by decide +kernel
theorem dX12_blame_51 : decode cX12_blame 51 = .ok (.invokevirtual 381, 3) := by decide +kernel
theorem dX12_blame_54 : decode cX12_blame 54 = .ok (.aload_n 0, 1) := by decide +kernel
theorem dX12_blame_55 : decode cX12_blame 55 = .ok (.iload_n 1, 1) := by decide +kernel
theorem dX12_blame_56 : decode cX12_blame 56 = .ok (.iload_n 2, 1) := by decide +kernel
theorem dX12_blame_57 : decode cX12_blame 57 = .ok (.iload_n 3, 1) := by decide +kernel
theorem dX12_blame_58 : decode cX12_blame 58 = .ok (.invokestatic 289, 3) := by decide +kernel
theorem dX12_blame_6 : decode cX12_blame 6 = .ok (.iload_n 2, 1) := by decide +kernel
theorem dX12_blame_61 : decode cX12_blame 61 = .ok (.invokevirtual 384, 3) := by decide +kernel
theorem dX12_blame_64 : decode cX12_blame 64 = .ok (.istore 5, 2) := by decide +kernel
theorem dX12_blame_66 : decode cX12_blame 66 = .ok (.aload_n 0, 1) := by decide +kernel
theorem dX12_blame_67 : decode cX12_blame 67 = .ok (.invokevirtual 387, 3) := by decide +kernel
theorem dX12_blame_7 : decode cX12_blame 7 = .ok (.iload_n 3, 1) := by decide +kernel
theorem dX12_blame_70 : decode cX12_blame 70 = .ok (.iconst (-1), 1) := by decide +kernel
theorem dX12_blame_71 : decode cX12_blame 71 = .ok (.istore 6, 2) := by decide +kernel
theorem dX12_blame_73 : decode cX12_blame 73 = .ok (.iload 5, 2) := by decide +kernel
theorem dX12_blame_75 : decode cX12_blame 75 = .ok (.istore 7, 2) := by decide +kernel
theorem dX12_blame_77 : decode cX12_blame 77 = .ok (.iconst 0, 1) := by decide +kernel
theorem dX12_blame_78 : decode cX12_blame 78 = .ok (.istore 8, 2) := by decide +kernel
theorem dX12_blame_8 : decode cX12_blame 8 = .ok (.iconst 1, 1) := by decide +kernel
theorem dX12_blame_80 : decode cX12_blame 80 = .ok (.iload 8, 2) := by decide +kernel
theorem dX12_blame_82 : decode cX12_blame 82 = .ok (.aload_n 0, 1) := by decide +kernel
theorem dX12_blame_83 : decode cX12_blame 83 = .ok (.getfield 23, 3) := by decide +kernel
theorem dX12_blame_86 : decode cX12_blame 86 = .ok (.iconst 2, 1) := by decide +kernel
theorem dX12_blame_87 : decode cX12_blame 87 = .ok (.iaload, 1) := by decide +kernel
theorem dX12_blame_88 : decode cX12_blame 88 = .ok (.if_icmp .ge 55, 3) := by decide +kernel
theorem dX12_blame_9 : decode cX12_blame 9 = .ok (.invokevirtual 286, 3) := by decide +kernel
theorem dX12_blame_91 : decode cX12_blame 91 = .ok (.aload_n 0, 1) := by decide +kernel
theorem dX12_blame_92 : decode cX12_blame 92 = .ok (.getfield 29, 3) := by decide +kernel
theorem dX12_blame_95 : decode cX12_blame 95 = .ok (.sipush 192, 3) := by decide +kernel
theorem dX12_blame_98 : decode cX12_blame 98 = .ok (.iload 8, 2) := by decide +kernel
theorem dX12_comesBack_0 : decode cX12_comesBack 0 = .ok (.iconst 0, 1) := by decide +kernel
theorem dX12_comesBack_1 : decode cX12_comesBack 1 = .ok (.istore_n 1, 1) := by decide +kernel
theorem dX12_comesBack_10 : decode cX12_comesBack 10 = .ok (.getfield 29, 3) := by decide +kernel
theorem dX12_comesBack_13 : decode cX12_comesBack 13 = .ok (.iload_n 1, 1) := by decide +kernel
theorem dX12_comesBack_14 : decode cX12_comesBack 14 = .ok (.aload_n 0, 1) := by decide +kernel
theorem dX12_comesBack_15 : decode cX12_comesBack 15 = .ok (.getfield 35, 3) := by decide +kernel
theorem dX12_comesBack_18 : decode cX12_comesBack 18 = .ok (.iload_n 1, 1) := by decide +kernel
theorem dX12_comesBack_19 : decode cX12_comesBack 19 = .ok (.iaload, 1) := by decide +kernel
theorem dX12_comesBack_2 : decode cX12_comesBack 2 = .ok (.iload_n 1, 1) := by decide +kernel
theorem dX12_comesBack_20 : decode cX12_comesBack 20 = .ok (.iastore, 1) := by decide +kernel
theorem dX12_comesBack_21 : decode cX12_comesBack 21 = .ok (.iinc 1 1, 3) := by decide +kernel
theorem dX12_comesBack_24 : decode cX12_comesBack 24 = .ok (.goto (-22), 3) := by decide +kernel
theorem dX12_comesBack_27 : decode cX12_comesBack 27 = .ok (.return_, 1) := by decide +kernel
theorem dX12_comesBack_3 : decode cX12_comesBack 3 = .ok (.sipush 389, 3) := by decide +kernel
theorem dX12_comesBack_6 : decode cX12_comesBack 6 = .ok (.if_icmp .ge 21, 3) := by decide +kernel
theorem dX12_comesBack_9 : decode cX12_comesBack 9 = .ok (.aload_n 0, 1) := by decide +kernel
theorem dX12_deepBehind_0 : decode cX12_deepBehind 0 = .ok (.aload_n 0, 1) := by decide +kernel
theorem dX12_deepBehind_1 : decode cX12_deepBehind 1 = .ok (.iload_n 1, 1) := by decide +kernel
theorem dX12_deepBehind_10 : decode cX12_deepBehind 10 = .ok (.bipush 96, 2) := by decide +kernel
theorem dX12_deepBehind_12 : decode cX12_deepBehind 12 = .ok (.iload_n 2, 1) := by decide +kernel
theorem dX12_deepBehind_13 : decode cX12_deepBehind 13 = .ok (.iadd, 1) := by decide +kernel
theorem dX12_deepBehind_14 : decode cX12_deepBehind 14 = .ok (.iaload, 1) := by decide +kernel
theorem dX12_deepBehind_15 : decode cX12_deepBehind 15 = .ok (.ireturn, 1) := by decide +kernel
theorem dX12_deepBehind_2 : decode cX12_deepBehind 2 = .ok (.invokevirtual 328, 3) := by decide +kernel
theorem dX12_deepBehind_5 : decode cX12_deepBehind 5 = .ok (.pop, 1) := by decide +kernel
theorem dX12_deepBehind_6 : decode cX12_deepBehind 6 = .ok (.aload_n 0, 1) := by decide +kernel
theorem dX12_deepBehind_7 : decode cX12_deepBehind 7 = .ok (.getfield 29, 3) := by decide +kernel
theorem dX12_deep_0 : decode cX12_deep 0 = .ok (.aload_n 0, 1) := by decide +kernel
theorem dX12_deep_1 : decode cX12_deep 1 = .ok (.iconst 0, 1) := by decide +kernel
theorem dX12_deep_12 : decode cX12_deep 12 = .ok (.ifCond .eq 20, 3) := by decide +kernel
theorem dX12_deep_15 : decode cX12_deep 15 = .ok (.aload_n 0, 1) := by decide +kernel
theorem dX12_deep_16 : decode cX12_deep 16 = .ok (.iload_n 1, 1) := by decide +kernel
theorem dX12_deep_17 : decode cX12_deep 17 = .ok (.iconst 2, 1) := by decide +kernel
theorem dX12_deep_18 : decode cX12_deep 18 = .ok (.invokevirtual 324, 3) := by decide +kernel
theorem dX12_deep_2 : decode cX12_deep 2 = .ok (.putfield 1, 3) := by decide +kernel
theorem dX12_deep_21 : decode cX12_deep 21 = .ok (.ifCond .eq 11, 3) := by decide +kernel
theorem dX12_deep_24 : decode cX12_deep 24 = .ok (.aload_n 0, 1) := by decide +kernel
theorem dX12_deep_25 : decode cX12_deep 25 = .ok (.iconst 3, 1) := by decide +kernel
theorem dX12_deep_26 : decode cX12_deep 26 = .ok (.invokevirtual 312, 3) := by decide +kernel
theorem dX12_deep_29 : decode cX12_deep 29 = .ok (.ifCond .ne 5, 3) := by decide +kernel
theorem dX12_deep_32 : decode cX12_deep 32 = .ok (.iconst 0, 1) := by decide +kernel
theorem dX12_deep_33 : decode cX12_deep 33 = .ok (.ireturn, 1) := by decide +kernel
theorem dX12_deep_34 : decode cX12_deep 34 = .ok (.aload_n 0, 1) := by decide +kernel
theorem dX12_deep_35 : decode cX12_deep 35 = .ok (.invokevirtual 381, 3) := by decide +kernel
theorem dX12_deep_38 : decode cX12_deep 38 = .ok (.aload_n 0, 1) := by decide +kernel
theorem dX12_deep_39 : decode cX12_deep 39 = .ok (.iload_n 1, 1) := by decide +kernel
theorem dX12_deep_40 : decode cX12_deep 40 = .ok (.iload_n 2, 1) := by decide +kernel
theorem dX12_deep_41 : decode cX12_deep 41 = .ok (.iload_n 3, 1) := by decide +kernel
theorem dX12_deep_42 : decode cX12_deep 42 = .ok (.invokestatic 289, 3) := by decide +kernel
theorem dX12_deep_45 : decode cX12_deep 45 = .ok (.invokevirtual 384, 3) := by decide +kernel
theorem dX12_deep_48 : decode cX12_deep 48 = .ok (.istore 4, 2) := by decide +kernel
theorem dX12_deep_5 : decode cX12_deep 5 = .ok (.aload_n 0, 1) := by decide +kernel
theorem dX12_deep_50 : decode cX12_deep 50 = .ok (.aload_n 0, 1) := by decide +kernel
theorem dX12_deep_51 : decode cX12_deep 51 = .ok (.invokevirtual 387, 3) := by decide +kernel
theorem dX12_deep_54 : decode cX12_deep 54 = .ok (.iload 4, 2) := by decide +kernel
theorem dX12_deep_56 : decode cX12_deep 56 = .ok (.ireturn, 1) := by decide +kernel
theorem dX12_deep_6 : decode cX12_deep 6 = .ok (.iload_n 2, 1) := by decide +kernel
theorem dX12_deep_7 : decode cX12_deep 7 = .ok (.iload_n 3, 1) := by decide +kernel
theorem dX12_deep_8 : decode cX12_deep 8 = .ok (.iconst 1, 1) := by decide +kernel
theorem dX12_deep_9 : decode cX12_deep 9 = .ok (.invokevirtual 286, 3) := by decide +kernel
theorem dX12_keeps_0 : decode cX12_keeps 0 = .ok (.iconst 0, 1) := by decide +kernel
theorem dX12_keeps_1 : decode cX12_keeps 1 = .ok (.istore_n 1, 1) := by decide +kernel
theorem dX12_keeps_10 : decode cX12_keeps 10 = .ok (.getfield 35, 3) := by decide +kernel
theorem dX12_keeps_13 : decode cX12_keeps 13 = .ok (.iload_n 1, 1) := by decide +kernel
theorem dX12_keeps_14 : decode cX12_keeps 14 = .ok (.aload_n 0, 1) := by decide +kernel
theorem dX12_keeps_15 : decode cX12_keeps 15 = .ok (.getfield 29, 3) := by decide +kernel
theorem dX12_keeps_18 : decode cX12_keeps 18 = .ok (.iload_n 1, 1) := by decide +kernel
theorem dX12_keeps_19 : decode cX12_keeps 19 = .ok (.iaload, 1) := by decide +kernel
theorem dX12_keeps_2 : decode cX12_keeps 2 = .ok (.iload_n 1, 1) := by decide +kernel
theorem dX12_keeps_20 : decode cX12_keeps 20 = .ok (.iastore, 1) := by decide +kernel
theorem dX12_keeps_21 : decode cX12_keeps 21 = .ok (.iinc 1 1, 3) := by decide +kernel
theorem dX12_keeps_24 : decode cX12_keeps 24 = .ok (.goto (-22), 3) := by decide +kernel
theorem dX12_keeps_27 : decode cX12_keeps 27 = .ok (.return_, 1) := by decide +kernel
theorem dX12_keeps_3 : decode cX12_keeps 3 = .ok (.sipush 389, 3) := by decide +kernel
theorem dX12_keeps_6 : decode cX12_keeps 6 = .ok (.if_icmp .ge 21, 3) := by decide +kernel
theorem dX12_keeps_9 : decode cX12_keeps 9 = .ok (.aload_n 0, 1) := by decide +kernel
theorem dX12_when_0 : decode cX12_when 0 = .ok (.aload_n 0, 1) := by decide +kernel
theorem dX12_when_1 : decode cX12_when 1 = .ok (.iconst 0, 1) := by decide +kernel
theorem dX12_when_100 : decode cX12_when 100 = .ok (.iconst 0, 1) := by decide +kernel
theorem dX12_when_101 : decode cX12_when 101 = .ok (.putfield 318, 3) := by decide +kernel
theorem dX12_when_104 : decode cX12_when 104 = .ok (.aload_n 0, 1) := by decide +kernel
theorem dX12_when_105 : decode cX12_when 105 = .ok (.getfield 29, 3) := by decide +kernel
theorem dX12_when_108 : decode cX12_when 108 = .ok (.bipush 96, 2) := by decide +kernel
theorem dX12_when_110 : decode cX12_when 110 = .ok (.iload 5, 2) := by decide +kernel
theorem dX12_when_112 : decode cX12_when 112 = .ok (.iadd, 1) := by decide +kernel
theorem dX12_when_113 : decode cX12_when 113 = .ok (.iaload, 1) := by decide +kernel
theorem dX12_when_114 : decode cX12_when 114 = .ok (.iload 4, 2) := by decide +kernel
theorem dX12_when_116 : decode cX12_when 116 = .ok (.if_icmp .lt 8, 3) := by decide +kernel
theorem dX12_when_119 : decode cX12_when 119 = .ok (.iload 6, 2) := by decide +kernel
theorem dX12_when_12 : decode cX12_when 12 = .ok (.ifCond .eq 38, 3) := by decide +kernel
theorem dX12_when_121 : decode cX12_when 121 = .ok (.goto 4, 3) := by decide +kernel
theorem dX12_when_124 : decode cX12_when 124 = .ok (.iconst (-1), 1) := by decide +kernel
theorem dX12_when_125 : decode cX12_when 125 = .ok (.istore 7, 2) := by decide +kernel
theorem dX12_when_127 : decode cX12_when 127 = .ok (.aload_n 0, 1) := by decide +kernel
theorem dX12_when_128 : decode cX12_when 128 = .ok (.invokevirtual 387, 3) := by decide +kernel
theorem dX12_when_131 : decode cX12_when 131 = .ok (.iload 7, 2) := by decide +kernel
theorem dX12_when_133 : decode cX12_when 133 = .ok (.ireturn, 1) := by decide +kernel
theorem dX12_when_15 : decode cX12_when 15 = .ok (.aload_n 0, 1) := by decide +kernel
theorem dX12_when_16 : decode cX12_when 16 = .ok (.iload_n 1, 1) := by decide +kernel
theorem dX12_when_17 : decode cX12_when 17 = .ok (.iconst 2, 1) := by decide +kernel
theorem dX12_when_18 : decode cX12_when 18 = .ok (.invokevirtual 324, 3) := by decide +kernel
theorem dX12_when_2 : decode cX12_when 2 = .ok (.putfield 1, 3) := by decide +kernel
theorem dX12_when_21 : decode cX12_when 21 = .ok (.ifCond .eq 29, 3) := by decide +kernel
theorem dX12_when_24 : decode cX12_when 24 = .ok (.aload_n 0, 1) := by decide +kernel
theorem dX12_when_25 : decode cX12_when 25 = .ok (.iload 4, 2) := by decide +kernel
theorem dX12_when_27 : decode cX12_when 27 = .ok (.iconst 1, 1) := by decide +kernel
theorem dX12_when_28 : decode cX12_when 28 = .ok (.sipush 9999, 3) := by decide +kernel
theorem dX12_when_31 : decode cX12_when 31 = .ok (.invokestatic 279, 3) := by decide +kernel
theorem dX12_when_34 : decode cX12_when 34 = .ok (.iconst 3, 1) := by decide +kernel
theorem dX12_when_35 : decode cX12_when 35 = .ok (.iconst 2, 1) := by decide +kernel
theorem dX12_when_36 : decode cX12_when 36 = .ok (.invokevirtual 175, 3) := by decide +kernel
theorem dX12_when_39 : decode cX12_when 39 = .ok (.ifCond .eq 11, 3) := by decide +kernel
theorem dX12_when_42 : decode cX12_when 42 = .ok (.aload_n 0, 1) := by decide +kernel
theorem dX12_when_43 : decode cX12_when 43 = .ok (.iconst 4, 1) := by decide +kernel
theorem dX12_when_44 : decode cX12_when 44 = .ok (.invokevirtual 312, 3) := by decide +kernel
theorem dX12_when_47 : decode cX12_when 47 = .ok (.ifCond .ne 5, 3) := by decide +kernel
theorem dX12_when_5 : decode cX12_when 5 = .ok (.aload_n 0, 1) := by decide +kernel
theorem dX12_when_50 : decode cX12_when 50 = .ok (.iconst 0, 1) := by decide +kernel
theorem dX12_when_51 : decode cX12_when 51 = .ok (.ireturn, 1) := by decide +kernel
theorem dX12_when_52 : decode cX12_when 52 = .ok (.iload_n 2, 1) := by decide +kernel
theorem dX12_when_53 : decode cX12_when 53 = .ok (.iload_n 3, 1) := by decide +kernel
theorem dX12_when_54 : decode cX12_when 54 = .ok (.invokestatic 289, 3) := by decide +kernel
theorem dX12_when_57 : decode cX12_when 57 = .ok (.istore 5, 2) := by decide +kernel
theorem dX12_when_59 : decode cX12_when 59 = .ok (.aload_n 0, 1) := by decide +kernel
theorem dX12_when_6 : decode cX12_when 6 = .ok (.iload_n 2, 1) := by decide +kernel
theorem dX12_when_60 : decode cX12_when 60 = .ok (.getfield 29, 3) := by decide +kernel
theorem dX12_when_63 : decode cX12_when 63 = .ok (.bipush 96, 2) := by decide +kernel
theorem dX12_when_65 : decode cX12_when 65 = .ok (.iload 5, 2) := by decide +kernel
theorem dX12_when_67 : decode cX12_when 67 = .ok (.iadd, 1) := by decide +kernel
theorem dX12_when_68 : decode cX12_when 68 = .ok (.iaload, 1) := by decide +kernel
theorem dX12_when_69 : decode cX12_when 69 = .ok (.iload 4, 2) := by decide +kernel
theorem dX12_when_7 : decode cX12_when 7 = .ok (.iload_n 3, 1) := by decide +kernel
theorem dX12_when_71 : decode cX12_when 71 = .ok (.if_icmp .lt 5, 3) := by decide +kernel
theorem dX12_when_74 : decode cX12_when 74 = .ok (.iconst 0, 1) := by decide +kernel
theorem dX12_when_75 : decode cX12_when 75 = .ok (.ireturn, 1) := by decide +kernel
theorem dX12_when_76 : decode cX12_when 76 = .ok (.aload_n 0, 1) := by decide +kernel
theorem dX12_when_77 : decode cX12_when 77 = .ok (.invokevirtual 381, 3) := by decide +kernel
theorem dX12_when_8 : decode cX12_when 8 = .ok (.iconst 1, 1) := by decide +kernel
theorem dX12_when_80 : decode cX12_when 80 = .ok (.aload_n 0, 1) := by decide +kernel
theorem dX12_when_81 : decode cX12_when 81 = .ok (.iload 4, 2) := by decide +kernel
theorem dX12_when_83 : decode cX12_when 83 = .ok (.putfield 318, 3) := by decide +kernel
theorem dX12_when_86 : decode cX12_when 86 = .ok (.aload_n 0, 1) := by decide +kernel
theorem dX12_when_87 : decode cX12_when 87 = .ok (.iload 5, 2) := by decide +kernel
theorem dX12_when_89 : decode cX12_when 89 = .ok (.putfield 321, 3) := by decide +kernel
theorem dX12_when_9 : decode cX12_when 9 = .ok (.invokevirtual 286, 3) := by decide +kernel
theorem dX12_when_92 : decode cX12_when 92 = .ok (.aload_n 0, 1) := by decide +kernel
theorem dX12_when_93 : decode cX12_when 93 = .ok (.iload_n 1, 1) := by decide +kernel
theorem dX12_when_94 : decode cX12_when 94 = .ok (.invokevirtual 328, 3) := by decide +kernel
theorem dX12_when_97 : decode cX12_when 97 = .ok (.istore 6, 2) := by decide +kernel
theorem dX12_when_99 : decode cX12_when 99 = .ok (.aload_n 0, 1) := by decide +kernel
def vs_m_keeps : List Cond := .code yX12_keeps cX12_keeps 2 none :: (([.fieldLink RX12 35 "KerbSplashModel" "kept" "[I", .fieldLink RX12 29 "KerbSplashModel" "s" "[I"] : List Cond) ++ ((wsX120) ++ ([])))
theorem gd_m_keeps : vs_m_keeps.all goodWord = true := gd_C (by decide +kernel) (gd_A (by decide +kernel) (gd_A (by decide +kernel) rfl))
set_option maxHeartbeats 4000000 in
set_option maxRecDepth 100000 in
theorem m_keeps (l : Launch) (hl : l.stackTraces = false) (D : va_G) (cy : Nat → ClassId) (sa : Nat → Nat) (mm m1 m9 m10 m11 m12 m13 m14 m15 m19 m20 m21 m23 m24 m25 m26 m27 m28 m33 m35 : Nat) (th tp sz_ ap bad bk opn fp im nr nl sp_ wtc wcl ir ip shu sfa swr : Int) (f12 f14 : Nat → Int32) (qs : Nat → Int) (sz : Nat) (hr_th : (-2147483648) ≤ th ∧ th ≤ 2147483647) (hr_tp : 0 ≤ tp ∧ tp ≤ 600) (hr_sz_ : 0 ≤ sz_ ∧ sz_ ≤ 600) (hr_ap : 0 ≤ ap ∧ ap ≤ 602) (hr_bad : (-1) ≤ bad ∧ bad ≤ 602) (hr_bk : 0 ≤ bk ∧ bk ≤ 4) (hr_opn : 0 ≤ opn ∧ opn ≤ 7) (hr_fp : (-2147483648) ≤ fp ∧ fp ≤ 2147483647) (hr_im : 0 ≤ im ∧ im ≤ 3) (hr_nr : 0 ≤ nr ∧ nr ≤ 4) (hr_nl : 0 ≤ nl ∧ nl ≤ 4) (hr_sp_ : 0 ≤ sp_ ∧ sp_ ≤ 602) (hr_wtc : (-2147483648) ≤ wtc ∧ wtc ≤ 2147483647) (hr_wcl : 0 ≤ wcl ∧ wcl ≤ 95) (hr_ir : 0 ≤ ir ∧ ir ≤ 5) (hr_ip : (-2147483648) ≤ ip ∧ ip ≤ 2147483647) (hr_shu : (-2147483648) ≤ shu ∧ shu ≤ 2147483647) (hr_sfa : (-2147483648) ≤ sfa ∧ sfa ≤ 2147483647) (hr_swr : (-2147483648) ≤ swr ∧ swr ≤ 2147483647) (hf12 : SQ qs 8 f12) (hf14 : SI 8 f14) : mV9 l yX12_keeps vs_m_keeps ({ frames := 0, cells := 0, slots := 0, locals := 0 }) D cy sa sz [vR mm] [zO mm 12 [vI th, vR m1, vI tp, vI sz_, vI ap, vI bad, vI bk, vI opn, vI fp, vR m9, vR m10, vR m11, vR m12, vR m13, vR m14, vR m15, vI im, vI nr, vI nl, vR m19, vR m20, vR m21, vI sp_, vR m23, vR m24, vR m25, vR m26, vR m27, vR m28, vI wtc, vI wcl, vI ir, vI ip, vR m33, vI shu, vR m35, vI sfa, vI swr], zI m12 (cy 0) 389 f12, zI m14 (cy 0) 389 f14] (fun u : SV => SQ qs 8 f12 ∧ SQ qs 8 (u.2.2 0)) (fun u : SV => [zO mm 12 [vI th, vR m1, vI tp, vI sz_, vI ap, vI bad, vI bk, vI opn, vI fp, vR m9, vR m10, vR m11, vR m12, vR m13, vR m14, vR m15, vI im, vI nr, vI nl, vR m19, vR m20, vR m21, vI sp_, vR m23, vR m24, vR m25, vR m26, vR m27, vR m28, vI wtc, vI wcl, vI ir, vI ip, vR m33, vI shu, vR m35, vI sfa, vI swr], zI m12 (cy 0) 389 f12, zI m14 (cy 0) 389 (u.2.2 0)]) 0 0 := by
  refine Met.ofW (cc := cX12_keeps) (maxL := 2) (ret := none) (by decide) rfl ?_
  intro p e s m args below meth c s₁ B hml hv
  obtain ⟨rfl, hsz, hP, hG, hD0, hT⟩ := hv
  have hx := B.exec
  have hb := B.bytes
  have hr := B.returns
  have hts := atoms_spec (ws := vs_m_keeps) B.pre
  have hown : s.vm.findClass RX12 = some m.cls := findClass_of_methodNamed B.named
  have hlocks := B.notSynchronized
  subst hsz
  have hD := hD0.self (sz := s.heap.size)
  generalize hAe : va_A [zO mm 12 [vI th, vR m1, vI tp, vI sz_, vI ap, vI bad, vI bk, vI opn, vI fp, vR m9, vR m10, vR m11, vR m12, vR m13, vR m14, vR m15, vI im, vI nr, vI nl, vR m19, vR m20, vR m21, vI sp_, vR m23, vR m24, vR m25, vR m26, vR m27, vR m28, vI wtc, vI wcl, vI ir, vI ip, vR m33, vI shu, vR m35, vI sfa, vI swr], zI m12 (cy 0) 389 f12, zI m14 (cy 0) 389 f14] s.heap.size = A at hD hT ⊢
  have hA : ∀ q : Nat, s.heap.size ≤ q → A q := fun q h => by rw [← hAe]; exact Or.inr h
  have hS : va_S A s.heap s.heap [] := va_S.rf
  have hl0 := lv_entry ([vR mm]) (n := 2) (Nat.le_of_ble_eq_true rfl)
  rw [lg_entry_eq]
  generalize (lg_sl ([vR mm]) ++ List.replicate (2 - (lg_sl ([vR mm])).length) Slot.unset).toArray = ls at hl0 ⊢
  have hlv : lv_has ls 2 [(0, vR mm)] := hl0
  have lf35 := hts (.fieldLink RX12 35 "KerbSplashModel" "kept" "[I") (List.mem_of_getElem? (i := 1) rfl)
  have hi12 : ∀ w ∈ wsX120, w ∈ vs_m_keeps := fun w h => List.mem_cons_of_mem _ (List.mem_append_right _ (List.mem_append_left _ h))
  have lf29 := hts (.fieldLink RX12 29 "KerbSplashModel" "s" "[I") (List.mem_of_getElem? (i := 2) rfl)
  refine lv_iconst (v := iI 0) hx hb dX12_keeps_0 (by decide) ?_
  refine lv_istore_n (lv' := [(1, vI 0), (0, vR mm)]) hx hb dX12_keeps_1 rfl hlv (by decide) rfl (fun ls hlv => ?_)
  refine (?_ : ∀ (fu : Nat) (q1 : Int) (kg : Nat → Int32) (H : Heap) (locs : List Loc) (ls : Array Slot), 389 - q1 < (fu : Int) → (0 ≤ q1 ∧ q1 ≤ 389) → (∀ j : Nat, (j : Int) < q1 → kg j = f12 j) → va_P D vwCl [zO mm 12 [vI th, vR m1, vI tp, vI sz_, vI ap, vI bad, vI bk, vI opn, vI fp, vR m9, vR m10, vR m11, vR m12, vR m13, vR m14, vR m15, vI im, vI nr, vI nl, vR m19, vR m20, vR m21, vI sp_, vR m23, vR m24, vR m25, vR m26, vR m27, vR m28, vI wtc, vI wcl, vI ir, vI ip, vR m33, vI shu, vR m35, vI sfa, vI swr], zI m12 (cy 0) 389 f12, zI m14 (cy 0) 389 kg] H → va_D A [zO mm 12 [vI th, vR m1, vI tp, vI sz_, vI ap, vI bad, vI bk, vI opn, vI fp, vR m9, vR m10, vR m11, vR m12, vR m13, vR m14, vR m15, vI im, vI nr, vI nl, vR m19, vR m20, vR m21, vI sp_, vR m23, vR m24, vR m25, vR m26, vR m27, vR m28, vI wtc, vI wcl, vI ir, vI ip, vR m33, vI shu, vR m35, vI sfa, vI swr], zI m12 (cy 0) 389 f12, zI m14 (cy 0) 389 kg] → va_S A s.heap H locs → lv_has ls 2 [(1, vI q1), (0, vR mm)] → W p l e _ s m _ below meth c H locs _ _ _ (F0 m 2 ls [])) (((389 - 0) + 1 : Int)).toNat 0 f14 _ _ _ (by omega) (by show (0 : Int) ≤ 0 ∧ (0 : Int) ≤ 389; decide) (fun j hj => absurd hj (by omega))  hP hD hS hlv
  clear hP hD hS hlv
  intro fu
  induction fu with
  | zero => intro q1 kg H locs ls hm2 hl2_0 hl2_1  hP hD hS hlv; omega
  | succ fu ih2 =>
    intro q1 kg H locs ls hm2 hl2_0 hl2_1  hP hD hS hlv
    refine lv_iload_n hx hb dX12_keeps_2 rfl (lv_at hlv 0 rfl) ?_
    refine lv_sipush (v := iI 389) hx hb dX12_keeps_3 (by decide) ?_
    refine ir_ge (tgt := 27) hx hb dX12_keeps_6 (by decide) (by first | exact rgw hl2_0 (by decide) (by decide) | omega) (by show ((-2147483648) : Int) ≤ 389 ∧ (389 : Int) ≤ 2147483647; decide) (fun c_1 => ?_) (fun c_1 => ?_)
    · have hs_k1 : SQ qs 8 kg := SQ.ext hf12 (fun j hj => hl2_1 j (by omega))
      refine W.widen (k := 0) (n := 0) (Nat.le_of_ble_eq_true rfl) (Nat.le_of_ble_eq_true rfl) ?_
      exact W.vret hx hb hr (fun t ht hW => ⟨⟨((fun k => ([] : List Nat).getD k 0), (fun k => ([] : List Int).getD k 0), (fun k => ([kg] : List (Nat → Int32)).getD k (fun _ => 0))), rfl, ⟨hf12, hs_k1⟩, at9 ht hP hD [0, 1, 2] (by decide +kernel) rfl⟩, hS.F ht⟩) hS.2.2 dX12_keeps_27
    · refine lv_aload_n hx hb dX12_keeps_9 rfl (lv_at hlv 1 rfl) ?_
      refine va_get (D := D) (ci := 12) (v := vR m14) (C := RX12) (T := TX12) (N := 38) hx hb hts hi12 hown hG.1 hP 0 rfl rfl 14 (by decide) lf35 (fun _ h9 => h9) rfl dX12_keeps_10 ?_
      refine lv_iload_n hx hb dX12_keeps_13 rfl (lv_at hlv 0 rfl) ?_
      refine lv_aload_n hx hb dX12_keeps_14 rfl (lv_at hlv 1 rfl) ?_
      refine va_get (D := D) (ci := 12) (v := vR m12) (C := RX12) (T := TX12) (N := 38) hx hb hts hi12 hown hG.1 hP 0 rfl rfl 12 (by decide) lf29 (fun _ h9 => h9) rfl dX12_keeps_15 ?_
      refine lv_iload_n hx hb dX12_keeps_18 rfl (lv_at hlv 0 rfl) ?_
      refine va_iald hx hb hG.1 hP 1 0 rfl rfl (iI_in (by omega) (by decide)) dX12_keeps_19 ?_
      refine lt_nz (i := q1) (by omega) (fun z_2 hz_2 lz_2 uz_2 => ?_)
      refine va_iast hx hb hG.1 hP hD hS 2 0 rfl rfl (iI_in (by omega) (by decide)) dX12_keeps_20 (fun H locs hP hD hS => ?_)
      obtain ⟨f_3, hdf_3, hP, hD⟩ := pe9e (fun f_3 => [zO mm 12 [vI th, vR m1, vI tp, vI sz_, vI ap, vI bad, vI bk, vI opn, vI fp, vR m9, vR m10, vR m11, vR m12, vR m13, vR m14, vR m15, vI im, vI nr, vI nl, vR m19, vR m20, vR m21, vI sp_, vR m23, vR m24, vR m25, vR m26, vR m27, vR m28, vI wtc, vI wcl, vI ir, vI ip, vR m33, vI shu, vR m35, vI sfa, vI swr], zI m12 (cy 0) 389 f12, zI m14 (cy 0) 389 f_3]) (upd kg (iI q1).toNatClampNeg (iI z_2)) hP hD
      obtain ⟨z_4, hz_4⟩ : ∃ z : Int, z = q1 + 1 := ⟨_, rfl⟩
      refine lv_iinc (v := iI z_4) (lv' := [(1, vI z_4), (0, vR mm)]) hx hb dX12_keeps_21 hlv (k := 0) rfl (by rw [hz_4]; exact (Int32.ofInt_add _ _).symm) (by decide) rfl (fun ls hlv => ?_)
      refine lv_goto (tgt := 2) hx hb dX12_keeps_24 (by decide) ?_
      exact ih2 z_4 f_3 H locs ls (by omega) (by omega) (cp_st hl2_1 hdf_3 hz_2 (by omega) (by omega))  (hP.sub [0, 1, 2] rfl) (hD.sub [0, 1, 2] (by decide) rfl) hS (lv_sub hlv [0, 1] rfl)
def vs_m_back : List Cond := .code yX12_comesBack cX12_comesBack 2 none :: (([.fieldLink RX12 29 "KerbSplashModel" "s" "[I", .fieldLink RX12 35 "KerbSplashModel" "kept" "[I"] : List Cond) ++ ((wsX120) ++ ([])))
theorem gd_m_back : vs_m_back.all goodWord = true := gd_C (by decide +kernel) (gd_A (by decide +kernel) (gd_A (by decide +kernel) rfl))
set_option maxHeartbeats 4000000 in
set_option maxRecDepth 100000 in
theorem m_back (l : Launch) (hl : l.stackTraces = false) (D : va_G) (cy : Nat → ClassId) (sa : Nat → Nat) (mm m1 m9 m10 m11 m12 m13 m14 m15 m19 m20 m21 m23 m24 m25 m26 m27 m28 m33 m35 : Nat) (th tp sz_ ap bad bk opn fp im nr nl sp_ wtc wcl ir ip shu sfa swr : Int) (f12 f14 : Nat → Int32) (pm : Int) (qs : Nat → Int) (sz : Nat) (hr_th : (-2147483648) ≤ th ∧ th ≤ 2147483647) (hr_tp : 0 ≤ tp ∧ tp ≤ 600) (hr_sz_ : 0 ≤ sz_ ∧ sz_ ≤ 600) (hr_ap : 0 ≤ ap ∧ ap ≤ 602) (hr_bad : (-1) ≤ bad ∧ bad ≤ 602) (hr_bk : 0 ≤ bk ∧ bk ≤ 4) (hr_opn : 0 ≤ opn ∧ opn ≤ 7) (hr_fp : (-2147483648) ≤ fp ∧ fp ≤ 2147483647) (hr_im : 0 ≤ im ∧ im ≤ 3) (hr_nr : 0 ≤ nr ∧ nr ≤ 4) (hr_nl : 0 ≤ nl ∧ nl ≤ 4) (hr_sp_ : 0 ≤ sp_ ∧ sp_ ≤ 602) (hr_wtc : (-2147483648) ≤ wtc ∧ wtc ≤ 2147483647) (hr_wcl : 0 ≤ wcl ∧ wcl ≤ 95) (hr_ir : 0 ≤ ir ∧ ir ≤ 5) (hr_ip : (-2147483648) ≤ ip ∧ ip ≤ 2147483647) (hr_shu : (-2147483648) ≤ shu ∧ shu ≤ 2147483647) (hr_sfa : (-2147483648) ≤ sfa ∧ sfa ≤ 2147483647) (hr_swr : (-2147483648) ≤ swr ∧ swr ≤ 2147483647) (hr_pm : 8 ≤ pm ∧ pm ≤ 9) (hf12 : SI pm f12) (hf14 : SQ qs 8 f14) : mV9 l yX12_comesBack vs_m_back ({ frames := 0, cells := 0, slots := 0, locals := 0 }) D cy sa sz [vR mm] [zO mm 12 [vI th, vR m1, vI tp, vI sz_, vI ap, vI bad, vI bk, vI opn, vI fp, vR m9, vR m10, vR m11, vR m12, vR m13, vR m14, vR m15, vI im, vI nr, vI nl, vR m19, vR m20, vR m21, vI sp_, vR m23, vR m24, vR m25, vR m26, vR m27, vR m28, vI wtc, vI wcl, vI ir, vI ip, vR m33, vI shu, vR m35, vI sfa, vI swr], zI m12 (cy 0) 389 f12, zI m14 (cy 0) 389 f14] (fun u : SV => SQ qs 8 (u.2.2 0) ∧ SQ qs 8 f14) (fun u : SV => [zO mm 12 [vI th, vR m1, vI tp, vI sz_, vI ap, vI bad, vI bk, vI opn, vI fp, vR m9, vR m10, vR m11, vR m12, vR m13, vR m14, vR m15, vI im, vI nr, vI nl, vR m19, vR m20, vR m21, vI sp_, vR m23, vR m24, vR m25, vR m26, vR m27, vR m28, vI wtc, vI wcl, vI ir, vI ip, vR m33, vI shu, vR m35, vI sfa, vI swr], zI m12 (cy 0) 389 (u.2.2 0), zI m14 (cy 0) 389 f14]) 0 0 := by
  refine Met.ofW (cc := cX12_comesBack) (maxL := 2) (ret := none) (by decide) rfl ?_
  intro p e s m args below meth c s₁ B hml hv
  obtain ⟨rfl, hsz, hP, hG, hD0, hT⟩ := hv
  have hx := B.exec
  have hb := B.bytes
  have hr := B.returns
  have hts := atoms_spec (ws := vs_m_back) B.pre
  have hown : s.vm.findClass RX12 = some m.cls := findClass_of_methodNamed B.named
  have hlocks := B.notSynchronized
  subst hsz
  have hD := hD0.self (sz := s.heap.size)
  generalize hAe : va_A [zO mm 12 [vI th, vR m1, vI tp, vI sz_, vI ap, vI bad, vI bk, vI opn, vI fp, vR m9, vR m10, vR m11, vR m12, vR m13, vR m14, vR m15, vI im, vI nr, vI nl, vR m19, vR m20, vR m21, vI sp_, vR m23, vR m24, vR m25, vR m26, vR m27, vR m28, vI wtc, vI wcl, vI ir, vI ip, vR m33, vI shu, vR m35, vI sfa, vI swr], zI m12 (cy 0) 389 f12, zI m14 (cy 0) 389 f14] s.heap.size = A at hD hT ⊢
  have hA : ∀ q : Nat, s.heap.size ≤ q → A q := fun q h => by rw [← hAe]; exact Or.inr h
  have hS : va_S A s.heap s.heap [] := va_S.rf
  have hl0 := lv_entry ([vR mm]) (n := 2) (Nat.le_of_ble_eq_true rfl)
  rw [lg_entry_eq]
  generalize (lg_sl ([vR mm]) ++ List.replicate (2 - (lg_sl ([vR mm])).length) Slot.unset).toArray = ls at hl0 ⊢
  have hlv : lv_has ls 2 [(0, vR mm)] := hl0
  have lf29 := hts (.fieldLink RX12 29 "KerbSplashModel" "s" "[I") (List.mem_of_getElem? (i := 1) rfl)
  have hi12 : ∀ w ∈ wsX120, w ∈ vs_m_back := fun w h => List.mem_cons_of_mem _ (List.mem_append_right _ (List.mem_append_left _ h))
  have lf35 := hts (.fieldLink RX12 35 "KerbSplashModel" "kept" "[I") (List.mem_of_getElem? (i := 2) rfl)
  refine lv_iconst (v := iI 0) hx hb dX12_comesBack_0 (by decide) ?_
  refine lv_istore_n (lv' := [(1, vI 0), (0, vR mm)]) hx hb dX12_comesBack_1 rfl hlv (by decide) rfl (fun ls hlv => ?_)
  refine (?_ : ∀ (fu : Nat) (q1 : Int) (kg : Nat → Int32) (H : Heap) (locs : List Loc) (ls : Array Slot), 389 - q1 < (fu : Int) → (0 ≤ q1 ∧ q1 ≤ 389) → (∀ j : Nat, (j : Int) < q1 → kg j = f14 j) → va_P D vwCl [zO mm 12 [vI th, vR m1, vI tp, vI sz_, vI ap, vI bad, vI bk, vI opn, vI fp, vR m9, vR m10, vR m11, vR m12, vR m13, vR m14, vR m15, vI im, vI nr, vI nl, vR m19, vR m20, vR m21, vI sp_, vR m23, vR m24, vR m25, vR m26, vR m27, vR m28, vI wtc, vI wcl, vI ir, vI ip, vR m33, vI shu, vR m35, vI sfa, vI swr], zI m12 (cy 0) 389 kg, zI m14 (cy 0) 389 f14] H → va_D A [zO mm 12 [vI th, vR m1, vI tp, vI sz_, vI ap, vI bad, vI bk, vI opn, vI fp, vR m9, vR m10, vR m11, vR m12, vR m13, vR m14, vR m15, vI im, vI nr, vI nl, vR m19, vR m20, vR m21, vI sp_, vR m23, vR m24, vR m25, vR m26, vR m27, vR m28, vI wtc, vI wcl, vI ir, vI ip, vR m33, vI shu, vR m35, vI sfa, vI swr], zI m12 (cy 0) 389 kg, zI m14 (cy 0) 389 f14] → va_S A s.heap H locs → lv_has ls 2 [(1, vI q1), (0, vR mm)] → W p l e _ s m _ below meth c H locs _ _ _ (F0 m 2 ls [])) (((389 - 0) + 1 : Int)).toNat 0 f12 _ _ _ (by omega) (by show (0 : Int) ≤ 0 ∧ (0 : Int) ≤ 389; decide) (fun j hj => absurd hj (by omega))  hP hD hS hlv
  clear hP hD hS hlv
  intro fu
  induction fu with
  | zero => intro q1 kg H locs ls hm2 hl2_0 hl2_1  hP hD hS hlv; omega
  | succ fu ih2 =>
    intro q1 kg H locs ls hm2 hl2_0 hl2_1  hP hD hS hlv
    refine lv_iload_n hx hb dX12_comesBack_2 rfl (lv_at hlv 0 rfl) ?_
    refine lv_sipush (v := iI 389) hx hb dX12_comesBack_3 (by decide) ?_
    refine ir_ge (tgt := 27) hx hb dX12_comesBack_6 (by decide) (by first | exact rgw hl2_0 (by decide) (by decide) | omega) (by show ((-2147483648) : Int) ≤ 389 ∧ (389 : Int) ≤ 2147483647; decide) (fun c_1 => ?_) (fun c_1 => ?_)
    · have hs_k1 : SQ qs 8 kg := SQ.ext hf14 (fun j hj => hl2_1 j (by omega))
      refine W.widen (k := 0) (n := 0) (Nat.le_of_ble_eq_true rfl) (Nat.le_of_ble_eq_true rfl) ?_
      exact W.vret hx hb hr (fun t ht hW => ⟨⟨((fun k => ([] : List Nat).getD k 0), (fun k => ([] : List Int).getD k 0), (fun k => ([kg] : List (Nat → Int32)).getD k (fun _ => 0))), rfl, ⟨hs_k1, hf14⟩, at9 ht hP hD [0, 1, 2] (by decide +kernel) rfl⟩, hS.F ht⟩) hS.2.2 dX12_comesBack_27
    · refine lv_aload_n hx hb dX12_comesBack_9 rfl (lv_at hlv 1 rfl) ?_
      refine va_get (D := D) (ci := 12) (v := vR m12) (C := RX12) (T := TX12) (N := 38) hx hb hts hi12 hown hG.1 hP 0 rfl rfl 12 (by decide) lf29 (fun _ h9 => h9) rfl dX12_comesBack_10 ?_
      refine lv_iload_n hx hb dX12_comesBack_13 rfl (lv_at hlv 0 rfl) ?_
      refine lv_aload_n hx hb dX12_comesBack_14 rfl (lv_at hlv 1 rfl) ?_
      refine va_get (D := D) (ci := 12) (v := vR m14) (C := RX12) (T := TX12) (N := 38) hx hb hts hi12 hown hG.1 hP 0 rfl rfl 14 (by decide) lf35 (fun _ h9 => h9) rfl dX12_comesBack_15 ?_
      refine lv_iload_n hx hb dX12_comesBack_18 rfl (lv_at hlv 0 rfl) ?_
      refine va_iald hx hb hG.1 hP 2 0 rfl rfl (iI_in (by omega) (by decide)) dX12_comesBack_19 ?_
      refine lt_nz (i := q1) (by omega) (fun z_2 hz_2 lz_2 uz_2 => ?_)
      refine va_iast hx hb hG.1 hP hD hS 1 0 rfl rfl (iI_in (by omega) (by decide)) dX12_comesBack_20 (fun H locs hP hD hS => ?_)
      obtain ⟨f_3, hdf_3, hP, hD⟩ := pe9e (fun f_3 => [zO mm 12 [vI th, vR m1, vI tp, vI sz_, vI ap, vI bad, vI bk, vI opn, vI fp, vR m9, vR m10, vR m11, vR m12, vR m13, vR m14, vR m15, vI im, vI nr, vI nl, vR m19, vR m20, vR m21, vI sp_, vR m23, vR m24, vR m25, vR m26, vR m27, vR m28, vI wtc, vI wcl, vI ir, vI ip, vR m33, vI shu, vR m35, vI sfa, vI swr], zI m12 (cy 0) 389 f_3, zI m14 (cy 0) 389 f14]) (upd kg (iI q1).toNatClampNeg (iI z_2)) hP hD
      obtain ⟨z_4, hz_4⟩ : ∃ z : Int, z = q1 + 1 := ⟨_, rfl⟩
      refine lv_iinc (v := iI z_4) (lv' := [(1, vI z_4), (0, vR mm)]) hx hb dX12_comesBack_21 hlv (k := 0) rfl (by rw [hz_4]; exact (Int32.ofInt_add _ _).symm) (by decide) rfl (fun ls hlv => ?_)
      refine lv_goto (tgt := 2) hx hb dX12_comesBack_24 (by decide) ?_
      exact ih2 z_4 f_3 H locs ls (by omega) (by omega) (cp_st hl2_1 hdf_3 hz_2 (by omega) (by omega))  (hP.sub [0, 1, 2] rfl) (hD.sub [0, 1, 2] (by decide) rfl) hS (lv_sub hlv [0, 1] rfl)
def vs_m_deepBehind : List Cond := .code yX12_deepBehind cX12_deepBehind 3 (some .int) :: (([.fieldLink RX12 29 "KerbSplashModel" "s" "[I"] : List Cond) ++ ((wsV RX12 328 RX12 yX12_showers vs_m_showers) ++ ((wsX120) ++ ([]))))
theorem gd_m_deepBehind : vs_m_deepBehind.all goodWord = true := gd_C (by decide +kernel) (gd_A (by decide +kernel) (gd_A (gd_V gd_m_showers (by decide +kernel)) (gd_A (by decide +kernel) rfl)))
set_option maxHeartbeats 4000000 in
set_option maxRecDepth 100000 in
theorem m_deepBehind (l : Launch) (hl : l.stackTraces = false) (D : va_G) (cy : Nat → ClassId) (sa : Nat → Nat) (mm m1 m9 m10 m11 m12 m13 m14 m15 m19 m20 m21 m23 m24 m25 m26 m27 m28 m33 m35 : Nat) (th tp sz_ ap bad bk opn fp im nr nl sp_ wtc wcl ir ip shu sfa swr : Int) (f10 f12 f19 f20 f21 : Nat → Int32) (n k : Int) (qs : Nat → Int) (sz : Nat) (hr_th : (-2147483648) ≤ th ∧ th ≤ 2147483647) (hr_tp : 0 ≤ tp ∧ tp ≤ 600) (hr_sz_ : 0 ≤ sz_ ∧ sz_ ≤ 600) (hr_ap : 0 ≤ ap ∧ ap ≤ 602) (hr_bad : (-1) ≤ bad ∧ bad ≤ 602) (hr_bk : 0 ≤ bk ∧ bk ≤ 4) (hr_opn : 0 ≤ opn ∧ opn ≤ 7) (hr_fp : (-2147483648) ≤ fp ∧ fp ≤ 2147483647) (hr_im : 0 ≤ im ∧ im ≤ 3) (hr_nr : 0 ≤ nr ∧ nr ≤ 4) (hr_nl : 0 ≤ nl ∧ nl ≤ 4) (hr_sp_ : 0 ≤ sp_ ∧ sp_ ≤ 602) (hr_wtc : (-2147483648) ≤ wtc ∧ wtc ≤ 2147483647) (hr_wcl : 0 ≤ wcl ∧ wcl ≤ 95) (hr_ir : 0 ≤ ir ∧ ir ≤ 5) (hr_ip : (-2147483648) ≤ ip ∧ ip ≤ 2147483647) (hr_shu : (-2147483648) ≤ shu ∧ shu ≤ 2147483647) (hr_sfa : (-2147483648) ≤ sfa ∧ sfa ≤ 2147483647) (hr_swr : (-2147483648) ≤ swr ∧ swr ≤ 2147483647) (hr_n : 0 ≤ n ∧ n ≤ 3) (hr_k : 0 ≤ k ∧ k ≤ 95) (hf10 : BI f10) (hf12 : SQ qs 8 f12) (hf19 : inv_ 4 0 8 f19) : mI9 l yX12_deepBehind vs_m_deepBehind ({ frames := 5, cells := 0, slots := 0, locals := 119 }) D cy sa sz [vR mm, vI n, vI k] [zO mm 12 [vI th, vR m1, vI tp, vI sz_, vI ap, vI bad, vI bk, vI opn, vI fp, vR m9, vR m10, vR m11, vR m12, vR m13, vR m14, vR m15, vI im, vI nr, vI nl, vR m19, vR m20, vR m21, vI sp_, vR m23, vR m24, vR m25, vR m26, vR m27, vR m28, vI wtc, vI wcl, vI ir, vI ip, vR m33, vI shu, vR m35, vI sfa, vI swr], zI m10 (cy 0) 68 f10, zI m12 (cy 0) 389 f12, zI m19 (cy 0) 4 f19, zI m20 (cy 0) 32 f20, zI m21 (cy 0) 32 f21] (fun (r : Int32) (u : SV) => r = iI (u.2.1 0) ∧ ((-2147483648) ≤ u.2.1 0 ∧ u.2.1 0 ≤ 2147483647) ∧ BI f10 ∧ SQ qs 8 (u.2.2 0) ∧ inv_ 4 0 8 f19) (fun u : SV => [zO mm 12 [vI th, vR m1, vI tp, vI sz_, vI ap, vI bad, vI bk, vI opn, vI fp, vR m9, vR m10, vR m11, vR m12, vR m13, vR m14, vR m15, vI im, vI nr, vI nl, vR m19, vR m20, vR m21, vI sp_, vR m23, vR m24, vR m25, vR m26, vR m27, vR m28, vI wtc, vI wcl, vI ir, vI ip, vR m33, vI shu, vR m35, vI sfa, vI swr], zI m10 (cy 0) 68 f10, zI m12 (cy 0) 389 (u.2.2 0), zI m19 (cy 0) 4 f19, zI m20 (cy 0) 32 f20, zI m21 (cy 0) 32 f21]) 0 0 := by
  refine Met.ofW (cc := cX12_deepBehind) (maxL := 3) (ret := (some .int)) (by decide) rfl ?_
  intro p e s m args below meth c s₁ B hml hv
  obtain ⟨rfl, hsz, hP, hG, hD0, hT⟩ := hv
  have hx := B.exec
  have hb := B.bytes
  have hr := B.returns
  have hts := atoms_spec (ws := vs_m_deepBehind) B.pre
  have hown : s.vm.findClass RX12 = some m.cls := findClass_of_methodNamed B.named
  have hlocks := B.notSynchronized
  subst hsz
  have hD := hD0.self (sz := s.heap.size)
  generalize hAe : va_A [zO mm 12 [vI th, vR m1, vI tp, vI sz_, vI ap, vI bad, vI bk, vI opn, vI fp, vR m9, vR m10, vR m11, vR m12, vR m13, vR m14, vR m15, vI im, vI nr, vI nl, vR m19, vR m20, vR m21, vI sp_, vR m23, vR m24, vR m25, vR m26, vR m27, vR m28, vI wtc, vI wcl, vI ir, vI ip, vR m33, vI shu, vR m35, vI sfa, vI swr], zI m10 (cy 0) 68 f10, zI m12 (cy 0) 389 f12, zI m19 (cy 0) 4 f19, zI m20 (cy 0) 32 f20, zI m21 (cy 0) 32 f21] s.heap.size = A at hD hT ⊢
  have hA : ∀ q : Nat, s.heap.size ≤ q → A q := fun q h => by rw [← hAe]; exact Or.inr h
  have hS : va_S A s.heap s.heap [] := va_S.rf
  have hl0 := lv_entry ([vR mm, vI n, vI k]) (n := 3) (Nat.le_of_ble_eq_true rfl)
  rw [lg_entry_eq]
  generalize (lg_sl ([vR mm, vI n, vI k]) ++ List.replicate (3 - (lg_sl ([vR mm, vI n, vI k])).length) Slot.unset).toArray = ls at hl0 ⊢
  have hlv : lv_has ls 3 [(0, vR mm), (1, vI n), (2, vI k)] := hl0
  have gg_0 : GoodIn vs_m_deepBehind (wsV RX12 328 RX12 yX12_showers vs_m_showers) := goodIn_sub (fun w h => List.mem_cons_of_mem _ (List.mem_append_right _ (List.mem_append_left _ h))) (gd_V gd_m_showers (by decide +kernel))
  have lf29 := hts (.fieldLink RX12 29 "KerbSplashModel" "s" "[I") (List.mem_of_getElem? (i := 1) rfl)
  have hi12 : ∀ w ∈ wsX120, w ∈ vs_m_deepBehind := fun w h => List.mem_cons_of_mem _ (List.mem_append_right _ (List.mem_append_right _ (List.mem_append_left _ h)))
  refine lv_aload_n hx hb dX12_deepBehind_0 rfl (lv_at hlv 0 rfl) ?_
  refine lv_iload_n hx hb dX12_deepBehind_1 rfl (lv_at hlv 1 rfl) ?_
  refine cjr_i [false, false, false, false, false, false] (fun pre9 => (va_runV (As := [vI n]) (rest := []) ⟨hx, hb, hml, hown, hts⟩ (m_showers l hl D cy sa mm m1 m9 m10 m11 m12 m13 m14 m15 m19 m20 m21 m23 m24 m25 m26 m27 m28 m33 m35 th tp sz_ ap bad bk opn fp im nr nl sp_ wtc wcl ir ip shu sfa swr f10 f12 f19 f20 f21 n qs s.heap.size (by first | exact hr_th | omega) (by first | exact hr_tp | omega) (by first | exact hr_sz_ | omega) (by first | exact hr_ap | omega) (by first | exact hr_bad | omega) (by first | exact hr_bk | omega) (by first | exact hr_opn | omega) (by first | exact hr_fp | omega) (by first | exact hr_im | omega) (by first | exact hr_nr | omega) (by first | exact hr_nl | omega) (by first | exact hr_sp_ | omega) (by first | exact hr_wtc | omega) (by first | exact hr_wcl | omega) (by first | exact hr_ir | omega) (by first | exact hr_ip | omega) (by first | exact hr_shu | omega) (by first | exact hr_sfa | omega) (by first | exact hr_swr | omega) (by first | exact hr_n | omega) hf10 hf12 hf19) (cwV 1 hts gg_0 rfl rfl rfl (by decide +kernel) ⟨Nat.le_of_ble_eq_true rfl, Nat.le_of_ble_eq_true rfl⟩) ⟨pcW.blind, (va_recv hG.1 hP (ci := 12) (q0 := 0) rfl rfl), pre9⟩ rfl rfl hlv.1 rfl (lv_room (Nat.le_of_ble_eq_true rfl)) dX12_deepBehind_2 ⟨Nat.le_of_ble_eq_true rfl, Nat.le_of_ble_eq_true rfl⟩)) hP hD hS hA hG hT [0, 1, 2, 3, 4, 5] rfl (by decide +kernel) (fun r1 u1 H locs hw1 hq9 hS => ?_)
  obtain ⟨rfl, hq1_1, hq1_2, hq1_3, hq1_4⟩ := hw1
  obtain ⟨hP, hD⟩ := pd9 [zO mm 12 [vI th, vR m1, vI tp, vI sz_, vI ap, vI bad, vI bk, vI opn, vI fp, vR m9, vR m10, vR m11, vR m12, vR m13, vR m14, vR m15, vI im, vI nr, vI nl, vR m19, vR m20, vR m21, vI sp_, vR m23, vR m24, vR m25, vR m26, vR m27, vR m28, vI wtc, vI wcl, vI ir, vI ip, vR m33, vI shu, vR m35, vI sfa, vI swr], zI m10 (cy 0) 68 f10, zI m12 (cy 0) 389 (u1.2.2 0), zI m19 (cy 0) 4 f19, zI m20 (cy 0) 32 f20, zI m21 (cy 0) 32 f21] hq9
  refine lv_pop hx hb dX12_deepBehind_5 rfl ?_
  refine lv_aload_n hx hb dX12_deepBehind_6 rfl (lv_at hlv 0 rfl) ?_
  refine va_get (D := D) (ci := 12) (v := vR m12) (C := RX12) (T := TX12) (N := 38) hx hb hts hi12 hown hG.1 hP 0 rfl rfl 12 (by decide) lf29 (fun _ h9 => h9) rfl dX12_deepBehind_7 ?_
  refine lv_bipush (v := iI 96) hx hb dX12_deepBehind_10 (by decide) ?_
  refine lv_iload_n hx hb dX12_deepBehind_12 rfl (lv_at hlv 2 rfl) ?_
  refine lv_iadd hx hb dX12_deepBehind_13 ?_
  refine lt_e (e0 := 96 + k) (Int32.ofInt_add _ _).symm (fun z_1 hz_1 => ?_)
  refine va_iald hx hb hG.1 hP 2 0 rfl rfl (iI_in (by omega) (by decide)) dX12_deepBehind_14 ?_
  refine lt_nz (i := z_1) (by omega) (fun z_2 hz_2 lz_2 uz_2 => ?_)
  refine W.widen (k := 0) (n := 0) (Nat.le_of_ble_eq_true rfl) (Nat.le_of_ble_eq_true rfl) ?_
  exact W.iret (v := iI z_2) hx hb hr (fun t ht hW => ⟨⟨iI z_2, ((fun k => ([] : List Nat).getD k 0), (fun k => ([z_2] : List Int).getD k 0), (fun k => ([(u1.2.2 0)] : List (Nat → Int32)).getD k (fun _ => 0))), rfl, ⟨rfl, (by show ((-2147483648) ≤ z_2 ∧ z_2 ≤ 2147483647); omega), hq1_2, hq1_3, hq1_4⟩, at9 ht hP hD [0, 1, 2, 3, 4, 5] (by decide +kernel) rfl⟩, hS.F ht⟩) hS.2.2 dX12_deepBehind_15
def vs_m_deep : List Cond := .code yX12_deep cX12_deep 5 (some .int) :: (([.fieldLink RX12 1 "KerbSplashModel" "thrown" "I"] : List Cond) ++ ((wsX120) ++ ((wsV RX12 286 RX12 yX12_isCell vs_m_isCell) ++ ((wsV RX12 324 RX12 yX12_isRain vs_m_isRain) ++ ((wsV RX12 312 RX12 yX12_isNow vs_m_isNow) ++ ((wsV RX12 381 RX12 yX12_keeps vs_m_keeps) ++ ((va_wsS RX12 289 yX12_at vs_m_at) ++ ((wsV RX12 384 RX12 yX12_deepBehind vs_m_deepBehind) ++ ((wsV RX12 387 RX12 yX12_comesBack vs_m_back) ++ ([]))))))))))
set_option maxHeartbeats 4000000 in
set_option maxRecDepth 100000 in
theorem m_deep (l : Launch) (hl : l.stackTraces = false) (D : va_G) (cy : Nat → ClassId) (sa : Nat → Nat) (mm m1 m9 m10 m11 m12 m13 m14 m15 m19 m20 m21 m23 m24 m25 m26 m27 m28 m33 m35 : Nat) (th tp sz_ ap bad bk opn fp im nr nl sp_ wtc wcl ir ip shu sfa swr : Int) (f1 f10 f12 f14 f19 f20 f21 : Nat → Int32) (n x y : Int) (qs : Nat → Int) (sz : Nat) (hr_th : (-2147483648) ≤ th ∧ th ≤ 2147483647) (hr_tp : 0 ≤ tp ∧ tp ≤ 600) (hr_sz_ : 0 ≤ sz_ ∧ sz_ ≤ 600) (hr_ap : 0 ≤ ap ∧ ap ≤ 602) (hr_bad : (-1) ≤ bad ∧ bad ≤ 602) (hr_bk : 0 ≤ bk ∧ bk ≤ 4) (hr_opn : 0 ≤ opn ∧ opn ≤ 7) (hr_fp : (-2147483648) ≤ fp ∧ fp ≤ 2147483647) (hr_im : 0 ≤ im ∧ im ≤ 3) (hr_nr : 0 ≤ nr ∧ nr ≤ 4) (hr_nl : 0 ≤ nl ∧ nl ≤ 4) (hr_sp_ : 0 ≤ sp_ ∧ sp_ ≤ 602) (hr_wtc : (-2147483648) ≤ wtc ∧ wtc ≤ 2147483647) (hr_wcl : 0 ≤ wcl ∧ wcl ≤ 95) (hr_ir : 0 ≤ ir ∧ ir ≤ 5) (hr_ip : (-2147483648) ≤ ip ∧ ip ≤ 2147483647) (hr_shu : (-2147483648) ≤ shu ∧ shu ≤ 2147483647) (hr_sfa : (-2147483648) ≤ sfa ∧ sfa ≤ 2147483647) (hr_swr : (-2147483648) ≤ swr ∧ swr ≤ 2147483647) (hr_n : (-2147483648) ≤ n ∧ n ≤ 2147483647) (hr_x : (-2147483648) ≤ x ∧ x ≤ 2147483647) (hr_y : (-2147483648) ≤ y ∧ y ≤ 2147483647) (hf10 : BI f10) (hf12 : SQ qs 8 f12) (hf14 : SI 8 f14) (hf19 : inv_ 4 0 8 f19) : mI9 l yX12_deep vs_m_deep ({ frames := 6, cells := 0, slots := 0, locals := 141 }) D cy sa sz [vR mm, vI n, vI x, vI y] [zO mm 12 [vI th, vR m1, vI tp, vI sz_, vI ap, vI bad, vI bk, vI opn, vI fp, vR m9, vR m10, vR m11, vR m12, vR m13, vR m14, vR m15, vI im, vI nr, vI nl, vR m19, vR m20, vR m21, vI sp_, vR m23, vR m24, vR m25, vR m26, vR m27, vR m28, vI wtc, vI wcl, vI ir, vI ip, vR m33, vI shu, vR m35, vI sfa, vI swr], zI m1 (cy 0) 4 f1, zI m10 (cy 0) 68 f10, zI m12 (cy 0) 389 f12, zI m14 (cy 0) 389 f14, zI m19 (cy 0) 4 f19, zI m20 (cy 0) 32 f20, zI m21 (cy 0) 32 f21] (fun (r : Int32) (u : SV) => r = iI (u.2.1 0) ∧ ((-2147483648) ≤ u.2.1 1 ∧ u.2.1 1 ≤ 2147483647) ∧ ((-2147483648) ≤ u.2.1 0 ∧ u.2.1 0 ≤ 2147483647) ∧ BI f10 ∧ SQ qs 8 (u.2.2 1) ∧ SI 8 (u.2.2 2) ∧ inv_ 4 0 8 f19) (fun u : SV => [zO mm 12 [vI (u.2.1 1), vR m1, vI tp, vI sz_, vI ap, vI bad, vI bk, vI opn, vI fp, vR m9, vR m10, vR m11, vR m12, vR m13, vR m14, vR m15, vI im, vI nr, vI nl, vR m19, vR m20, vR m21, vI sp_, vR m23, vR m24, vR m25, vR m26, vR m27, vR m28, vI wtc, vI wcl, vI ir, vI ip, vR m33, vI shu, vR m35, vI sfa, vI swr], zI m1 (cy 0) 4 (u.2.2 0), zI m10 (cy 0) 68 f10, zI m12 (cy 0) 389 (u.2.2 1), zI m14 (cy 0) 389 (u.2.2 2), zI m19 (cy 0) 4 f19, zI m20 (cy 0) 32 f20, zI m21 (cy 0) 32 f21]) 0 0 := by
  refine Met.ofW (cc := cX12_deep) (maxL := 5) (ret := (some .int)) (by decide) rfl ?_
  intro p e s m args below meth c s₁ B hml hv
  obtain ⟨rfl, hsz, hP, hG, hD0, hT⟩ := hv
  have hx := B.exec
  have hb := B.bytes
  have hr := B.returns
  have hts := atoms_spec (ws := vs_m_deep) B.pre
  have hown : s.vm.findClass RX12 = some m.cls := findClass_of_methodNamed B.named
  have hlocks := B.notSynchronized
  subst hsz
  have hD := hD0.self (sz := s.heap.size)
  generalize hAe : va_A [zO mm 12 [vI th, vR m1, vI tp, vI sz_, vI ap, vI bad, vI bk, vI opn, vI fp, vR m9, vR m10, vR m11, vR m12, vR m13, vR m14, vR m15, vI im, vI nr, vI nl, vR m19, vR m20, vR m21, vI sp_, vR m23, vR m24, vR m25, vR m26, vR m27, vR m28, vI wtc, vI wcl, vI ir, vI ip, vR m33, vI shu, vR m35, vI sfa, vI swr], zI m1 (cy 0) 4 f1, zI m10 (cy 0) 68 f10, zI m12 (cy 0) 389 f12, zI m14 (cy 0) 389 f14, zI m19 (cy 0) 4 f19, zI m20 (cy 0) 32 f20, zI m21 (cy 0) 32 f21] s.heap.size = A at hD hT ⊢
  have hA : ∀ q : Nat, s.heap.size ≤ q → A q := fun q h => by rw [← hAe]; exact Or.inr h
  have hS : va_S A s.heap s.heap [] := va_S.rf
  have hl0 := lv_entry ([vR mm, vI n, vI x, vI y]) (n := 5) (Nat.le_of_ble_eq_true rfl)
  rw [lg_entry_eq]
  generalize (lg_sl ([vR mm, vI n, vI x, vI y]) ++ List.replicate (5 - (lg_sl ([vR mm, vI n, vI x, vI y])).length) Slot.unset).toArray = ls at hl0 ⊢
  have hlv : lv_has ls 5 [(0, vR mm), (1, vI n), (2, vI x), (3, vI y)] := hl0
  have lf1 := hts (.fieldLink RX12 1 "KerbSplashModel" "thrown" "I") (List.mem_of_getElem? (i := 1) rfl)
  have hi12 : ∀ w ∈ wsX120, w ∈ vs_m_deep := fun w h => List.mem_cons_of_mem _ (List.mem_append_right _ (List.mem_append_left _ h))
  have gg_1 : GoodIn vs_m_deep (wsV RX12 286 RX12 yX12_isCell vs_m_isCell) := goodIn_sub (fun w h => List.mem_cons_of_mem _ (List.mem_append_right _ (List.mem_append_right _ (List.mem_append_left _ h)))) (gd_V gd_m_isCell (by decide +kernel))
  have gg_2 : GoodIn vs_m_deep (wsV RX12 324 RX12 yX12_isRain vs_m_isRain) := goodIn_sub (fun w h => List.mem_cons_of_mem _ (List.mem_append_right _ (List.mem_append_right _ (List.mem_append_right _ (List.mem_append_left _ h))))) (gd_V gd_m_isRain (by decide +kernel))
  have gg_3 : GoodIn vs_m_deep (wsV RX12 312 RX12 yX12_isNow vs_m_isNow) := goodIn_sub (fun w h => List.mem_cons_of_mem _ (List.mem_append_right _ (List.mem_append_right _ (List.mem_append_right _ (List.mem_append_right _ (List.mem_append_left _ h)))))) (gd_V gd_m_isNow (by decide +kernel))
  have gg_4 : GoodIn vs_m_deep (wsV RX12 381 RX12 yX12_keeps vs_m_keeps) := goodIn_sub (fun w h => List.mem_cons_of_mem _ (List.mem_append_right _ (List.mem_append_right _ (List.mem_append_right _ (List.mem_append_right _ (List.mem_append_right _ (List.mem_append_left _ h))))))) (gd_V gd_m_keeps (by decide +kernel))
  have gg_5 : GoodIn vs_m_deep (va_wsS RX12 289 yX12_at vs_m_at) := goodIn_sub (fun w h => List.mem_cons_of_mem _ (List.mem_append_right _ (List.mem_append_right _ (List.mem_append_right _ (List.mem_append_right _ (List.mem_append_right _ (List.mem_append_right _ (List.mem_append_left _ h)))))))) (gd_S gd_m_at (by decide +kernel))
  have gg_6 : GoodIn vs_m_deep (wsV RX12 384 RX12 yX12_deepBehind vs_m_deepBehind) := goodIn_sub (fun w h => List.mem_cons_of_mem _ (List.mem_append_right _ (List.mem_append_right _ (List.mem_append_right _ (List.mem_append_right _ (List.mem_append_right _ (List.mem_append_right _ (List.mem_append_right _ (List.mem_append_left _ h))))))))) (gd_V gd_m_deepBehind (by decide +kernel))
  have gg_7 : GoodIn vs_m_deep (wsV RX12 387 RX12 yX12_comesBack vs_m_back) := goodIn_sub (fun w h => List.mem_cons_of_mem _ (List.mem_append_right _ (List.mem_append_right _ (List.mem_append_right _ (List.mem_append_right _ (List.mem_append_right _ (List.mem_append_right _ (List.mem_append_right _ (List.mem_append_right _ (List.mem_append_left _ h)))))))))) (gd_V gd_m_back (by decide +kernel))
  refine lv_aload_n hx hb dX12_deep_0 rfl (lv_at hlv 0 rfl) ?_
  refine lv_iconst (v := iI 0) hx hb dX12_deep_1 (by decide) ?_
  refine va_put (D := D) (ci := 12) (v := vI 0) (ty := .int) (C := RX12) (T := TX12) (N := 38) hx hb hts hi12 tyX12 tyX12_ok nmX12 hown hG.1 hP hD hS 0 rfl rfl 0 (by decide) lf1 (fun _ h9 => h9) rfl (by decide +kernel) rfl rfl (Nat.le_of_ble_eq_true rfl) dX12_deep_2 (fun H locs hP hD hS => ?_)
  obtain ⟨hP, hD⟩ := pw9 [zO mm 12 [vI 0, vR m1, vI tp, vI sz_, vI ap, vI bad, vI bk, vI opn, vI fp, vR m9, vR m10, vR m11, vR m12, vR m13, vR m14, vR m15, vI im, vI nr, vI nl, vR m19, vR m20, vR m21, vI sp_, vR m23, vR m24, vR m25, vR m26, vR m27, vR m28, vI wtc, vI wcl, vI ir, vI ip, vR m33, vI shu, vR m35, vI sfa, vI swr], zI m1 (cy 0) 4 f1, zI m10 (cy 0) 68 f10, zI m12 (cy 0) 389 f12, zI m14 (cy 0) 389 f14, zI m19 (cy 0) 4 f19, zI m20 (cy 0) 32 f20, zI m21 (cy 0) 32 f21] hP hD
  refine lv_aload_n hx hb dX12_deep_5 rfl (lv_at hlv 0 rfl) ?_
  refine lv_iload_n hx hb dX12_deep_6 rfl (lv_at hlv 2 rfl) ?_
  refine lv_iload_n hx hb dX12_deep_7 rfl (lv_at hlv 3 rfl) ?_
  refine lv_iconst (v := iI 1) hx hb dX12_deep_8 (by decide) ?_
  refine cjr_i [false, false, false, true, true, true, true, true] (fun pre9 => (va_runV (As := [vI x, vI y, vI 1]) (rest := []) ⟨hx, hb, hml, hown, hts⟩ (m_isCell l hl D cy sa mm m1 m9 m10 m11 m12 m13 m14 m15 m19 m20 m21 m23 m24 m25 m26 m27 m28 m33 m35 0 tp sz_ ap bad bk opn fp im nr nl sp_ wtc wcl ir ip shu sfa swr f1 f10 x y 1 H.size (by show ((-2147483648) : Int) ≤ 0 ∧ (0 : Int) ≤ 2147483647; decide) (by first | exact hr_tp | omega) (by first | exact hr_sz_ | omega) (by first | exact hr_ap | omega) (by first | exact hr_bad | omega) (by first | exact hr_bk | omega) (by first | exact hr_opn | omega) (by first | exact hr_fp | omega) (by first | exact hr_im | omega) (by first | exact hr_nr | omega) (by first | exact hr_nl | omega) (by first | exact hr_sp_ | omega) (by first | exact hr_wtc | omega) (by first | exact hr_wcl | omega) (by first | exact hr_ir | omega) (by first | exact hr_ip | omega) (by first | exact hr_shu | omega) (by first | exact hr_sfa | omega) (by first | exact hr_swr | omega) (by first | exact hr_x | omega) (by first | exact hr_y | omega) (by show (1 : Int) ≤ 1 ∧ (1 : Int) ≤ 4; decide) hf10) (cwV 3 hts gg_1 rfl rfl rfl (by decide +kernel) ⟨Nat.le_of_ble_eq_true rfl, Nat.le_of_ble_eq_true rfl⟩) ⟨pcW.blind, (va_recv hG.1 hP (ci := 12) (q0 := 0) rfl rfl), pre9⟩ rfl rfl hlv.1 rfl (lv_room (Nat.le_of_ble_eq_true rfl)) dX12_deep_9 ⟨Nat.le_of_ble_eq_true rfl, Nat.le_of_ble_eq_true rfl⟩)) hP hD hS hA hG hT [0, 1, 2] rfl (by decide +kernel) (fun r1 u1 H locs hw1 hq9 hS => ?_)
  obtain ⟨rfl, hq1_1, hq1_2, hq1_3, hq1_4⟩ := hw1
  obtain ⟨hP, hD⟩ := pd9 [zI m12 (cy 0) 389 f12, zI m14 (cy 0) 389 f14, zI m19 (cy 0) 4 f19, zI m20 (cy 0) 32 f20, zI m21 (cy 0) 32 f21, zO mm 12 [vI (u1.2.1 1), vR m1, vI tp, vI sz_, vI ap, vI bad, vI bk, vI opn, vI fp, vR m9, vR m10, vR m11, vR m12, vR m13, vR m14, vR m15, vI im, vI nr, vI nl, vR m19, vR m20, vR m21, vI sp_, vR m23, vR m24, vR m25, vR m26, vR m27, vR m28, vI wtc, vI wcl, vI ir, vI ip, vR m33, vI shu, vR m35, vI sfa, vI swr], zI m1 (cy 0) 4 (u1.2.2 0), zI m10 (cy 0) 68 f10] hq9
  refine iz_eq (tgt := 32) hx hb dX12_deep_12 (by decide) (by first | exact rgw hq1_2 (by decide) (by decide) | omega) (fun c_1 => ?_) (fun c_1 => ?_)
  · refine lv_iconst (v := iI 0) hx hb dX12_deep_32 (by decide) ?_
    refine W.widen (k := 0) (n := 0) (Nat.le_of_ble_eq_true rfl) (Nat.le_of_ble_eq_true rfl) ?_
    exact W.iret (v := iI 0) hx hb hr (fun t ht hW => ⟨⟨iI 0, ((fun k => ([] : List Nat).getD k 0), (fun k => ([0, (u1.2.1 1)] : List Int).getD k 0), (fun k => ([(u1.2.2 0), f12, f14] : List (Nat → Int32)).getD k (fun _ => 0))), rfl, ⟨rfl, (by show ((-2147483648) ≤ (u1.2.1 1) ∧ (u1.2.1 1) ≤ 2147483647); first | exact hq1_1 | omega), (by show ((-2147483648) ≤ 0 ∧ 0 ≤ 2147483647); show ((-2147483648) : Int) ≤ 0 ∧ (0 : Int) ≤ 2147483647; decide), hq1_4, hf12, hf14, hf19⟩, at9 ht hP hD [5, 6, 7, 0, 1, 2, 3, 4] (by decide +kernel) rfl⟩, hS.F ht⟩) hS.2.2 dX12_deep_33
  · refine lv_aload_n hx hb dX12_deep_15 rfl (lv_at hlv 0 rfl) ?_
    refine lv_iload_n hx hb dX12_deep_16 rfl (lv_at hlv 1 rfl) ?_
    refine lv_iconst (v := iI 2) hx hb dX12_deep_17 (by decide) ?_
    refine cjr_i [true, true, true, true, true, false, false, true] (fun pre9 => (va_runV (As := [vI n, vI 2]) (rest := []) ⟨hx, hb, hml, hown, hts⟩ (m_isRain l hl D cy sa mm m1 m9 m10 m11 m12 m13 m14 m15 m19 m20 m21 m23 m24 m25 m26 m27 m28 m33 m35 (u1.2.1 1) tp sz_ ap bad bk opn fp im nr nl sp_ wtc wcl ir ip shu sfa swr (u1.2.2 0) n 2 H.size (by first | exact hq1_1 | omega) (by first | exact hr_tp | omega) (by first | exact hr_sz_ | omega) (by first | exact hr_ap | omega) (by first | exact hr_bad | omega) (by first | exact hr_bk | omega) (by first | exact hr_opn | omega) (by first | exact hr_fp | omega) (by first | exact hr_im | omega) (by first | exact hr_nr | omega) (by first | exact hr_nl | omega) (by first | exact hr_sp_ | omega) (by first | exact hr_wtc | omega) (by first | exact hr_wcl | omega) (by first | exact hr_ir | omega) (by first | exact hr_ip | omega) (by first | exact hr_shu | omega) (by first | exact hr_sfa | omega) (by first | exact hr_swr | omega) (by first | exact hr_n | omega) (by show (1 : Int) ≤ 2 ∧ (2 : Int) ≤ 4; decide)) (cwV 2 hts gg_2 rfl rfl rfl (by decide +kernel) ⟨Nat.le_of_ble_eq_true rfl, Nat.le_of_ble_eq_true rfl⟩) ⟨pcW.blind, (va_recv hG.1 hP (ci := 12) (q0 := 5) rfl rfl), pre9⟩ rfl rfl hlv.1 rfl (lv_room (Nat.le_of_ble_eq_true rfl)) dX12_deep_18 ⟨Nat.le_of_ble_eq_true rfl, Nat.le_of_ble_eq_true rfl⟩)) hP hD hS hA hG hT [5, 6] rfl (by decide +kernel) (fun r2 u2 H locs hw2 hq9 hS => ?_)
    obtain ⟨rfl, hq2_1, hq2_2, hq2_3⟩ := hw2
    obtain ⟨hP, hD⟩ := pd9 [zI m12 (cy 0) 389 f12, zI m14 (cy 0) 389 f14, zI m19 (cy 0) 4 f19, zI m20 (cy 0) 32 f20, zI m21 (cy 0) 32 f21, zI m10 (cy 0) 68 f10, zO mm 12 [vI (u2.2.1 1), vR m1, vI tp, vI sz_, vI ap, vI bad, vI bk, vI opn, vI fp, vR m9, vR m10, vR m11, vR m12, vR m13, vR m14, vR m15, vI im, vI nr, vI nl, vR m19, vR m20, vR m21, vI sp_, vR m23, vR m24, vR m25, vR m26, vR m27, vR m28, vI wtc, vI wcl, vI ir, vI ip, vR m33, vI shu, vR m35, vI sfa, vI swr], zI m1 (cy 0) 4 (u2.2.2 0)] hq9
    refine iz_eq (tgt := 32) hx hb dX12_deep_21 (by decide) (by first | exact rgw hq2_2 (by decide) (by decide) | omega) (fun c_2 => ?_) (fun c_2 => ?_)
    · refine lv_iconst (v := iI 0) hx hb dX12_deep_32 (by decide) ?_
      refine W.widen (k := 0) (n := 0) (Nat.le_of_ble_eq_true rfl) (Nat.le_of_ble_eq_true rfl) ?_
      exact W.iret (v := iI 0) hx hb hr (fun t ht hW => ⟨⟨iI 0, ((fun k => ([] : List Nat).getD k 0), (fun k => ([0, (u2.2.1 1)] : List Int).getD k 0), (fun k => ([(u2.2.2 0), f12, f14] : List (Nat → Int32)).getD k (fun _ => 0))), rfl, ⟨rfl, (by show ((-2147483648) ≤ (u2.2.1 1) ∧ (u2.2.1 1) ≤ 2147483647); first | exact hq2_1 | omega), (by show ((-2147483648) ≤ 0 ∧ 0 ≤ 2147483647); show ((-2147483648) : Int) ≤ 0 ∧ (0 : Int) ≤ 2147483647; decide), hq1_4, hf12, hf14, hf19⟩, at9 ht hP hD [6, 7, 5, 0, 1, 2, 3, 4] (by decide +kernel) rfl⟩, hS.F ht⟩) hS.2.2 dX12_deep_33
    · refine lv_aload_n hx hb dX12_deep_24 rfl (lv_at hlv 0 rfl) ?_
      refine lv_iconst (v := iI 3) hx hb dX12_deep_25 (by decide) ?_
      refine cjr_i [false, true, true, true, true, false, false, false] (fun pre9 => (va_runV (As := [vI 3]) (rest := []) ⟨hx, hb, hml, hown, hts⟩ (m_isNow l hl D cy sa mm m1 m9 m10 m11 m12 m13 m14 m15 m19 m20 m21 m23 m24 m25 m26 m27 m28 m33 m35 (u2.2.1 1) tp sz_ ap bad bk opn fp im nr nl sp_ wtc wcl ir ip shu sfa swr (u2.2.2 0) f10 f12 3 H.size (by first | exact hq2_1 | omega) (by first | exact hr_tp | omega) (by first | exact hr_sz_ | omega) (by first | exact hr_ap | omega) (by first | exact hr_bad | omega) (by first | exact hr_bk | omega) (by first | exact hr_opn | omega) (by first | exact hr_fp | omega) (by first | exact hr_im | omega) (by first | exact hr_nr | omega) (by first | exact hr_nl | omega) (by first | exact hr_sp_ | omega) (by first | exact hr_wtc | omega) (by first | exact hr_wcl | omega) (by first | exact hr_ir | omega) (by first | exact hr_ip | omega) (by first | exact hr_shu | omega) (by first | exact hr_sfa | omega) (by first | exact hr_swr | omega) (by show (1 : Int) ≤ 3 ∧ (3 : Int) ≤ 4; decide) hq1_4 (hf12.1)) (cwV 1 hts gg_3 rfl rfl rfl (by decide +kernel) ⟨Nat.le_of_ble_eq_true rfl, Nat.le_of_ble_eq_true rfl⟩) ⟨pcW.blind, (va_recv hG.1 hP (ci := 12) (q0 := 6) rfl rfl), pre9⟩ rfl rfl hlv.1 rfl (lv_room (Nat.le_of_ble_eq_true rfl)) dX12_deep_26 ⟨Nat.le_of_ble_eq_true rfl, Nat.le_of_ble_eq_true rfl⟩)) hP hD hS hA hG hT [6, 7, 5, 0] rfl (by decide +kernel) (fun r3 u3 H locs hw3 hq9 hS => ?_)
      obtain ⟨rfl, hq3_1, hq3_2, hq3_3, hq3_4, hq3_5⟩ := hw3
      obtain ⟨hP, hD⟩ := pd9 [zI m14 (cy 0) 389 f14, zI m19 (cy 0) 4 f19, zI m20 (cy 0) 32 f20, zI m21 (cy 0) 32 f21, zO mm 12 [vI (u3.2.1 1), vR m1, vI tp, vI sz_, vI ap, vI bad, vI bk, vI opn, vI fp, vR m9, vR m10, vR m11, vR m12, vR m13, vR m14, vR m15, vI im, vI nr, vI nl, vR m19, vR m20, vR m21, vI sp_, vR m23, vR m24, vR m25, vR m26, vR m27, vR m28, vI wtc, vI wcl, vI ir, vI ip, vR m33, vI shu, vR m35, vI sfa, vI swr], zI m1 (cy 0) 4 (u3.2.2 0), zI m10 (cy 0) 68 f10, zI m12 (cy 0) 389 f12] hq9
      refine iz_ne (tgt := 34) hx hb dX12_deep_29 (by decide) (by first | exact rgw hq3_2 (by decide) (by decide) | omega) (fun c_3 => ?_) (fun c_3 => ?_)
      · refine lv_aload_n hx hb dX12_deep_34 rfl (lv_at hlv 0 rfl) ?_
        refine cjr_v [false, true, true, true, false, true, true, false] (fun pre9 => (va_runV (As := []) (rest := []) ⟨hx, hb, hml, hown, hts⟩ (m_keeps l hl D cy sa mm m1 m9 m10 m11 m12 m13 m14 m15 m19 m20 m21 m23 m24 m25 m26 m27 m28 m33 m35 (u3.2.1 1) tp sz_ ap bad bk opn fp im nr nl sp_ wtc wcl ir ip shu sfa swr f12 f14 qs H.size (by first | exact hq3_1 | omega) (by first | exact hr_tp | omega) (by first | exact hr_sz_ | omega) (by first | exact hr_ap | omega) (by first | exact hr_bad | omega) (by first | exact hr_bk | omega) (by first | exact hr_opn | omega) (by first | exact hr_fp | omega) (by first | exact hr_im | omega) (by first | exact hr_nr | omega) (by first | exact hr_nl | omega) (by first | exact hr_sp_ | omega) (by first | exact hr_wtc | omega) (by first | exact hr_wcl | omega) (by first | exact hr_ir | omega) (by first | exact hr_ip | omega) (by first | exact hr_shu | omega) (by first | exact hr_sfa | omega) (by first | exact hr_swr | omega) hf12 hf14) (cwV 0 hts gg_4 rfl rfl rfl (by decide +kernel) ⟨Nat.le_of_ble_eq_true rfl, Nat.le_of_ble_eq_true rfl⟩) ⟨pcW.blind, (va_recv hG.1 hP (ci := 12) (q0 := 4) rfl rfl), pre9⟩ rfl rfl hlv.1 rfl (lv_room (Nat.le_of_ble_eq_true rfl)) dX12_deep_35 ⟨Nat.le_of_ble_eq_true rfl, Nat.le_of_ble_eq_true rfl⟩)) hP hD hS hA hG hT [4, 7, 0] rfl (by decide +kernel) (fun u4 H locs hw4 hq9 hS => ?_)
        obtain ⟨hq4_0, hq4_1⟩ := hw4
        obtain ⟨hP, hD⟩ := pd9 [zI m19 (cy 0) 4 f19, zI m20 (cy 0) 32 f20, zI m21 (cy 0) 32 f21, zI m1 (cy 0) 4 (u3.2.2 0), zI m10 (cy 0) 68 f10, zO mm 12 [vI (u3.2.1 1), vR m1, vI tp, vI sz_, vI ap, vI bad, vI bk, vI opn, vI fp, vR m9, vR m10, vR m11, vR m12, vR m13, vR m14, vR m15, vI im, vI nr, vI nl, vR m19, vR m20, vR m21, vI sp_, vR m23, vR m24, vR m25, vR m26, vR m27, vR m28, vI wtc, vI wcl, vI ir, vI ip, vR m33, vI shu, vR m35, vI sfa, vI swr], zI m12 (cy 0) 389 f12, zI m14 (cy 0) 389 (u4.2.2 0)] hq9
        refine lv_aload_n hx hb dX12_deep_38 rfl (lv_at hlv 0 rfl) ?_
        refine lv_iload_n hx hb dX12_deep_39 rfl (lv_at hlv 1 rfl) ?_
        refine lv_iload_n hx hb dX12_deep_40 rfl (lv_at hlv 2 rfl) ?_
        refine lv_iload_n hx hb dX12_deep_41 rfl (lv_at hlv 3 rfl) ?_
        refine cjr_i [true, true, true, true, true, true, true, true] (fun pre9 => (va_runS (As := [vI x, vI y]) (rest := [vI n, vR mm]) ⟨hx, hb, hml, hown, hts⟩ (m_at l hl D cy sa x y H.size (by omega) (by omega)) (va_cwS 2 hts gg_5 rfl rfl rfl (by decide +kernel) ⟨Nat.le_of_ble_eq_true rfl, Nat.le_of_ble_eq_true rfl⟩) ⟨pcW.blind, pre9⟩ rfl rfl hlv.1 rfl (lv_room (Nat.le_of_ble_eq_true rfl)) dX12_deep_42 ⟨Nat.le_of_ble_eq_true rfl, Nat.le_of_ble_eq_true rfl⟩)) hP hD hS hA hG hT [] rfl (by decide +kernel) (fun r5 u5 H locs hw5 hq9 hS => ?_)
        obtain ⟨rfl, hq5_1, hq5_2⟩ := hw5
        obtain ⟨hP, hD⟩ := pd9 [zI m19 (cy 0) 4 f19, zI m20 (cy 0) 32 f20, zI m21 (cy 0) 32 f21, zI m1 (cy 0) 4 (u3.2.2 0), zI m10 (cy 0) 68 f10, zO mm 12 [vI (u3.2.1 1), vR m1, vI tp, vI sz_, vI ap, vI bad, vI bk, vI opn, vI fp, vR m9, vR m10, vR m11, vR m12, vR m13, vR m14, vR m15, vI im, vI nr, vI nl, vR m19, vR m20, vR m21, vI sp_, vR m23, vR m24, vR m25, vR m26, vR m27, vR m28, vI wtc, vI wcl, vI ir, vI ip, vR m33, vI shu, vR m35, vI sfa, vI swr], zI m12 (cy 0) 389 f12, zI m14 (cy 0) 389 (u4.2.2 0)] hq9
        refine cjr_i [false, false, false, true, false, false, false, true] (fun pre9 => (va_runV (As := [vI n, vI (u5.2.1 0)]) (rest := []) ⟨hx, hb, hml, hown, hts⟩ (m_deepBehind l hl D cy sa mm m1 m9 m10 m11 m12 m13 m14 m15 m19 m20 m21 m23 m24 m25 m26 m27 m28 m33 m35 (u3.2.1 1) tp sz_ ap bad bk opn fp im nr nl sp_ wtc wcl ir ip shu sfa swr f10 f12 f19 f20 f21 n (u5.2.1 0) qs H.size (by first | exact hq3_1 | omega) (by first | exact hr_tp | omega) (by first | exact hr_sz_ | omega) (by first | exact hr_ap | omega) (by first | exact hr_bad | omega) (by first | exact hr_bk | omega) (by first | exact hr_opn | omega) (by first | exact hr_fp | omega) (by first | exact hr_im | omega) (by first | exact hr_nr | omega) (by first | exact hr_nl | omega) (by first | exact hr_sp_ | omega) (by first | exact hr_wtc | omega) (by first | exact hr_wcl | omega) (by first | exact hr_ir | omega) (by first | exact hr_ip | omega) (by first | exact hr_shu | omega) (by first | exact hr_sfa | omega) (by first | exact hr_swr | omega) (by omega) (by first | exact hq5_1 | omega) hq3_4 hq4_0 hf19) (cwV 2 hts gg_6 rfl rfl rfl (by decide +kernel) ⟨Nat.le_of_ble_eq_true rfl, Nat.le_of_ble_eq_true rfl⟩) ⟨pcW.blind, (va_recv hG.1 hP (ci := 12) (q0 := 5) rfl rfl), pre9⟩ rfl rfl hlv.1 rfl (lv_room (Nat.le_of_ble_eq_true rfl)) dX12_deep_45 ⟨Nat.le_of_ble_eq_true rfl, Nat.le_of_ble_eq_true rfl⟩)) hP hD hS hA hG hT [5, 4, 6, 0, 1, 2] rfl (by decide +kernel) (fun r6 u6 H locs hw6 hq9 hS => ?_)
        obtain ⟨rfl, hq6_1, hq6_2, hq6_3, hq6_4⟩ := hw6
        obtain ⟨hP, hD⟩ := pd9 [zI m1 (cy 0) 4 (u3.2.2 0), zI m14 (cy 0) 389 (u4.2.2 0), zO mm 12 [vI (u3.2.1 1), vR m1, vI tp, vI sz_, vI ap, vI bad, vI bk, vI opn, vI fp, vR m9, vR m10, vR m11, vR m12, vR m13, vR m14, vR m15, vI im, vI nr, vI nl, vR m19, vR m20, vR m21, vI sp_, vR m23, vR m24, vR m25, vR m26, vR m27, vR m28, vI wtc, vI wcl, vI ir, vI ip, vR m33, vI shu, vR m35, vI sfa, vI swr], zI m10 (cy 0) 68 f10, zI m12 (cy 0) 389 (u6.2.2 0), zI m19 (cy 0) 4 f19, zI m20 (cy 0) 32 f20, zI m21 (cy 0) 32 f21] hq9
        refine lv_istore (lv' := [(4, vI (u6.2.1 0)), (0, vR mm), (1, vI n), (2, vI x), (3, vI y)]) hx hb dX12_deep_48 hlv (by decide) rfl (fun ls hlv => ?_)
        refine lv_aload_n hx hb dX12_deep_50 rfl (lv_at hlv 1 rfl) ?_
        refine cjr_v [true, false, false, true, false, true, true, true] (fun pre9 => (va_runV (As := []) (rest := []) ⟨hx, hb, hml, hown, hts⟩ (m_back l hl D cy sa mm m1 m9 m10 m11 m12 m13 m14 m15 m19 m20 m21 m23 m24 m25 m26 m27 m28 m33 m35 (u3.2.1 1) tp sz_ ap bad bk opn fp im nr nl sp_ wtc wcl ir ip shu sfa swr (u6.2.2 0) (u4.2.2 0) 8 qs H.size (by first | exact hq3_1 | omega) (by first | exact hr_tp | omega) (by first | exact hr_sz_ | omega) (by first | exact hr_ap | omega) (by first | exact hr_bad | omega) (by first | exact hr_bk | omega) (by first | exact hr_opn | omega) (by first | exact hr_fp | omega) (by first | exact hr_im | omega) (by first | exact hr_nr | omega) (by first | exact hr_nl | omega) (by first | exact hr_sp_ | omega) (by first | exact hr_wtc | omega) (by first | exact hr_wcl | omega) (by first | exact hr_ir | omega) (by first | exact hr_ip | omega) (by first | exact hr_shu | omega) (by first | exact hr_sfa | omega) (by first | exact hr_swr | omega) (by show (8 : Int) ≤ 8 ∧ (8 : Int) ≤ 9; decide) (hq6_3.1) hq4_1) (cwV 0 hts gg_7 rfl rfl rfl (by decide +kernel) ⟨Nat.le_of_ble_eq_true rfl, Nat.le_of_ble_eq_true rfl⟩) ⟨pcW.blind, (va_recv hG.1 hP (ci := 12) (q0 := 2) rfl rfl), pre9⟩ rfl rfl hlv.1 rfl (lv_room (Nat.le_of_ble_eq_true rfl)) dX12_deep_51 ⟨Nat.le_of_ble_eq_true rfl, Nat.le_of_ble_eq_true rfl⟩)) hP hD hS hA hG hT [2, 4, 1] rfl (by decide +kernel) (fun u7 H locs hw7 hq9 hS => ?_)
        obtain ⟨hq7_0, hq7_1⟩ := hw7
        obtain ⟨hP, hD⟩ := pd9 [zI m1 (cy 0) 4 (u3.2.2 0), zI m10 (cy 0) 68 f10, zI m19 (cy 0) 4 f19, zI m20 (cy 0) 32 f20, zI m21 (cy 0) 32 f21, zO mm 12 [vI (u3.2.1 1), vR m1, vI tp, vI sz_, vI ap, vI bad, vI bk, vI opn, vI fp, vR m9, vR m10, vR m11, vR m12, vR m13, vR m14, vR m15, vI im, vI nr, vI nl, vR m19, vR m20, vR m21, vI sp_, vR m23, vR m24, vR m25, vR m26, vR m27, vR m28, vI wtc, vI wcl, vI ir, vI ip, vR m33, vI shu, vR m35, vI sfa, vI swr], zI m12 (cy 0) 389 (u7.2.2 0), zI m14 (cy 0) 389 (u4.2.2 0)] hq9
        refine lv_iload hx hb dX12_deep_54 (lv_at hlv 0 rfl) ?_
        refine W.widen (k := 0) (n := 0) (Nat.le_of_ble_eq_true rfl) (Nat.le_of_ble_eq_true rfl) ?_
        exact W.iret (v := iI (u6.2.1 0)) hx hb hr (fun t ht hW => ⟨⟨iI (u6.2.1 0), ((fun k => ([] : List Nat).getD k 0), (fun k => ([(u6.2.1 0), (u3.2.1 1)] : List Int).getD k 0), (fun k => ([(u3.2.2 0), (u7.2.2 0), (u4.2.2 0)] : List (Nat → Int32)).getD k (fun _ => 0))), rfl, ⟨rfl, (by show ((-2147483648) ≤ (u3.2.1 1) ∧ (u3.2.1 1) ≤ 2147483647); first | exact hq3_1 | omega), (by show ((-2147483648) ≤ (u6.2.1 0) ∧ (u6.2.1 0) ≤ 2147483647); first | exact hq6_1 | omega), hq6_2, hq7_0, (hq7_1.1), hq6_4⟩, at9 ht hP hD [5, 0, 1, 6, 7, 2, 3, 4] (by decide +kernel) rfl⟩, hS.F ht⟩) hS.2.2 dX12_deep_56
      · refine lv_iconst (v := iI 0) hx hb dX12_deep_32 (by decide) ?_
        refine W.widen (k := 0) (n := 0) (Nat.le_of_ble_eq_true rfl) (Nat.le_of_ble_eq_true rfl) ?_
        exact W.iret (v := iI 0) hx hb hr (fun t ht hW => ⟨⟨iI 0, ((fun k => ([] : List Nat).getD k 0), (fun k => ([0, (u3.2.1 1)] : List Int).getD k 0), (fun k => ([(u3.2.2 0), f12, f14] : List (Nat → Int32)).getD k (fun _ => 0))), rfl, ⟨rfl, (by show ((-2147483648) ≤ (u3.2.1 1) ∧ (u3.2.1 1) ≤ 2147483647); first | exact hq3_1 | omega), (by show ((-2147483648) ≤ 0 ∧ 0 ≤ 2147483647); show ((-2147483648) : Int) ≤ 0 ∧ (0 : Int) ≤ 2147483647; decide), hq3_4, hf12, hf14, hf19⟩, at9 ht hP hD [4, 5, 6, 7, 0, 1, 2, 3] (by decide +kernel) rfl⟩, hS.F ht⟩) hS.2.2 dX12_deep_33
def vs_m_when : List Cond := .code yX12_when cX12_when 8 (some .int) :: (([.fieldLink RX12 1 "KerbSplashModel" "thrown" "I", .fieldLink RX12 29 "KerbSplashModel" "s" "[I", .fieldLink RX12 318 "KerbSplashModel" "watch" "I", .fieldLink RX12 321 "KerbSplashModel" "watchCell" "I"] : List Cond) ++ ((wsX120) ++ ((wsV RX12 286 RX12 yX12_isCell vs_m_isCell) ++ ((wsV RX12 324 RX12 yX12_isRain vs_m_isRain) ++ ((va_wsS RX12 279 yX12_within vs_m_within) ++ ((wsV RX12 175 RX12 yX12_may vs_m_may) ++ ((wsV RX12 312 RX12 yX12_isNow vs_m_isNow) ++ ((va_wsS RX12 289 yX12_at vs_m_at) ++ ((wsV RX12 381 RX12 yX12_keeps vs_m_keeps) ++ ((wsV RX12 328 RX12 yX12_showers vs_m_showers) ++ ((wsV RX12 387 RX12 yX12_comesBack vs_m_back) ++ ([]))))))))))))
set_option maxHeartbeats 4000000 in
set_option maxRecDepth 100000 in
theorem m_when (l : Launch) (hl : l.stackTraces = false) (D : va_G) (cy : Nat → ClassId) (sa : Nat → Nat) (mm m1 m9 m10 m11 m12 m13 m14 m15 m19 m20 m21 m23 m24 m25 m26 m27 m28 m33 m35 : Nat) (th tp sz_ ap bad bk opn fp im nr nl sp_ wtc wcl ir ip shu sfa swr : Int) (f1 f10 f12 f14 f19 f20 f21 : Nat → Int32) (n x y k : Int) (qs : Nat → Int) (sz : Nat) (hr_th : (-2147483648) ≤ th ∧ th ≤ 2147483647) (hr_tp : 0 ≤ tp ∧ tp ≤ 600) (hr_sz_ : 0 ≤ sz_ ∧ sz_ ≤ 600) (hr_ap : 0 ≤ ap ∧ ap ≤ 602) (hr_bad : (-1) ≤ bad ∧ bad ≤ 602) (hr_bk : 0 ≤ bk ∧ bk ≤ 4) (hr_opn : 0 ≤ opn ∧ opn ≤ 7) (hr_fp : (-2147483648) ≤ fp ∧ fp ≤ 2147483647) (hr_im : 0 ≤ im ∧ im ≤ 3) (hr_nr : 0 ≤ nr ∧ nr ≤ 4) (hr_nl : 0 ≤ nl ∧ nl ≤ 4) (hr_sp_ : 0 ≤ sp_ ∧ sp_ ≤ 602) (hr_wtc : (-2147483648) ≤ wtc ∧ wtc ≤ 2147483647) (hr_wcl : 0 ≤ wcl ∧ wcl ≤ 95) (hr_ir : 0 ≤ ir ∧ ir ≤ 5) (hr_ip : (-2147483648) ≤ ip ∧ ip ≤ 2147483647) (hr_shu : (-2147483648) ≤ shu ∧ shu ≤ 2147483647) (hr_sfa : (-2147483648) ≤ sfa ∧ sfa ≤ 2147483647) (hr_swr : (-2147483648) ≤ swr ∧ swr ≤ 2147483647) (hr_n : (-2147483648) ≤ n ∧ n ≤ 2147483647) (hr_x : (-2147483648) ≤ x ∧ x ≤ 2147483647) (hr_y : (-2147483648) ≤ y ∧ y ≤ 2147483647) (hr_k : (-2147483648) ≤ k ∧ k ≤ 2147483647) (hf10 : BI f10) (hf12 : SQ qs 8 f12) (hf14 : SI 8 f14) (hf19 : inv_ 4 0 8 f19) : mI9 l yX12_when vs_m_when ({ frames := 5, cells := 0, slots := 0, locals := 119 }) D cy sa sz [vR mm, vI n, vI x, vI y, vI k] [zO mm 12 [vI th, vR m1, vI tp, vI sz_, vI ap, vI bad, vI bk, vI opn, vI fp, vR m9, vR m10, vR m11, vR m12, vR m13, vR m14, vR m15, vI im, vI nr, vI nl, vR m19, vR m20, vR m21, vI sp_, vR m23, vR m24, vR m25, vR m26, vR m27, vR m28, vI wtc, vI wcl, vI ir, vI ip, vR m33, vI shu, vR m35, vI sfa, vI swr], zI m1 (cy 0) 4 f1, zI m10 (cy 0) 68 f10, zI m12 (cy 0) 389 f12, zI m14 (cy 0) 389 f14, zI m19 (cy 0) 4 f19, zI m20 (cy 0) 32 f20, zI m21 (cy 0) 32 f21] (fun (r : Int32) (u : SV) => r = iI (u.2.1 0) ∧ ((-2147483648) ≤ u.2.1 1 ∧ u.2.1 1 ≤ 2147483647) ∧ ((-2147483648) ≤ u.2.1 2 ∧ u.2.1 2 ≤ 2147483647) ∧ (0 ≤ u.2.1 3 ∧ u.2.1 3 ≤ 95) ∧ ((-2147483648) ≤ u.2.1 0 ∧ u.2.1 0 ≤ 2147483647) ∧ BI f10 ∧ SQ qs 8 (u.2.2 1) ∧ SI 8 (u.2.2 2) ∧ inv_ 4 0 8 f19) (fun u : SV => [zO mm 12 [vI (u.2.1 1), vR m1, vI tp, vI sz_, vI ap, vI bad, vI bk, vI opn, vI fp, vR m9, vR m10, vR m11, vR m12, vR m13, vR m14, vR m15, vI im, vI nr, vI nl, vR m19, vR m20, vR m21, vI sp_, vR m23, vR m24, vR m25, vR m26, vR m27, vR m28, vI (u.2.1 2), vI (u.2.1 3), vI ir, vI ip, vR m33, vI shu, vR m35, vI sfa, vI swr], zI m1 (cy 0) 4 (u.2.2 0), zI m10 (cy 0) 68 f10, zI m12 (cy 0) 389 (u.2.2 1), zI m14 (cy 0) 389 (u.2.2 2), zI m19 (cy 0) 4 f19, zI m20 (cy 0) 32 f20, zI m21 (cy 0) 32 f21]) 0 0 := by
  refine Met.ofW (cc := cX12_when) (maxL := 8) (ret := (some .int)) (by decide) rfl ?_
  intro p e s m args below meth c s₁ B hml hv
  obtain ⟨rfl, hsz, hP, hG, hD0, hT⟩ := hv
  have hx := B.exec
  have hb := B.bytes
  have hr := B.returns
  have hts := atoms_spec (ws := vs_m_when) B.pre
  have hown : s.vm.findClass RX12 = some m.cls := findClass_of_methodNamed B.named
  have hlocks := B.notSynchronized
  subst hsz
  have hD := hD0.self (sz := s.heap.size)
  generalize hAe : va_A [zO mm 12 [vI th, vR m1, vI tp, vI sz_, vI ap, vI bad, vI bk, vI opn, vI fp, vR m9, vR m10, vR m11, vR m12, vR m13, vR m14, vR m15, vI im, vI nr, vI nl, vR m19, vR m20, vR m21, vI sp_, vR m23, vR m24, vR m25, vR m26, vR m27, vR m28, vI wtc, vI wcl, vI ir, vI ip, vR m33, vI shu, vR m35, vI sfa, vI swr], zI m1 (cy 0) 4 f1, zI m10 (cy 0) 68 f10, zI m12 (cy 0) 389 f12, zI m14 (cy 0) 389 f14, zI m19 (cy 0) 4 f19, zI m20 (cy 0) 32 f20, zI m21 (cy 0) 32 f21] s.heap.size = A at hD hT ⊢
  have hA : ∀ q : Nat, s.heap.size ≤ q → A q := fun q h => by rw [← hAe]; exact Or.inr h
  have hS : va_S A s.heap s.heap [] := va_S.rf
  have hl0 := lv_entry ([vR mm, vI n, vI x, vI y, vI k]) (n := 8) (Nat.le_of_ble_eq_true rfl)
  rw [lg_entry_eq]
  generalize (lg_sl ([vR mm, vI n, vI x, vI y, vI k]) ++ List.replicate (8 - (lg_sl ([vR mm, vI n, vI x, vI y, vI k])).length) Slot.unset).toArray = ls at hl0 ⊢
  have hlv : lv_has ls 8 [(0, vR mm), (1, vI n), (2, vI x), (3, vI y), (4, vI k)] := hl0
  have lf1 := hts (.fieldLink RX12 1 "KerbSplashModel" "thrown" "I") (List.mem_of_getElem? (i := 1) rfl)
  have hi12 : ∀ w ∈ wsX120, w ∈ vs_m_when := fun w h => List.mem_cons_of_mem _ (List.mem_append_right _ (List.mem_append_left _ h))
  have gg_1 : GoodIn vs_m_when (wsV RX12 286 RX12 yX12_isCell vs_m_isCell) := goodIn_sub (fun w h => List.mem_cons_of_mem _ (List.mem_append_right _ (List.mem_append_right _ (List.mem_append_left _ h)))) (gd_V gd_m_isCell (by decide +kernel))
  have gg_2 : GoodIn vs_m_when (wsV RX12 324 RX12 yX12_isRain vs_m_isRain) := goodIn_sub (fun w h => List.mem_cons_of_mem _ (List.mem_append_right _ (List.mem_append_right _ (List.mem_append_right _ (List.mem_append_left _ h))))) (gd_V gd_m_isRain (by decide +kernel))
  have gg_3 : GoodIn vs_m_when (va_wsS RX12 279 yX12_within vs_m_within) := goodIn_sub (fun w h => List.mem_cons_of_mem _ (List.mem_append_right _ (List.mem_append_right _ (List.mem_append_right _ (List.mem_append_right _ (List.mem_append_left _ h)))))) (gd_S gd_m_within (by decide +kernel))
  have gg_4 : GoodIn vs_m_when (wsV RX12 175 RX12 yX12_may vs_m_may) := goodIn_sub (fun w h => List.mem_cons_of_mem _ (List.mem_append_right _ (List.mem_append_right _ (List.mem_append_right _ (List.mem_append_right _ (List.mem_append_right _ (List.mem_append_left _ h))))))) (gd_V gd_m_may (by decide +kernel))
  have gg_5 : GoodIn vs_m_when (wsV RX12 312 RX12 yX12_isNow vs_m_isNow) := goodIn_sub (fun w h => List.mem_cons_of_mem _ (List.mem_append_right _ (List.mem_append_right _ (List.mem_append_right _ (List.mem_append_right _ (List.mem_append_right _ (List.mem_append_right _ (List.mem_append_left _ h)))))))) (gd_V gd_m_isNow (by decide +kernel))
  have gg_6 : GoodIn vs_m_when (va_wsS RX12 289 yX12_at vs_m_at) := goodIn_sub (fun w h => List.mem_cons_of_mem _ (List.mem_append_right _ (List.mem_append_right _ (List.mem_append_right _ (List.mem_append_right _ (List.mem_append_right _ (List.mem_append_right _ (List.mem_append_right _ (List.mem_append_left _ h))))))))) (gd_S gd_m_at (by decide +kernel))
  have lf29 := hts (.fieldLink RX12 29 "KerbSplashModel" "s" "[I") (List.mem_of_getElem? (i := 2) rfl)
  have gg_7 : GoodIn vs_m_when (wsV RX12 381 RX12 yX12_keeps vs_m_keeps) := goodIn_sub (fun w h => List.mem_cons_of_mem _ (List.mem_append_right _ (List.mem_append_right _ (List.mem_append_right _ (List.mem_append_right _ (List.mem_append_right _ (List.mem_append_right _ (List.mem_append_right _ (List.mem_append_right _ (List.mem_append_left _ h)))))))))) (gd_V gd_m_keeps (by decide +kernel))
  have lf318 := hts (.fieldLink RX12 318 "KerbSplashModel" "watch" "I") (List.mem_of_getElem? (i := 3) rfl)
  have lf321 := hts (.fieldLink RX12 321 "KerbSplashModel" "watchCell" "I") (List.mem_of_getElem? (i := 4) rfl)
  have gg_8 : GoodIn vs_m_when (wsV RX12 328 RX12 yX12_showers vs_m_showers) := goodIn_sub (fun w h => List.mem_cons_of_mem _ (List.mem_append_right _ (List.mem_append_right _ (List.mem_append_right _ (List.mem_append_right _ (List.mem_append_right _ (List.mem_append_right _ (List.mem_append_right _ (List.mem_append_right _ (List.mem_append_right _ (List.mem_append_left _ h))))))))))) (gd_V gd_m_showers (by decide +kernel))
  have gg_9 : GoodIn vs_m_when (wsV RX12 387 RX12 yX12_comesBack vs_m_back) := goodIn_sub (fun w h => List.mem_cons_of_mem _ (List.mem_append_right _ (List.mem_append_right _ (List.mem_append_right _ (List.mem_append_right _ (List.mem_append_right _ (List.mem_append_right _ (List.mem_append_right _ (List.mem_append_right _ (List.mem_append_right _ (List.mem_append_right _ (List.mem_append_left _ h)))))))))))) (gd_V gd_m_back (by decide +kernel))
  refine lv_aload_n hx hb dX12_when_0 rfl (lv_at hlv 0 rfl) ?_
  refine lv_iconst (v := iI 0) hx hb dX12_when_1 (by decide) ?_
  refine va_put (D := D) (ci := 12) (v := vI 0) (ty := .int) (C := RX12) (T := TX12) (N := 38) hx hb hts hi12 tyX12 tyX12_ok nmX12 hown hG.1 hP hD hS 0 rfl rfl 0 (by decide) lf1 (fun _ h9 => h9) rfl (by decide +kernel) rfl rfl (Nat.le_of_ble_eq_true rfl) dX12_when_2 (fun H locs hP hD hS => ?_)
  obtain ⟨hP, hD⟩ := pw9 [zO mm 12 [vI 0, vR m1, vI tp, vI sz_, vI ap, vI bad, vI bk, vI opn, vI fp, vR m9, vR m10, vR m11, vR m12, vR m13, vR m14, vR m15, vI im, vI nr, vI nl, vR m19, vR m20, vR m21, vI sp_, vR m23, vR m24, vR m25, vR m26, vR m27, vR m28, vI wtc, vI wcl, vI ir, vI ip, vR m33, vI shu, vR m35, vI sfa, vI swr], zI m1 (cy 0) 4 f1, zI m10 (cy 0) 68 f10, zI m12 (cy 0) 389 f12, zI m14 (cy 0) 389 f14, zI m19 (cy 0) 4 f19, zI m20 (cy 0) 32 f20, zI m21 (cy 0) 32 f21] hP hD
  refine lv_aload_n hx hb dX12_when_5 rfl (lv_at hlv 0 rfl) ?_
  refine lv_iload_n hx hb dX12_when_6 rfl (lv_at hlv 2 rfl) ?_
  refine lv_iload_n hx hb dX12_when_7 rfl (lv_at hlv 3 rfl) ?_
  refine lv_iconst (v := iI 1) hx hb dX12_when_8 (by decide) ?_
  refine cjr_i [false, false, false, true, true, true, true, true] (fun pre9 => (va_runV (As := [vI x, vI y, vI 1]) (rest := []) ⟨hx, hb, hml, hown, hts⟩ (m_isCell l hl D cy sa mm m1 m9 m10 m11 m12 m13 m14 m15 m19 m20 m21 m23 m24 m25 m26 m27 m28 m33 m35 0 tp sz_ ap bad bk opn fp im nr nl sp_ wtc wcl ir ip shu sfa swr f1 f10 x y 1 H.size (by show ((-2147483648) : Int) ≤ 0 ∧ (0 : Int) ≤ 2147483647; decide) (by first | exact hr_tp | omega) (by first | exact hr_sz_ | omega) (by first | exact hr_ap | omega) (by first | exact hr_bad | omega) (by first | exact hr_bk | omega) (by first | exact hr_opn | omega) (by first | exact hr_fp | omega) (by first | exact hr_im | omega) (by first | exact hr_nr | omega) (by first | exact hr_nl | omega) (by first | exact hr_sp_ | omega) (by first | exact hr_wtc | omega) (by first | exact hr_wcl | omega) (by first | exact hr_ir | omega) (by first | exact hr_ip | omega) (by first | exact hr_shu | omega) (by first | exact hr_sfa | omega) (by first | exact hr_swr | omega) (by first | exact hr_x | omega) (by first | exact hr_y | omega) (by show (1 : Int) ≤ 1 ∧ (1 : Int) ≤ 4; decide) hf10) (cwV 3 hts gg_1 rfl rfl rfl (by decide +kernel) ⟨Nat.le_of_ble_eq_true rfl, Nat.le_of_ble_eq_true rfl⟩) ⟨pcW.blind, (va_recv hG.1 hP (ci := 12) (q0 := 0) rfl rfl), pre9⟩ rfl rfl hlv.1 rfl (lv_room (Nat.le_of_ble_eq_true rfl)) dX12_when_9 ⟨Nat.le_of_ble_eq_true rfl, Nat.le_of_ble_eq_true rfl⟩)) hP hD hS hA hG hT [0, 1, 2] rfl (by decide +kernel) (fun r1 u1 H locs hw1 hq9 hS => ?_)
  obtain ⟨rfl, hq1_1, hq1_2, hq1_3, hq1_4⟩ := hw1
  obtain ⟨hP, hD⟩ := pd9 [zI m12 (cy 0) 389 f12, zI m14 (cy 0) 389 f14, zI m19 (cy 0) 4 f19, zI m20 (cy 0) 32 f20, zI m21 (cy 0) 32 f21, zO mm 12 [vI (u1.2.1 1), vR m1, vI tp, vI sz_, vI ap, vI bad, vI bk, vI opn, vI fp, vR m9, vR m10, vR m11, vR m12, vR m13, vR m14, vR m15, vI im, vI nr, vI nl, vR m19, vR m20, vR m21, vI sp_, vR m23, vR m24, vR m25, vR m26, vR m27, vR m28, vI wtc, vI wcl, vI ir, vI ip, vR m33, vI shu, vR m35, vI sfa, vI swr], zI m1 (cy 0) 4 (u1.2.2 0), zI m10 (cy 0) 68 f10] hq9
  refine iz_eq (tgt := 50) hx hb dX12_when_12 (by decide) (by first | exact rgw hq1_2 (by decide) (by decide) | omega) (fun c_1 => ?_) (fun c_1 => ?_)
  · refine lv_iconst (v := iI 0) hx hb dX12_when_50 (by decide) ?_
    refine W.widen (k := 0) (n := 0) (Nat.le_of_ble_eq_true rfl) (Nat.le_of_ble_eq_true rfl) ?_
    exact W.iret (v := iI 0) hx hb hr (fun t ht hW => ⟨⟨iI 0, ((fun k => ([] : List Nat).getD k 0), (fun k => ([0, (u1.2.1 1), wtc, wcl] : List Int).getD k 0), (fun k => ([(u1.2.2 0), f12, f14] : List (Nat → Int32)).getD k (fun _ => 0))), rfl, ⟨rfl, (by show ((-2147483648) ≤ (u1.2.1 1) ∧ (u1.2.1 1) ≤ 2147483647); first | exact hq1_1 | omega), (by show ((-2147483648) ≤ wtc ∧ wtc ≤ 2147483647); first | exact hr_wtc | omega), (by show (0 ≤ wcl ∧ wcl ≤ 95); first | exact hr_wcl | omega), (by show ((-2147483648) ≤ 0 ∧ 0 ≤ 2147483647); show ((-2147483648) : Int) ≤ 0 ∧ (0 : Int) ≤ 2147483647; decide), hq1_4, hf12, hf14, hf19⟩, at9 ht hP hD [5, 6, 7, 0, 1, 2, 3, 4] (by decide +kernel) rfl⟩, hS.F ht⟩) hS.2.2 dX12_when_51
  · refine lv_aload_n hx hb dX12_when_15 rfl (lv_at hlv 0 rfl) ?_
    refine lv_iload_n hx hb dX12_when_16 rfl (lv_at hlv 1 rfl) ?_
    refine lv_iconst (v := iI 2) hx hb dX12_when_17 (by decide) ?_
    refine cjr_i [true, true, true, true, true, false, false, true] (fun pre9 => (va_runV (As := [vI n, vI 2]) (rest := []) ⟨hx, hb, hml, hown, hts⟩ (m_isRain l hl D cy sa mm m1 m9 m10 m11 m12 m13 m14 m15 m19 m20 m21 m23 m24 m25 m26 m27 m28 m33 m35 (u1.2.1 1) tp sz_ ap bad bk opn fp im nr nl sp_ wtc wcl ir ip shu sfa swr (u1.2.2 0) n 2 H.size (by first | exact hq1_1 | omega) (by first | exact hr_tp | omega) (by first | exact hr_sz_ | omega) (by first | exact hr_ap | omega) (by first | exact hr_bad | omega) (by first | exact hr_bk | omega) (by first | exact hr_opn | omega) (by first | exact hr_fp | omega) (by first | exact hr_im | omega) (by first | exact hr_nr | omega) (by first | exact hr_nl | omega) (by first | exact hr_sp_ | omega) (by first | exact hr_wtc | omega) (by first | exact hr_wcl | omega) (by first | exact hr_ir | omega) (by first | exact hr_ip | omega) (by first | exact hr_shu | omega) (by first | exact hr_sfa | omega) (by first | exact hr_swr | omega) (by first | exact hr_n | omega) (by show (1 : Int) ≤ 2 ∧ (2 : Int) ≤ 4; decide)) (cwV 2 hts gg_2 rfl rfl rfl (by decide +kernel) ⟨Nat.le_of_ble_eq_true rfl, Nat.le_of_ble_eq_true rfl⟩) ⟨pcW.blind, (va_recv hG.1 hP (ci := 12) (q0 := 5) rfl rfl), pre9⟩ rfl rfl hlv.1 rfl (lv_room (Nat.le_of_ble_eq_true rfl)) dX12_when_18 ⟨Nat.le_of_ble_eq_true rfl, Nat.le_of_ble_eq_true rfl⟩)) hP hD hS hA hG hT [5, 6] rfl (by decide +kernel) (fun r2 u2 H locs hw2 hq9 hS => ?_)
    obtain ⟨rfl, hq2_1, hq2_2, hq2_3⟩ := hw2
    obtain ⟨hP, hD⟩ := pd9 [zI m12 (cy 0) 389 f12, zI m14 (cy 0) 389 f14, zI m19 (cy 0) 4 f19, zI m20 (cy 0) 32 f20, zI m21 (cy 0) 32 f21, zI m10 (cy 0) 68 f10, zO mm 12 [vI (u2.2.1 1), vR m1, vI tp, vI sz_, vI ap, vI bad, vI bk, vI opn, vI fp, vR m9, vR m10, vR m11, vR m12, vR m13, vR m14, vR m15, vI im, vI nr, vI nl, vR m19, vR m20, vR m21, vI sp_, vR m23, vR m24, vR m25, vR m26, vR m27, vR m28, vI wtc, vI wcl, vI ir, vI ip, vR m33, vI shu, vR m35, vI sfa, vI swr], zI m1 (cy 0) 4 (u2.2.2 0)] hq9
    refine iz_eq (tgt := 50) hx hb dX12_when_21 (by decide) (by first | exact rgw hq2_2 (by decide) (by decide) | omega) (fun c_2 => ?_) (fun c_2 => ?_)
    · refine lv_iconst (v := iI 0) hx hb dX12_when_50 (by decide) ?_
      refine W.widen (k := 0) (n := 0) (Nat.le_of_ble_eq_true rfl) (Nat.le_of_ble_eq_true rfl) ?_
      exact W.iret (v := iI 0) hx hb hr (fun t ht hW => ⟨⟨iI 0, ((fun k => ([] : List Nat).getD k 0), (fun k => ([0, (u2.2.1 1), wtc, wcl] : List Int).getD k 0), (fun k => ([(u2.2.2 0), f12, f14] : List (Nat → Int32)).getD k (fun _ => 0))), rfl, ⟨rfl, (by show ((-2147483648) ≤ (u2.2.1 1) ∧ (u2.2.1 1) ≤ 2147483647); first | exact hq2_1 | omega), (by show ((-2147483648) ≤ wtc ∧ wtc ≤ 2147483647); first | exact hr_wtc | omega), (by show (0 ≤ wcl ∧ wcl ≤ 95); first | exact hr_wcl | omega), (by show ((-2147483648) ≤ 0 ∧ 0 ≤ 2147483647); show ((-2147483648) : Int) ≤ 0 ∧ (0 : Int) ≤ 2147483647; decide), hq1_4, hf12, hf14, hf19⟩, at9 ht hP hD [6, 7, 5, 0, 1, 2, 3, 4] (by decide +kernel) rfl⟩, hS.F ht⟩) hS.2.2 dX12_when_51
    · refine lv_aload_n hx hb dX12_when_24 rfl (lv_at hlv 0 rfl) ?_
      refine lv_iload hx hb dX12_when_25 (lv_at hlv 4 rfl) ?_
      refine lv_iconst (v := iI 1) hx hb dX12_when_27 (by decide) ?_
      refine lv_sipush (v := iI 9999) hx hb dX12_when_28 (by decide) ?_
      refine cjr_i [true, true, true, true, true, true, true, true] (fun pre9 => (va_runS (As := [vI k, vI 1, vI 9999]) (rest := [vR mm]) ⟨hx, hb, hml, hown, hts⟩ (m_within l hl D cy sa k 1 9999 H.size (by first | exact hr_k | omega) (by show ((-2147483648) : Int) ≤ 1 ∧ (1 : Int) ≤ 2147483647; decide) (by show ((-2147483648) : Int) ≤ 9999 ∧ (9999 : Int) ≤ 2147483647; decide)) (va_cwS 3 hts gg_3 rfl rfl rfl (by decide +kernel) ⟨Nat.le_of_ble_eq_true rfl, Nat.le_of_ble_eq_true rfl⟩) ⟨pcW.blind, pre9⟩ rfl rfl hlv.1 rfl (lv_room (Nat.le_of_ble_eq_true rfl)) dX12_when_31 ⟨Nat.le_of_ble_eq_true rfl, Nat.le_of_ble_eq_true rfl⟩)) hP hD hS hA hG hT [] rfl (by decide +kernel) (fun r3 u3 H locs hw3 hq9 hS => ?_)
      obtain ⟨rfl, hq3_1, hq3_2, hq3_3⟩ := hw3
      obtain ⟨hP, hD⟩ := pd9 [zI m12 (cy 0) 389 f12, zI m14 (cy 0) 389 f14, zI m19 (cy 0) 4 f19, zI m20 (cy 0) 32 f20, zI m21 (cy 0) 32 f21, zI m10 (cy 0) 68 f10, zO mm 12 [vI (u2.2.1 1), vR m1, vI tp, vI sz_, vI ap, vI bad, vI bk, vI opn, vI fp, vR m9, vR m10, vR m11, vR m12, vR m13, vR m14, vR m15, vI im, vI nr, vI nl, vR m19, vR m20, vR m21, vI sp_, vR m23, vR m24, vR m25, vR m26, vR m27, vR m28, vI wtc, vI wcl, vI ir, vI ip, vR m33, vI shu, vR m35, vI sfa, vI swr], zI m1 (cy 0) 4 (u2.2.2 0)] hq9
      refine lv_iconst (v := iI 3) hx hb dX12_when_34 (by decide) ?_
      refine lv_iconst (v := iI 2) hx hb dX12_when_35 (by decide) ?_
      refine cjr_i [true, true, true, true, true, true, false, false] (fun pre9 => (va_runV (As := [vI (u3.2.1 0), vI 3, vI 2]) (rest := []) ⟨hx, hb, hml, hown, hts⟩ (m_may l hl D cy sa mm m1 m9 m10 m11 m12 m13 m14 m15 m19 m20 m21 m23 m24 m25 m26 m27 m28 m33 m35 (u2.2.1 1) tp sz_ ap bad bk opn fp im nr nl sp_ wtc wcl ir ip shu sfa swr (u2.2.2 0) (u3.2.1 0) 3 2 H.size (by first | exact hq2_1 | omega) (by first | exact hr_tp | omega) (by first | exact hr_sz_ | omega) (by first | exact hr_ap | omega) (by first | exact hr_bad | omega) (by first | exact hr_bk | omega) (by first | exact hr_opn | omega) (by first | exact hr_fp | omega) (by first | exact hr_im | omega) (by first | exact hr_nr | omega) (by first | exact hr_nl | omega) (by first | exact hr_sp_ | omega) (by first | exact hr_wtc | omega) (by first | exact hr_wcl | omega) (by first | exact hr_ir | omega) (by first | exact hr_ip | omega) (by first | exact hr_shu | omega) (by first | exact hr_sfa | omega) (by first | exact hr_swr | omega) (by first | exact hq3_1 | omega) (by show (1 : Int) ≤ 3 ∧ (3 : Int) ≤ 4; decide) (by show (0 : Int) ≤ 2 ∧ (2 : Int) ≤ 3; decide)) (cwV 3 hts gg_4 rfl rfl rfl (by decide +kernel) ⟨Nat.le_of_ble_eq_true rfl, Nat.le_of_ble_eq_true rfl⟩) ⟨pcW.blind, (va_recv hG.1 hP (ci := 12) (q0 := 6) rfl rfl), pre9⟩ rfl rfl hlv.1 rfl (lv_room (Nat.le_of_ble_eq_true rfl)) dX12_when_36 ⟨Nat.le_of_ble_eq_true rfl, Nat.le_of_ble_eq_true rfl⟩)) hP hD hS hA hG hT [6, 7] rfl (by decide +kernel) (fun r4 u4 H locs hw4 hq9 hS => ?_)
      obtain ⟨rfl, hq4_1, hq4_2, hq4_3, hq4_4⟩ := hw4
      obtain ⟨hP, hD⟩ := pd9 [zI m12 (cy 0) 389 f12, zI m14 (cy 0) 389 f14, zI m19 (cy 0) 4 f19, zI m20 (cy 0) 32 f20, zI m21 (cy 0) 32 f21, zI m10 (cy 0) 68 f10, zO mm 12 [vI (u4.2.1 1), vR m1, vI tp, vI sz_, vI ap, vI bad, vI bk, vI opn, vI fp, vR m9, vR m10, vR m11, vR m12, vR m13, vR m14, vR m15, vI im, vI nr, vI nl, vR m19, vR m20, vR m21, vI sp_, vR m23, vR m24, vR m25, vR m26, vR m27, vR m28, vI wtc, vI wcl, vI ir, vI ip, vR m33, vI shu, vR m35, vI sfa, vI swr], zI m1 (cy 0) 4 (u4.2.2 0)] hq9
      refine iz_eq (tgt := 50) hx hb dX12_when_39 (by decide) (by first | exact rgw hq4_2 (by decide) (by decide) | omega) (fun c_3 => ?_) (fun c_3 => ?_)
      · refine lv_iconst (v := iI 0) hx hb dX12_when_50 (by decide) ?_
        refine W.widen (k := 0) (n := 0) (Nat.le_of_ble_eq_true rfl) (Nat.le_of_ble_eq_true rfl) ?_
        exact W.iret (v := iI 0) hx hb hr (fun t ht hW => ⟨⟨iI 0, ((fun k => ([] : List Nat).getD k 0), (fun k => ([0, (u4.2.1 1), wtc, wcl] : List Int).getD k 0), (fun k => ([(u4.2.2 0), f12, f14] : List (Nat → Int32)).getD k (fun _ => 0))), rfl, ⟨rfl, (by show ((-2147483648) ≤ (u4.2.1 1) ∧ (u4.2.1 1) ≤ 2147483647); first | exact hq4_1 | omega), (by show ((-2147483648) ≤ wtc ∧ wtc ≤ 2147483647); first | exact hr_wtc | omega), (by show (0 ≤ wcl ∧ wcl ≤ 95); first | exact hr_wcl | omega), (by show ((-2147483648) ≤ 0 ∧ 0 ≤ 2147483647); show ((-2147483648) : Int) ≤ 0 ∧ (0 : Int) ≤ 2147483647; decide), hq1_4, hf12, hf14, hf19⟩, at9 ht hP hD [6, 7, 5, 0, 1, 2, 3, 4] (by decide +kernel) rfl⟩, hS.F ht⟩) hS.2.2 dX12_when_51
      · refine lv_aload_n hx hb dX12_when_42 rfl (lv_at hlv 0 rfl) ?_
        refine lv_iconst (v := iI 4) hx hb dX12_when_43 (by decide) ?_
        refine cjr_i [false, true, true, true, true, false, false, false] (fun pre9 => (va_runV (As := [vI 4]) (rest := []) ⟨hx, hb, hml, hown, hts⟩ (m_isNow l hl D cy sa mm m1 m9 m10 m11 m12 m13 m14 m15 m19 m20 m21 m23 m24 m25 m26 m27 m28 m33 m35 (u4.2.1 1) tp sz_ ap bad bk opn fp im nr nl sp_ wtc wcl ir ip shu sfa swr (u4.2.2 0) f10 f12 4 H.size (by first | exact hq4_1 | omega) (by first | exact hr_tp | omega) (by first | exact hr_sz_ | omega) (by first | exact hr_ap | omega) (by first | exact hr_bad | omega) (by first | exact hr_bk | omega) (by first | exact hr_opn | omega) (by first | exact hr_fp | omega) (by first | exact hr_im | omega) (by first | exact hr_nr | omega) (by first | exact hr_nl | omega) (by first | exact hr_sp_ | omega) (by first | exact hr_wtc | omega) (by first | exact hr_wcl | omega) (by first | exact hr_ir | omega) (by first | exact hr_ip | omega) (by first | exact hr_shu | omega) (by first | exact hr_sfa | omega) (by first | exact hr_swr | omega) (by show (1 : Int) ≤ 4 ∧ (4 : Int) ≤ 4; decide) hq1_4 (hf12.1)) (cwV 1 hts gg_5 rfl rfl rfl (by decide +kernel) ⟨Nat.le_of_ble_eq_true rfl, Nat.le_of_ble_eq_true rfl⟩) ⟨pcW.blind, (va_recv hG.1 hP (ci := 12) (q0 := 6) rfl rfl), pre9⟩ rfl rfl hlv.1 rfl (lv_room (Nat.le_of_ble_eq_true rfl)) dX12_when_44 ⟨Nat.le_of_ble_eq_true rfl, Nat.le_of_ble_eq_true rfl⟩)) hP hD hS hA hG hT [6, 7, 5, 0] rfl (by decide +kernel) (fun r5 u5 H locs hw5 hq9 hS => ?_)
        obtain ⟨rfl, hq5_1, hq5_2, hq5_3, hq5_4, hq5_5⟩ := hw5
        obtain ⟨hP, hD⟩ := pd9 [zI m14 (cy 0) 389 f14, zI m19 (cy 0) 4 f19, zI m20 (cy 0) 32 f20, zI m21 (cy 0) 32 f21, zO mm 12 [vI (u5.2.1 1), vR m1, vI tp, vI sz_, vI ap, vI bad, vI bk, vI opn, vI fp, vR m9, vR m10, vR m11, vR m12, vR m13, vR m14, vR m15, vI im, vI nr, vI nl, vR m19, vR m20, vR m21, vI sp_, vR m23, vR m24, vR m25, vR m26, vR m27, vR m28, vI wtc, vI wcl, vI ir, vI ip, vR m33, vI shu, vR m35, vI sfa, vI swr], zI m1 (cy 0) 4 (u5.2.2 0), zI m10 (cy 0) 68 f10, zI m12 (cy 0) 389 f12] hq9
        refine iz_ne (tgt := 52) hx hb dX12_when_47 (by decide) (by first | exact rgw hq5_2 (by decide) (by decide) | omega) (fun c_4 => ?_) (fun c_4 => ?_)
        · refine lv_iload_n hx hb dX12_when_52 rfl (lv_at hlv 2 rfl) ?_
          refine lv_iload_n hx hb dX12_when_53 rfl (lv_at hlv 3 rfl) ?_
          refine cjr_i [true, true, true, true, true, true, true, true] (fun pre9 => (va_runS (As := [vI x, vI y]) (rest := []) ⟨hx, hb, hml, hown, hts⟩ (m_at l hl D cy sa x y H.size (by omega) (by omega)) (va_cwS 2 hts gg_6 rfl rfl rfl (by decide +kernel) ⟨Nat.le_of_ble_eq_true rfl, Nat.le_of_ble_eq_true rfl⟩) ⟨pcW.blind, pre9⟩ rfl rfl hlv.1 rfl (lv_room (Nat.le_of_ble_eq_true rfl)) dX12_when_54 ⟨Nat.le_of_ble_eq_true rfl, Nat.le_of_ble_eq_true rfl⟩)) hP hD hS hA hG hT [] rfl (by decide +kernel) (fun r6 u6 H locs hw6 hq9 hS => ?_)
          obtain ⟨rfl, hq6_1, hq6_2⟩ := hw6
          obtain ⟨hP, hD⟩ := pd9 [zI m14 (cy 0) 389 f14, zI m19 (cy 0) 4 f19, zI m20 (cy 0) 32 f20, zI m21 (cy 0) 32 f21, zO mm 12 [vI (u5.2.1 1), vR m1, vI tp, vI sz_, vI ap, vI bad, vI bk, vI opn, vI fp, vR m9, vR m10, vR m11, vR m12, vR m13, vR m14, vR m15, vI im, vI nr, vI nl, vR m19, vR m20, vR m21, vI sp_, vR m23, vR m24, vR m25, vR m26, vR m27, vR m28, vI wtc, vI wcl, vI ir, vI ip, vR m33, vI shu, vR m35, vI sfa, vI swr], zI m1 (cy 0) 4 (u5.2.2 0), zI m10 (cy 0) 68 f10, zI m12 (cy 0) 389 f12] hq9
          refine lv_istore (lv' := [(5, vI (u6.2.1 0)), (0, vR mm), (1, vI n), (2, vI x), (3, vI y), (4, vI k)]) hx hb dX12_when_57 hlv (by decide) rfl (fun ls hlv => ?_)
          refine lv_aload_n hx hb dX12_when_59 rfl (lv_at hlv 1 rfl) ?_
          refine va_get (D := D) (ci := 12) (v := vR m12) (C := RX12) (T := TX12) (N := 38) hx hb hts hi12 hown hG.1 hP 4 rfl rfl 12 (by decide) lf29 (fun _ h9 => h9) rfl dX12_when_60 ?_
          refine lv_bipush (v := iI 96) hx hb dX12_when_63 (by decide) ?_
          refine lv_iload hx hb dX12_when_65 (lv_at hlv 0 rfl) ?_
          refine lv_iadd hx hb dX12_when_67 ?_
          refine lt_e (e0 := 96 + (u6.2.1 0)) (Int32.ofInt_add _ _).symm (fun z_5 hz_5 => ?_)
          refine va_iald hx hb hG.1 hP 7 0 rfl rfl (iI_in (by omega) (by decide)) dX12_when_68 ?_
          refine lt_nz (i := z_5) (by omega) (fun z_6 hz_6 lz_6 uz_6 => ?_)
          refine lv_iload hx hb dX12_when_69 (lv_at hlv 5 rfl) ?_
          refine ir_lt (tgt := 76) hx hb dX12_when_71 (by decide) (by omega) (by first | exact hr_k | omega) (fun c_7 => ?_) (fun c_7 => ?_)
          · refine lv_aload_n hx hb dX12_when_76 rfl (lv_at hlv 1 rfl) ?_
            refine cjr_v [false, true, true, true, false, true, true, false] (fun pre9 => (va_runV (As := []) (rest := []) ⟨hx, hb, hml, hown, hts⟩ (m_keeps l hl D cy sa mm m1 m9 m10 m11 m12 m13 m14 m15 m19 m20 m21 m23 m24 m25 m26 m27 m28 m33 m35 (u5.2.1 1) tp sz_ ap bad bk opn fp im nr nl sp_ wtc wcl ir ip shu sfa swr f12 f14 qs H.size (by first | exact hq5_1 | omega) (by first | exact hr_tp | omega) (by first | exact hr_sz_ | omega) (by first | exact hr_ap | omega) (by first | exact hr_bad | omega) (by first | exact hr_bk | omega) (by first | exact hr_opn | omega) (by first | exact hr_fp | omega) (by first | exact hr_im | omega) (by first | exact hr_nr | omega) (by first | exact hr_nl | omega) (by first | exact hr_sp_ | omega) (by first | exact hr_wtc | omega) (by first | exact hr_wcl | omega) (by first | exact hr_ir | omega) (by first | exact hr_ip | omega) (by first | exact hr_shu | omega) (by first | exact hr_sfa | omega) (by first | exact hr_swr | omega) hf12 hf14) (cwV 0 hts gg_7 rfl rfl rfl (by decide +kernel) ⟨Nat.le_of_ble_eq_true rfl, Nat.le_of_ble_eq_true rfl⟩) ⟨pcW.blind, (va_recv hG.1 hP (ci := 12) (q0 := 4) rfl rfl), pre9⟩ rfl rfl hlv.1 rfl (lv_room (Nat.le_of_ble_eq_true rfl)) dX12_when_77 ⟨Nat.le_of_ble_eq_true rfl, Nat.le_of_ble_eq_true rfl⟩)) hP hD hS hA hG hT [4, 7, 0] rfl (by decide +kernel) (fun u7 H locs hw7 hq9 hS => ?_)
            obtain ⟨hq7_0, hq7_1⟩ := hw7
            obtain ⟨hP, hD⟩ := pd9 [zI m19 (cy 0) 4 f19, zI m20 (cy 0) 32 f20, zI m21 (cy 0) 32 f21, zI m1 (cy 0) 4 (u5.2.2 0), zI m10 (cy 0) 68 f10, zO mm 12 [vI (u5.2.1 1), vR m1, vI tp, vI sz_, vI ap, vI bad, vI bk, vI opn, vI fp, vR m9, vR m10, vR m11, vR m12, vR m13, vR m14, vR m15, vI im, vI nr, vI nl, vR m19, vR m20, vR m21, vI sp_, vR m23, vR m24, vR m25, vR m26, vR m27, vR m28, vI wtc, vI wcl, vI ir, vI ip, vR m33, vI shu, vR m35, vI sfa, vI swr], zI m12 (cy 0) 389 f12, zI m14 (cy 0) 389 (u7.2.2 0)] hq9
            refine lv_aload_n hx hb dX12_when_80 rfl (lv_at hlv 1 rfl) ?_
            refine lv_iload hx hb dX12_when_81 (lv_at hlv 5 rfl) ?_
            refine va_put (D := D) (ci := 12) (v := vI k) (ty := .int) (C := RX12) (T := TX12) (N := 38) hx hb hts hi12 tyX12 tyX12_ok nmX12 hown hG.1 hP hD hS 5 rfl rfl 29 (by decide) lf318 (fun _ h9 => h9) rfl (by decide +kernel) rfl rfl (Nat.le_of_ble_eq_true rfl) dX12_when_83 (fun H locs hP hD hS => ?_)
            obtain ⟨hP, hD⟩ := pw9 [zI m19 (cy 0) 4 f19, zI m20 (cy 0) 32 f20, zI m21 (cy 0) 32 f21, zI m1 (cy 0) 4 (u5.2.2 0), zI m10 (cy 0) 68 f10, zO mm 12 [vI (u5.2.1 1), vR m1, vI tp, vI sz_, vI ap, vI bad, vI bk, vI opn, vI fp, vR m9, vR m10, vR m11, vR m12, vR m13, vR m14, vR m15, vI im, vI nr, vI nl, vR m19, vR m20, vR m21, vI sp_, vR m23, vR m24, vR m25, vR m26, vR m27, vR m28, vI k, vI wcl, vI ir, vI ip, vR m33, vI shu, vR m35, vI sfa, vI swr], zI m12 (cy 0) 389 f12, zI m14 (cy 0) 389 (u7.2.2 0)] hP hD
            refine lv_aload_n hx hb dX12_when_86 rfl (lv_at hlv 1 rfl) ?_
            refine lv_iload hx hb dX12_when_87 (lv_at hlv 0 rfl) ?_
            refine va_put (D := D) (ci := 12) (v := vI (u6.2.1 0)) (ty := .int) (C := RX12) (T := TX12) (N := 38) hx hb hts hi12 tyX12 tyX12_ok nmX12 hown hG.1 hP hD hS 5 rfl rfl 30 (by decide) lf321 (fun _ h9 => h9) rfl (by decide +kernel) rfl rfl (Nat.le_of_ble_eq_true rfl) dX12_when_89 (fun H locs hP hD hS => ?_)
            obtain ⟨hP, hD⟩ := pw9 [zI m19 (cy 0) 4 f19, zI m20 (cy 0) 32 f20, zI m21 (cy 0) 32 f21, zI m1 (cy 0) 4 (u5.2.2 0), zI m10 (cy 0) 68 f10, zO mm 12 [vI (u5.2.1 1), vR m1, vI tp, vI sz_, vI ap, vI bad, vI bk, vI opn, vI fp, vR m9, vR m10, vR m11, vR m12, vR m13, vR m14, vR m15, vI im, vI nr, vI nl, vR m19, vR m20, vR m21, vI sp_, vR m23, vR m24, vR m25, vR m26, vR m27, vR m28, vI k, vI (u6.2.1 0), vI ir, vI ip, vR m33, vI shu, vR m35, vI sfa, vI swr], zI m12 (cy 0) 389 f12, zI m14 (cy 0) 389 (u7.2.2 0)] hP hD
            refine lv_aload_n hx hb dX12_when_92 rfl (lv_at hlv 1 rfl) ?_
            refine lv_iload_n hx hb dX12_when_93 rfl (lv_at hlv 2 rfl) ?_
            refine cjr_i [false, false, false, true, false, false, false, true] (fun pre9 => (va_runV (As := [vI n]) (rest := []) ⟨hx, hb, hml, hown, hts⟩ (m_showers l hl D cy sa mm m1 m9 m10 m11 m12 m13 m14 m15 m19 m20 m21 m23 m24 m25 m26 m27 m28 m33 m35 (u5.2.1 1) tp sz_ ap bad bk opn fp im nr nl sp_ k (u6.2.1 0) ir ip shu sfa swr f10 f12 f19 f20 f21 n qs H.size (by first | exact hq5_1 | omega) (by first | exact hr_tp | omega) (by first | exact hr_sz_ | omega) (by first | exact hr_ap | omega) (by first | exact hr_bad | omega) (by first | exact hr_bk | omega) (by first | exact hr_opn | omega) (by first | exact hr_fp | omega) (by first | exact hr_im | omega) (by first | exact hr_nr | omega) (by first | exact hr_nl | omega) (by first | exact hr_sp_ | omega) (by first | exact hr_k | omega) (by first | exact hq6_1 | omega) (by first | exact hr_ir | omega) (by first | exact hr_ip | omega) (by first | exact hr_shu | omega) (by first | exact hr_sfa | omega) (by first | exact hr_swr | omega) (by omega) hq5_4 hq7_0 hf19) (cwV 1 hts gg_8 rfl rfl rfl (by decide +kernel) ⟨Nat.le_of_ble_eq_true rfl, Nat.le_of_ble_eq_true rfl⟩) ⟨pcW.blind, (va_recv hG.1 hP (ci := 12) (q0 := 5) rfl rfl), pre9⟩ rfl rfl hlv.1 rfl (lv_room (Nat.le_of_ble_eq_true rfl)) dX12_when_94 ⟨Nat.le_of_ble_eq_true rfl, Nat.le_of_ble_eq_true rfl⟩)) hP hD hS hA hG hT [5, 4, 6, 0, 1, 2] rfl (by decide +kernel) (fun r8 u8 H locs hw8 hq9 hS => ?_)
            obtain ⟨rfl, hq8_1, hq8_2, hq8_3, hq8_4⟩ := hw8
            obtain ⟨hP, hD⟩ := pd9 [zI m1 (cy 0) 4 (u5.2.2 0), zI m14 (cy 0) 389 (u7.2.2 0), zO mm 12 [vI (u5.2.1 1), vR m1, vI tp, vI sz_, vI ap, vI bad, vI bk, vI opn, vI fp, vR m9, vR m10, vR m11, vR m12, vR m13, vR m14, vR m15, vI im, vI nr, vI nl, vR m19, vR m20, vR m21, vI sp_, vR m23, vR m24, vR m25, vR m26, vR m27, vR m28, vI k, vI (u6.2.1 0), vI ir, vI ip, vR m33, vI shu, vR m35, vI sfa, vI swr], zI m10 (cy 0) 68 f10, zI m12 (cy 0) 389 (u8.2.2 0), zI m19 (cy 0) 4 f19, zI m20 (cy 0) 32 f20, zI m21 (cy 0) 32 f21] hq9
            refine lv_istore (lv' := [(6, vI (u8.2.1 0)), (5, vI (u6.2.1 0)), (0, vR mm), (1, vI n), (2, vI x), (3, vI y), (4, vI k)]) hx hb dX12_when_97 hlv (by decide) rfl (fun ls hlv => ?_)
            refine lv_aload_n hx hb dX12_when_99 rfl (lv_at hlv 2 rfl) ?_
            refine lv_iconst (v := iI 0) hx hb dX12_when_100 (by decide) ?_
            refine va_put (D := D) (ci := 12) (v := vI 0) (ty := .int) (C := RX12) (T := TX12) (N := 38) hx hb hts hi12 tyX12 tyX12_ok nmX12 hown hG.1 hP hD hS 2 rfl rfl 29 (by decide) lf318 (fun _ h9 => h9) rfl (by decide +kernel) rfl rfl (Nat.le_of_ble_eq_true rfl) dX12_when_101 (fun H locs hP hD hS => ?_)
            obtain ⟨hP, hD⟩ := pw9 [zI m1 (cy 0) 4 (u5.2.2 0), zI m14 (cy 0) 389 (u7.2.2 0), zO mm 12 [vI (u5.2.1 1), vR m1, vI tp, vI sz_, vI ap, vI bad, vI bk, vI opn, vI fp, vR m9, vR m10, vR m11, vR m12, vR m13, vR m14, vR m15, vI im, vI nr, vI nl, vR m19, vR m20, vR m21, vI sp_, vR m23, vR m24, vR m25, vR m26, vR m27, vR m28, vI 0, vI (u6.2.1 0), vI ir, vI ip, vR m33, vI shu, vR m35, vI sfa, vI swr], zI m10 (cy 0) 68 f10, zI m12 (cy 0) 389 (u8.2.2 0), zI m19 (cy 0) 4 f19, zI m20 (cy 0) 32 f20, zI m21 (cy 0) 32 f21] hP hD
            refine lv_aload_n hx hb dX12_when_104 rfl (lv_at hlv 2 rfl) ?_
            refine va_get (D := D) (ci := 12) (v := vR m12) (C := RX12) (T := TX12) (N := 38) hx hb hts hi12 hown hG.1 hP 2 rfl rfl 12 (by decide) lf29 (fun _ h9 => h9) rfl dX12_when_105 ?_
            refine lv_bipush (v := iI 96) hx hb dX12_when_108 (by decide) ?_
            refine lv_iload hx hb dX12_when_110 (lv_at hlv 1 rfl) ?_
            refine lv_iadd hx hb dX12_when_112 ?_
            refine lt_e (e0 := 96 + (u6.2.1 0)) (Int32.ofInt_add _ _).symm (fun z_8 hz_8 => ?_)
            refine va_iald hx hb hG.1 hP 4 0 rfl rfl (iI_in (by omega) (by decide)) dX12_when_113 ?_
            refine lt_nz (i := z_8) (by omega) (fun z_9 hz_9 lz_9 uz_9 => ?_)
            refine lv_iload hx hb dX12_when_114 (lv_at hlv 6 rfl) ?_
            refine ir_lt (tgt := 124) hx hb dX12_when_116 (by decide) (by omega) (by first | exact hr_k | omega) (fun c_10 => ?_) (fun c_10 => ?_)
            · refine lv_iconst (v := iI (-1)) hx hb dX12_when_124 (by decide) ?_
              refine lv_istore (lv' := [(7, vI (-1)), (6, vI (u8.2.1 0)), (5, vI (u6.2.1 0)), (0, vR mm), (1, vI n), (2, vI x), (3, vI y), (4, vI k)]) hx hb dX12_when_125 hlv (by decide) rfl (fun ls hlv => ?_)
              refine lv_aload_n hx hb dX12_when_127 rfl (lv_at hlv 3 rfl) ?_
              refine cjr_v [true, false, false, true, false, true, true, true] (fun pre9 => (va_runV (As := []) (rest := []) ⟨hx, hb, hml, hown, hts⟩ (m_back l hl D cy sa mm m1 m9 m10 m11 m12 m13 m14 m15 m19 m20 m21 m23 m24 m25 m26 m27 m28 m33 m35 (u5.2.1 1) tp sz_ ap bad bk opn fp im nr nl sp_ 0 (u6.2.1 0) ir ip shu sfa swr (u8.2.2 0) (u7.2.2 0) 8 qs H.size (by first | exact hq5_1 | omega) (by first | exact hr_tp | omega) (by first | exact hr_sz_ | omega) (by first | exact hr_ap | omega) (by first | exact hr_bad | omega) (by first | exact hr_bk | omega) (by first | exact hr_opn | omega) (by first | exact hr_fp | omega) (by first | exact hr_im | omega) (by first | exact hr_nr | omega) (by first | exact hr_nl | omega) (by first | exact hr_sp_ | omega) (by show ((-2147483648) : Int) ≤ 0 ∧ (0 : Int) ≤ 2147483647; decide) (by first | exact hq6_1 | omega) (by first | exact hr_ir | omega) (by first | exact hr_ip | omega) (by first | exact hr_shu | omega) (by first | exact hr_sfa | omega) (by first | exact hr_swr | omega) (by show (8 : Int) ≤ 8 ∧ (8 : Int) ≤ 9; decide) (hq8_3.1) hq7_1) (cwV 0 hts gg_9 rfl rfl rfl (by decide +kernel) ⟨Nat.le_of_ble_eq_true rfl, Nat.le_of_ble_eq_true rfl⟩) ⟨pcW.blind, (va_recv hG.1 hP (ci := 12) (q0 := 2) rfl rfl), pre9⟩ rfl rfl hlv.1 rfl (lv_room (Nat.le_of_ble_eq_true rfl)) dX12_when_128 ⟨Nat.le_of_ble_eq_true rfl, Nat.le_of_ble_eq_true rfl⟩)) hP hD hS hA hG hT [2, 4, 1] rfl (by decide +kernel) (fun u9 H locs hw9 hq9 hS => ?_)
              obtain ⟨hq9_0, hq9_1⟩ := hw9
              obtain ⟨hP, hD⟩ := pd9 [zI m1 (cy 0) 4 (u5.2.2 0), zI m10 (cy 0) 68 f10, zI m19 (cy 0) 4 f19, zI m20 (cy 0) 32 f20, zI m21 (cy 0) 32 f21, zO mm 12 [vI (u5.2.1 1), vR m1, vI tp, vI sz_, vI ap, vI bad, vI bk, vI opn, vI fp, vR m9, vR m10, vR m11, vR m12, vR m13, vR m14, vR m15, vI im, vI nr, vI nl, vR m19, vR m20, vR m21, vI sp_, vR m23, vR m24, vR m25, vR m26, vR m27, vR m28, vI 0, vI (u6.2.1 0), vI ir, vI ip, vR m33, vI shu, vR m35, vI sfa, vI swr], zI m12 (cy 0) 389 (u9.2.2 0), zI m14 (cy 0) 389 (u7.2.2 0)] hq9
              refine lv_iload hx hb dX12_when_131 (lv_at hlv 0 rfl) ?_
              refine W.widen (k := 0) (n := 0) (Nat.le_of_ble_eq_true rfl) (Nat.le_of_ble_eq_true rfl) ?_
              exact W.iret (v := iI (-1)) hx hb hr (fun t ht hW => ⟨⟨iI (-1), ((fun k => ([] : List Nat).getD k 0), (fun k => ([(-1), (u5.2.1 1), 0, (u6.2.1 0)] : List Int).getD k 0), (fun k => ([(u5.2.2 0), (u9.2.2 0), (u7.2.2 0)] : List (Nat → Int32)).getD k (fun _ => 0))), rfl, ⟨rfl, (by show ((-2147483648) ≤ (u5.2.1 1) ∧ (u5.2.1 1) ≤ 2147483647); first | exact hq5_1 | omega), (by show ((-2147483648) ≤ 0 ∧ 0 ≤ 2147483647); show ((-2147483648) : Int) ≤ 0 ∧ (0 : Int) ≤ 2147483647; decide), (by show (0 ≤ (u6.2.1 0) ∧ (u6.2.1 0) ≤ 95); first | exact hq6_1 | omega), (by show ((-2147483648) ≤ (-1) ∧ (-1) ≤ 2147483647); show ((-2147483648) : Int) ≤ (-1) ∧ ((-1) : Int) ≤ 2147483647; decide), hq8_2, hq9_0, (hq9_1.1), hq8_4⟩, at9 ht hP hD [5, 0, 1, 6, 7, 2, 3, 4] (by decide +kernel) rfl⟩, hS.F ht⟩) hS.2.2 dX12_when_133
            · refine lv_iload hx hb dX12_when_119 (lv_at hlv 0 rfl) ?_
              refine lv_goto (tgt := 125) hx hb dX12_when_121 (by decide) ?_
              refine lv_istore (lv' := [(7, vI (u8.2.1 0)), (6, vI (u8.2.1 0)), (5, vI (u6.2.1 0)), (0, vR mm), (1, vI n), (2, vI x), (3, vI y), (4, vI k)]) hx hb dX12_when_125 hlv (by decide) rfl (fun ls hlv => ?_)
              refine lv_aload_n hx hb dX12_when_127 rfl (lv_at hlv 3 rfl) ?_
              refine cjr_v [true, false, false, true, false, true, true, true] (fun pre9 => (va_runV (As := []) (rest := []) ⟨hx, hb, hml, hown, hts⟩ (m_back l hl D cy sa mm m1 m9 m10 m11 m12 m13 m14 m15 m19 m20 m21 m23 m24 m25 m26 m27 m28 m33 m35 (u5.2.1 1) tp sz_ ap bad bk opn fp im nr nl sp_ 0 (u6.2.1 0) ir ip shu sfa swr (u8.2.2 0) (u7.2.2 0) 8 qs H.size (by first | exact hq5_1 | omega) (by first | exact hr_tp | omega) (by first | exact hr_sz_ | omega) (by first | exact hr_ap | omega) (by first | exact hr_bad | omega) (by first | exact hr_bk | omega) (by first | exact hr_opn | omega) (by first | exact hr_fp | omega) (by first | exact hr_im | omega) (by first | exact hr_nr | omega) (by first | exact hr_nl | omega) (by first | exact hr_sp_ | omega) (by show ((-2147483648) : Int) ≤ 0 ∧ (0 : Int) ≤ 2147483647; decide) (by first | exact hq6_1 | omega) (by first | exact hr_ir | omega) (by first | exact hr_ip | omega) (by first | exact hr_shu | omega) (by first | exact hr_sfa | omega) (by first | exact hr_swr | omega) (by show (8 : Int) ≤ 8 ∧ (8 : Int) ≤ 9; decide) (hq8_3.1) hq7_1) (cwV 0 hts gg_9 rfl rfl rfl (by decide +kernel) ⟨Nat.le_of_ble_eq_true rfl, Nat.le_of_ble_eq_true rfl⟩) ⟨pcW.blind, (va_recv hG.1 hP (ci := 12) (q0 := 2) rfl rfl), pre9⟩ rfl rfl hlv.1 rfl (lv_room (Nat.le_of_ble_eq_true rfl)) dX12_when_128 ⟨Nat.le_of_ble_eq_true rfl, Nat.le_of_ble_eq_true rfl⟩)) hP hD hS hA hG hT [2, 4, 1] rfl (by decide +kernel) (fun u10 H locs hw10 hq9 hS => ?_)
              obtain ⟨hq10_0, hq10_1⟩ := hw10
              obtain ⟨hP, hD⟩ := pd9 [zI m1 (cy 0) 4 (u5.2.2 0), zI m10 (cy 0) 68 f10, zI m19 (cy 0) 4 f19, zI m20 (cy 0) 32 f20, zI m21 (cy 0) 32 f21, zO mm 12 [vI (u5.2.1 1), vR m1, vI tp, vI sz_, vI ap, vI bad, vI bk, vI opn, vI fp, vR m9, vR m10, vR m11, vR m12, vR m13, vR m14, vR m15, vI im, vI nr, vI nl, vR m19, vR m20, vR m21, vI sp_, vR m23, vR m24, vR m25, vR m26, vR m27, vR m28, vI 0, vI (u6.2.1 0), vI ir, vI ip, vR m33, vI shu, vR m35, vI sfa, vI swr], zI m12 (cy 0) 389 (u10.2.2 0), zI m14 (cy 0) 389 (u7.2.2 0)] hq9
              refine lv_iload hx hb dX12_when_131 (lv_at hlv 0 rfl) ?_
              refine W.widen (k := 0) (n := 0) (Nat.le_of_ble_eq_true rfl) (Nat.le_of_ble_eq_true rfl) ?_
              exact W.iret (v := iI (u8.2.1 0)) hx hb hr (fun t ht hW => ⟨⟨iI (u8.2.1 0), ((fun k => ([] : List Nat).getD k 0), (fun k => ([(u8.2.1 0), (u5.2.1 1), 0, (u6.2.1 0)] : List Int).getD k 0), (fun k => ([(u5.2.2 0), (u10.2.2 0), (u7.2.2 0)] : List (Nat → Int32)).getD k (fun _ => 0))), rfl, ⟨rfl, (by show ((-2147483648) ≤ (u5.2.1 1) ∧ (u5.2.1 1) ≤ 2147483647); first | exact hq5_1 | omega), (by show ((-2147483648) ≤ 0 ∧ 0 ≤ 2147483647); show ((-2147483648) : Int) ≤ 0 ∧ (0 : Int) ≤ 2147483647; decide), (by show (0 ≤ (u6.2.1 0) ∧ (u6.2.1 0) ≤ 95); first | exact hq6_1 | omega), (by show ((-2147483648) ≤ (u8.2.1 0) ∧ (u8.2.1 0) ≤ 2147483647); first | exact hq8_1 | omega), hq8_2, hq10_0, (hq10_1.1), hq8_4⟩, at9 ht hP hD [5, 0, 1, 6, 7, 2, 3, 4] (by decide +kernel) rfl⟩, hS.F ht⟩) hS.2.2 dX12_when_133
          · refine lv_iconst (v := iI 0) hx hb dX12_when_74 (by decide) ?_
            refine W.widen (k := 0) (n := 0) (Nat.le_of_ble_eq_true rfl) (Nat.le_of_ble_eq_true rfl) ?_
            exact W.iret (v := iI 0) hx hb hr (fun t ht hW => ⟨⟨iI 0, ((fun k => ([] : List Nat).getD k 0), (fun k => ([0, (u5.2.1 1), wtc, wcl] : List Int).getD k 0), (fun k => ([(u5.2.2 0), f12, f14] : List (Nat → Int32)).getD k (fun _ => 0))), rfl, ⟨rfl, (by show ((-2147483648) ≤ (u5.2.1 1) ∧ (u5.2.1 1) ≤ 2147483647); first | exact hq5_1 | omega), (by show ((-2147483648) ≤ wtc ∧ wtc ≤ 2147483647); first | exact hr_wtc | omega), (by show (0 ≤ wcl ∧ wcl ≤ 95); first | exact hr_wcl | omega), (by show ((-2147483648) ≤ 0 ∧ 0 ≤ 2147483647); show ((-2147483648) : Int) ≤ 0 ∧ (0 : Int) ≤ 2147483647; decide), hq5_4, hf12, hf14, hf19⟩, at9 ht hP hD [4, 5, 6, 7, 0, 1, 2, 3] (by decide +kernel) rfl⟩, hS.F ht⟩) hS.2.2 dX12_when_75
        · refine lv_iconst (v := iI 0) hx hb dX12_when_50 (by decide) ?_
          refine W.widen (k := 0) (n := 0) (Nat.le_of_ble_eq_true rfl) (Nat.le_of_ble_eq_true rfl) ?_
          exact W.iret (v := iI 0) hx hb hr (fun t ht hW => ⟨⟨iI 0, ((fun k => ([] : List Nat).getD k 0), (fun k => ([0, (u5.2.1 1), wtc, wcl] : List Int).getD k 0), (fun k => ([(u5.2.2 0), f12, f14] : List (Nat → Int32)).getD k (fun _ => 0))), rfl, ⟨rfl, (by show ((-2147483648) ≤ (u5.2.1 1) ∧ (u5.2.1 1) ≤ 2147483647); first | exact hq5_1 | omega), (by show ((-2147483648) ≤ wtc ∧ wtc ≤ 2147483647); first | exact hr_wtc | omega), (by show (0 ≤ wcl ∧ wcl ≤ 95); first | exact hr_wcl | omega), (by show ((-2147483648) ≤ 0 ∧ 0 ≤ 2147483647); show ((-2147483648) : Int) ≤ 0 ∧ (0 : Int) ≤ 2147483647; decide), hq5_4, hf12, hf14, hf19⟩, at9 ht hP hD [4, 5, 6, 7, 0, 1, 2, 3] (by decide +kernel) rfl⟩, hS.F ht⟩) hS.2.2 dX12_when_51
def vs_m_blame : List Cond := .code yX12_blame cX12_blame 10 (some .int) :: (([.fieldLink RX12 1 "KerbSplashModel" "thrown" "I", .fieldLink RX12 23 "KerbSplashModel" "b" "[I", .fieldLink RX12 29 "KerbSplashModel" "s" "[I"] : List Cond) ++ ((wsX120) ++ ((wsV RX12 286 RX12 yX12_isCell vs_m_isCell) ++ ((wsV RX12 324 RX12 yX12_isRain vs_m_isRain) ++ ((va_wsS RX12 279 yX12_within vs_m_within) ++ ((wsV RX12 175 RX12 yX12_may vs_m_may) ++ ((wsV RX12 312 RX12 yX12_isNow vs_m_isNow) ++ ((wsV RX12 381 RX12 yX12_keeps vs_m_keeps) ++ ((va_wsS RX12 289 yX12_at vs_m_at) ++ ((wsV RX12 384 RX12 yX12_deepBehind vs_m_deepBehind) ++ ((wsV RX12 387 RX12 yX12_comesBack vs_m_back) ++ ([]))))))))))))
set_option maxHeartbeats 4000000 in
set_option maxRecDepth 100000 in
theorem m_blame (l : Launch) (hl : l.stackTraces = false) (D : va_G) (cy : Nat → ClassId) (sa : Nat → Nat) (mm m1 m9 m10 m11 m12 m13 m14 m15 m19 m20 m21 m23 m24 m25 m26 m27 m28 m33 m35 : Nat) (th tp sz_ ap bad bk opn fp im nr nl sp_ wtc wcl ir ip shu sfa swr : Int) (f1 f10 f12 f14 f19 f20 f21 : Nat → Int32) (n x y k : Int) (qs : Nat → Int) (sz : Nat) (hr_th : (-2147483648) ≤ th ∧ th ≤ 2147483647) (hr_tp : 0 ≤ tp ∧ tp ≤ 600) (hr_sz_ : 0 ≤ sz_ ∧ sz_ ≤ 600) (hr_ap : 0 ≤ ap ∧ ap ≤ 602) (hr_bad : (-1) ≤ bad ∧ bad ≤ 602) (hr_bk : 0 ≤ bk ∧ bk ≤ 4) (hr_opn : 0 ≤ opn ∧ opn ≤ 7) (hr_fp : (-2147483648) ≤ fp ∧ fp ≤ 2147483647) (hr_im : 0 ≤ im ∧ im ≤ 3) (hr_nr : 0 ≤ nr ∧ nr ≤ 4) (hr_nl : 0 ≤ nl ∧ nl ≤ 4) (hr_sp_ : 0 ≤ sp_ ∧ sp_ ≤ 602) (hr_wtc : (-2147483648) ≤ wtc ∧ wtc ≤ 2147483647) (hr_wcl : 0 ≤ wcl ∧ wcl ≤ 95) (hr_ir : 0 ≤ ir ∧ ir ≤ 5) (hr_ip : (-2147483648) ≤ ip ∧ ip ≤ 2147483647) (hr_shu : (-2147483648) ≤ shu ∧ shu ≤ 2147483647) (hr_sfa : (-2147483648) ≤ sfa ∧ sfa ≤ 2147483647) (hr_swr : (-2147483648) ≤ swr ∧ swr ≤ 2147483647) (hr_n : (-2147483648) ≤ n ∧ n ≤ 2147483647) (hr_x : (-2147483648) ≤ x ∧ x ≤ 2147483647) (hr_y : (-2147483648) ≤ y ∧ y ≤ 2147483647) (hr_k : (-2147483648) ≤ k ∧ k ≤ 2147483647) (hf10 : BI f10) (hf12 : SQ qs 8 f12) (hf14 : SI 8 f14) (hf19 : inv_ 4 0 8 f19) : mI9 l yX12_blame vs_m_blame ({ frames := 6, cells := 0, slots := 0, locals := 141 }) D cy sa sz [vR mm, vI n, vI x, vI y, vI k] [zO mm 12 [vI th, vR m1, vI tp, vI sz_, vI ap, vI bad, vI bk, vI opn, vI fp, vR m9, vR m10, vR m11, vR m12, vR m13, vR m14, vR m15, vI im, vI nr, vI nl, vR m19, vR m20, vR m21, vI sp_, vR m23, vR m24, vR m25, vR m26, vR m27, vR m28, vI wtc, vI wcl, vI ir, vI ip, vR m33, vI shu, vR m35, vI sfa, vI swr], zI m1 (cy 0) 4 f1, zI m10 (cy 0) 68 f10, zI m12 (cy 0) 389 f12, zI m14 (cy 0) 389 f14, zI m19 (cy 0) 4 f19, zI m20 (cy 0) 32 f20, zI m21 (cy 0) 32 f21] (fun (r : Int32) (u : SV) => r = iI (u.2.1 0) ∧ ((-2147483648) ≤ u.2.1 1 ∧ u.2.1 1 ≤ 2147483647) ∧ ((-2147483648) ≤ u.2.1 0 ∧ u.2.1 0 ≤ 2147483647) ∧ BI f10 ∧ SQ qs 8 (u.2.2 1) ∧ SI 8 (u.2.2 2) ∧ inv_ 4 0 8 f19) (fun u : SV => [zO mm 12 [vI (u.2.1 1), vR m1, vI tp, vI sz_, vI ap, vI bad, vI bk, vI opn, vI fp, vR m9, vR m10, vR m11, vR m12, vR m13, vR m14, vR m15, vI im, vI nr, vI nl, vR m19, vR m20, vR m21, vI sp_, vR m23, vR m24, vR m25, vR m26, vR m27, vR m28, vI wtc, vI wcl, vI ir, vI ip, vR m33, vI shu, vR m35, vI sfa, vI swr], zI m1 (cy 0) 4 (u.2.2 0), zI m10 (cy 0) 68 f10, zI m12 (cy 0) 389 (u.2.2 1), zI m14 (cy 0) 389 (u.2.2 2), zI m19 (cy 0) 4 f19, zI m20 (cy 0) 32 f20, zI m21 (cy 0) 32 f21]) 0 0 := by
  refine Met.ofW (cc := cX12_blame) (maxL := 10) (ret := (some .int)) (by decide) rfl ?_
  intro p e s m args below meth c s₁ B hml hv
  obtain ⟨rfl, hsz, hP, hG, hD0, hT⟩ := hv
  have hx := B.exec
  have hb := B.bytes
  have hr := B.returns
  have hts := atoms_spec (ws := vs_m_blame) B.pre
  have hown : s.vm.findClass RX12 = some m.cls := findClass_of_methodNamed B.named
  have hlocks := B.notSynchronized
  subst hsz
  have hD := hD0.self (sz := s.heap.size)
  generalize hAe : va_A [zO mm 12 [vI th, vR m1, vI tp, vI sz_, vI ap, vI bad, vI bk, vI opn, vI fp, vR m9, vR m10, vR m11, vR m12, vR m13, vR m14, vR m15, vI im, vI nr, vI nl, vR m19, vR m20, vR m21, vI sp_, vR m23, vR m24, vR m25, vR m26, vR m27, vR m28, vI wtc, vI wcl, vI ir, vI ip, vR m33, vI shu, vR m35, vI sfa, vI swr], zI m1 (cy 0) 4 f1, zI m10 (cy 0) 68 f10, zI m12 (cy 0) 389 f12, zI m14 (cy 0) 389 f14, zI m19 (cy 0) 4 f19, zI m20 (cy 0) 32 f20, zI m21 (cy 0) 32 f21] s.heap.size = A at hD hT ⊢
  have hA : ∀ q : Nat, s.heap.size ≤ q → A q := fun q h => by rw [← hAe]; exact Or.inr h
  have hS : va_S A s.heap s.heap [] := va_S.rf
  have hl0 := lv_entry ([vR mm, vI n, vI x, vI y, vI k]) (n := 10) (Nat.le_of_ble_eq_true rfl)
  rw [lg_entry_eq]
  generalize (lg_sl ([vR mm, vI n, vI x, vI y, vI k]) ++ List.replicate (10 - (lg_sl ([vR mm, vI n, vI x, vI y, vI k])).length) Slot.unset).toArray = ls at hl0 ⊢
  have hlv : lv_has ls 10 [(0, vR mm), (1, vI n), (2, vI x), (3, vI y), (4, vI k)] := hl0
  have lf1 := hts (.fieldLink RX12 1 "KerbSplashModel" "thrown" "I") (List.mem_of_getElem? (i := 1) rfl)
  have hi12 : ∀ w ∈ wsX120, w ∈ vs_m_blame := fun w h => List.mem_cons_of_mem _ (List.mem_append_right _ (List.mem_append_left _ h))
  have gg_1 : GoodIn vs_m_blame (wsV RX12 286 RX12 yX12_isCell vs_m_isCell) := goodIn_sub (fun w h => List.mem_cons_of_mem _ (List.mem_append_right _ (List.mem_append_right _ (List.mem_append_left _ h)))) (gd_V gd_m_isCell (by decide +kernel))
  have gg_2 : GoodIn vs_m_blame (wsV RX12 324 RX12 yX12_isRain vs_m_isRain) := goodIn_sub (fun w h => List.mem_cons_of_mem _ (List.mem_append_right _ (List.mem_append_right _ (List.mem_append_right _ (List.mem_append_left _ h))))) (gd_V gd_m_isRain (by decide +kernel))
  have gg_3 : GoodIn vs_m_blame (va_wsS RX12 279 yX12_within vs_m_within) := goodIn_sub (fun w h => List.mem_cons_of_mem _ (List.mem_append_right _ (List.mem_append_right _ (List.mem_append_right _ (List.mem_append_right _ (List.mem_append_left _ h)))))) (gd_S gd_m_within (by decide +kernel))
  have gg_4 : GoodIn vs_m_blame (wsV RX12 175 RX12 yX12_may vs_m_may) := goodIn_sub (fun w h => List.mem_cons_of_mem _ (List.mem_append_right _ (List.mem_append_right _ (List.mem_append_right _ (List.mem_append_right _ (List.mem_append_right _ (List.mem_append_left _ h))))))) (gd_V gd_m_may (by decide +kernel))
  have gg_5 : GoodIn vs_m_blame (wsV RX12 312 RX12 yX12_isNow vs_m_isNow) := goodIn_sub (fun w h => List.mem_cons_of_mem _ (List.mem_append_right _ (List.mem_append_right _ (List.mem_append_right _ (List.mem_append_right _ (List.mem_append_right _ (List.mem_append_right _ (List.mem_append_left _ h)))))))) (gd_V gd_m_isNow (by decide +kernel))
  have gg_6 : GoodIn vs_m_blame (wsV RX12 381 RX12 yX12_keeps vs_m_keeps) := goodIn_sub (fun w h => List.mem_cons_of_mem _ (List.mem_append_right _ (List.mem_append_right _ (List.mem_append_right _ (List.mem_append_right _ (List.mem_append_right _ (List.mem_append_right _ (List.mem_append_right _ (List.mem_append_left _ h))))))))) (gd_V gd_m_keeps (by decide +kernel))
  have gg_7 : GoodIn vs_m_blame (va_wsS RX12 289 yX12_at vs_m_at) := goodIn_sub (fun w h => List.mem_cons_of_mem _ (List.mem_append_right _ (List.mem_append_right _ (List.mem_append_right _ (List.mem_append_right _ (List.mem_append_right _ (List.mem_append_right _ (List.mem_append_right _ (List.mem_append_right _ (List.mem_append_left _ h)))))))))) (gd_S gd_m_at (by decide +kernel))
  have gg_8 : GoodIn vs_m_blame (wsV RX12 384 RX12 yX12_deepBehind vs_m_deepBehind) := goodIn_sub (fun w h => List.mem_cons_of_mem _ (List.mem_append_right _ (List.mem_append_right _ (List.mem_append_right _ (List.mem_append_right _ (List.mem_append_right _ (List.mem_append_right _ (List.mem_append_right _ (List.mem_append_right _ (List.mem_append_right _ (List.mem_append_left _ h))))))))))) (gd_V gd_m_deepBehind (by decide +kernel))
  have gg_9 : GoodIn vs_m_blame (wsV RX12 387 RX12 yX12_comesBack vs_m_back) := goodIn_sub (fun w h => List.mem_cons_of_mem _ (List.mem_append_right _ (List.mem_append_right _ (List.mem_append_right _ (List.mem_append_right _ (List.mem_append_right _ (List.mem_append_right _ (List.mem_append_right _ (List.mem_append_right _ (List.mem_append_right _ (List.mem_append_right _ (List.mem_append_left _ h)))))))))))) (gd_V gd_m_back (by decide +kernel))
  have lf23 := hts (.fieldLink RX12 23 "KerbSplashModel" "b" "[I") (List.mem_of_getElem? (i := 2) rfl)
  have lf29 := hts (.fieldLink RX12 29 "KerbSplashModel" "s" "[I") (List.mem_of_getElem? (i := 3) rfl)
  refine lv_aload_n hx hb dX12_blame_0 rfl (lv_at hlv 0 rfl) ?_
  refine lv_iconst (v := iI 0) hx hb dX12_blame_1 (by decide) ?_
  refine va_put (D := D) (ci := 12) (v := vI 0) (ty := .int) (C := RX12) (T := TX12) (N := 38) hx hb hts hi12 tyX12 tyX12_ok nmX12 hown hG.1 hP hD hS 0 rfl rfl 0 (by decide) lf1 (fun _ h9 => h9) rfl (by decide +kernel) rfl rfl (Nat.le_of_ble_eq_true rfl) dX12_blame_2 (fun H locs hP hD hS => ?_)
  obtain ⟨hP, hD⟩ := pw9 [zO mm 12 [vI 0, vR m1, vI tp, vI sz_, vI ap, vI bad, vI bk, vI opn, vI fp, vR m9, vR m10, vR m11, vR m12, vR m13, vR m14, vR m15, vI im, vI nr, vI nl, vR m19, vR m20, vR m21, vI sp_, vR m23, vR m24, vR m25, vR m26, vR m27, vR m28, vI wtc, vI wcl, vI ir, vI ip, vR m33, vI shu, vR m35, vI sfa, vI swr], zI m1 (cy 0) 4 f1, zI m10 (cy 0) 68 f10, zI m12 (cy 0) 389 f12, zI m14 (cy 0) 389 f14, zI m19 (cy 0) 4 f19, zI m20 (cy 0) 32 f20, zI m21 (cy 0) 32 f21] hP hD
  refine lv_aload_n hx hb dX12_blame_5 rfl (lv_at hlv 0 rfl) ?_
  refine lv_iload_n hx hb dX12_blame_6 rfl (lv_at hlv 2 rfl) ?_
  refine lv_iload_n hx hb dX12_blame_7 rfl (lv_at hlv 3 rfl) ?_
  refine lv_iconst (v := iI 1) hx hb dX12_blame_8 (by decide) ?_
  refine cjr_i [false, false, false, true, true, true, true, true] (fun pre9 => (va_runV (As := [vI x, vI y, vI 1]) (rest := []) ⟨hx, hb, hml, hown, hts⟩ (m_isCell l hl D cy sa mm m1 m9 m10 m11 m12 m13 m14 m15 m19 m20 m21 m23 m24 m25 m26 m27 m28 m33 m35 0 tp sz_ ap bad bk opn fp im nr nl sp_ wtc wcl ir ip shu sfa swr f1 f10 x y 1 H.size (by show ((-2147483648) : Int) ≤ 0 ∧ (0 : Int) ≤ 2147483647; decide) (by first | exact hr_tp | omega) (by first | exact hr_sz_ | omega) (by first | exact hr_ap | omega) (by first | exact hr_bad | omega) (by first | exact hr_bk | omega) (by first | exact hr_opn | omega) (by first | exact hr_fp | omega) (by first | exact hr_im | omega) (by first | exact hr_nr | omega) (by first | exact hr_nl | omega) (by first | exact hr_sp_ | omega) (by first | exact hr_wtc | omega) (by first | exact hr_wcl | omega) (by first | exact hr_ir | omega) (by first | exact hr_ip | omega) (by first | exact hr_shu | omega) (by first | exact hr_sfa | omega) (by first | exact hr_swr | omega) (by first | exact hr_x | omega) (by first | exact hr_y | omega) (by show (1 : Int) ≤ 1 ∧ (1 : Int) ≤ 4; decide) hf10) (cwV 3 hts gg_1 rfl rfl rfl (by decide +kernel) ⟨Nat.le_of_ble_eq_true rfl, Nat.le_of_ble_eq_true rfl⟩) ⟨pcW.blind, (va_recv hG.1 hP (ci := 12) (q0 := 0) rfl rfl), pre9⟩ rfl rfl hlv.1 rfl (lv_room (Nat.le_of_ble_eq_true rfl)) dX12_blame_9 ⟨Nat.le_of_ble_eq_true rfl, Nat.le_of_ble_eq_true rfl⟩)) hP hD hS hA hG hT [0, 1, 2] rfl (by decide +kernel) (fun r1 u1 H locs hw1 hq9 hS => ?_)
  obtain ⟨rfl, hq1_1, hq1_2, hq1_3, hq1_4⟩ := hw1
  obtain ⟨hP, hD⟩ := pd9 [zI m12 (cy 0) 389 f12, zI m14 (cy 0) 389 f14, zI m19 (cy 0) 4 f19, zI m20 (cy 0) 32 f20, zI m21 (cy 0) 32 f21, zO mm 12 [vI (u1.2.1 1), vR m1, vI tp, vI sz_, vI ap, vI bad, vI bk, vI opn, vI fp, vR m9, vR m10, vR m11, vR m12, vR m13, vR m14, vR m15, vI im, vI nr, vI nl, vR m19, vR m20, vR m21, vI sp_, vR m23, vR m24, vR m25, vR m26, vR m27, vR m28, vI wtc, vI wcl, vI ir, vI ip, vR m33, vI shu, vR m35, vI sfa, vI swr], zI m1 (cy 0) 4 (u1.2.2 0), zI m10 (cy 0) 68 f10] hq9
  refine iz_eq (tgt := 48) hx hb dX12_blame_12 (by decide) (by first | exact rgw hq1_2 (by decide) (by decide) | omega) (fun c_1 => ?_) (fun c_1 => ?_)
  · refine lv_iconst (v := iI 0) hx hb dX12_blame_48 (by decide) ?_
    refine W.widen (k := 0) (n := 0) (Nat.le_of_ble_eq_true rfl) (Nat.le_of_ble_eq_true rfl) ?_
    exact W.iret (v := iI 0) hx hb hr (fun t ht hW => ⟨⟨iI 0, ((fun k => ([] : List Nat).getD k 0), (fun k => ([0, (u1.2.1 1)] : List Int).getD k 0), (fun k => ([(u1.2.2 0), f12, f14] : List (Nat → Int32)).getD k (fun _ => 0))), rfl, ⟨rfl, (by show ((-2147483648) ≤ (u1.2.1 1) ∧ (u1.2.1 1) ≤ 2147483647); first | exact hq1_1 | omega), (by show ((-2147483648) ≤ 0 ∧ 0 ≤ 2147483647); show ((-2147483648) : Int) ≤ 0 ∧ (0 : Int) ≤ 2147483647; decide), hq1_4, hf12, hf14, hf19⟩, at9 ht hP hD [5, 6, 7, 0, 1, 2, 3, 4] (by decide +kernel) rfl⟩, hS.F ht⟩) hS.2.2 dX12_blame_49
  · refine lv_aload_n hx hb dX12_blame_15 rfl (lv_at hlv 0 rfl) ?_
    refine lv_iload_n hx hb dX12_blame_16 rfl (lv_at hlv 1 rfl) ?_
    refine lv_iconst (v := iI 2) hx hb dX12_blame_17 (by decide) ?_
    refine cjr_i [true, true, true, true, true, false, false, true] (fun pre9 => (va_runV (As := [vI n, vI 2]) (rest := []) ⟨hx, hb, hml, hown, hts⟩ (m_isRain l hl D cy sa mm m1 m9 m10 m11 m12 m13 m14 m15 m19 m20 m21 m23 m24 m25 m26 m27 m28 m33 m35 (u1.2.1 1) tp sz_ ap bad bk opn fp im nr nl sp_ wtc wcl ir ip shu sfa swr (u1.2.2 0) n 2 H.size (by first | exact hq1_1 | omega) (by first | exact hr_tp | omega) (by first | exact hr_sz_ | omega) (by first | exact hr_ap | omega) (by first | exact hr_bad | omega) (by first | exact hr_bk | omega) (by first | exact hr_opn | omega) (by first | exact hr_fp | omega) (by first | exact hr_im | omega) (by first | exact hr_nr | omega) (by first | exact hr_nl | omega) (by first | exact hr_sp_ | omega) (by first | exact hr_wtc | omega) (by first | exact hr_wcl | omega) (by first | exact hr_ir | omega) (by first | exact hr_ip | omega) (by first | exact hr_shu | omega) (by first | exact hr_sfa | omega) (by first | exact hr_swr | omega) (by first | exact hr_n | omega) (by show (1 : Int) ≤ 2 ∧ (2 : Int) ≤ 4; decide)) (cwV 2 hts gg_2 rfl rfl rfl (by decide +kernel) ⟨Nat.le_of_ble_eq_true rfl, Nat.le_of_ble_eq_true rfl⟩) ⟨pcW.blind, (va_recv hG.1 hP (ci := 12) (q0 := 5) rfl rfl), pre9⟩ rfl rfl hlv.1 rfl (lv_room (Nat.le_of_ble_eq_true rfl)) dX12_blame_18 ⟨Nat.le_of_ble_eq_true rfl, Nat.le_of_ble_eq_true rfl⟩)) hP hD hS hA hG hT [5, 6] rfl (by decide +kernel) (fun r2 u2 H locs hw2 hq9 hS => ?_)
    obtain ⟨rfl, hq2_1, hq2_2, hq2_3⟩ := hw2
    obtain ⟨hP, hD⟩ := pd9 [zI m12 (cy 0) 389 f12, zI m14 (cy 0) 389 f14, zI m19 (cy 0) 4 f19, zI m20 (cy 0) 32 f20, zI m21 (cy 0) 32 f21, zI m10 (cy 0) 68 f10, zO mm 12 [vI (u2.2.1 1), vR m1, vI tp, vI sz_, vI ap, vI bad, vI bk, vI opn, vI fp, vR m9, vR m10, vR m11, vR m12, vR m13, vR m14, vR m15, vI im, vI nr, vI nl, vR m19, vR m20, vR m21, vI sp_, vR m23, vR m24, vR m25, vR m26, vR m27, vR m28, vI wtc, vI wcl, vI ir, vI ip, vR m33, vI shu, vR m35, vI sfa, vI swr], zI m1 (cy 0) 4 (u2.2.2 0)] hq9
    refine iz_eq (tgt := 48) hx hb dX12_blame_21 (by decide) (by first | exact rgw hq2_2 (by decide) (by decide) | omega) (fun c_2 => ?_) (fun c_2 => ?_)
    · refine lv_iconst (v := iI 0) hx hb dX12_blame_48 (by decide) ?_
      refine W.widen (k := 0) (n := 0) (Nat.le_of_ble_eq_true rfl) (Nat.le_of_ble_eq_true rfl) ?_
      exact W.iret (v := iI 0) hx hb hr (fun t ht hW => ⟨⟨iI 0, ((fun k => ([] : List Nat).getD k 0), (fun k => ([0, (u2.2.1 1)] : List Int).getD k 0), (fun k => ([(u2.2.2 0), f12, f14] : List (Nat → Int32)).getD k (fun _ => 0))), rfl, ⟨rfl, (by show ((-2147483648) ≤ (u2.2.1 1) ∧ (u2.2.1 1) ≤ 2147483647); first | exact hq2_1 | omega), (by show ((-2147483648) ≤ 0 ∧ 0 ≤ 2147483647); show ((-2147483648) : Int) ≤ 0 ∧ (0 : Int) ≤ 2147483647; decide), hq1_4, hf12, hf14, hf19⟩, at9 ht hP hD [6, 7, 5, 0, 1, 2, 3, 4] (by decide +kernel) rfl⟩, hS.F ht⟩) hS.2.2 dX12_blame_49
    · refine lv_aload_n hx hb dX12_blame_24 rfl (lv_at hlv 0 rfl) ?_
      refine lv_iload hx hb dX12_blame_25 (lv_at hlv 4 rfl) ?_
      refine lv_iconst (v := iI 0) hx hb dX12_blame_27 (by decide) ?_
      refine lv_iconst (v := iI 1) hx hb dX12_blame_28 (by decide) ?_
      refine cjr_i [true, true, true, true, true, true, true, true] (fun pre9 => (va_runS (As := [vI k, vI 0, vI 1]) (rest := [vR mm]) ⟨hx, hb, hml, hown, hts⟩ (m_within l hl D cy sa k 0 1 H.size (by first | exact hr_k | omega) (by show ((-2147483648) : Int) ≤ 0 ∧ (0 : Int) ≤ 2147483647; decide) (by show ((-2147483648) : Int) ≤ 1 ∧ (1 : Int) ≤ 2147483647; decide)) (va_cwS 3 hts gg_3 rfl rfl rfl (by decide +kernel) ⟨Nat.le_of_ble_eq_true rfl, Nat.le_of_ble_eq_true rfl⟩) ⟨pcW.blind, pre9⟩ rfl rfl hlv.1 rfl (lv_room (Nat.le_of_ble_eq_true rfl)) dX12_blame_29 ⟨Nat.le_of_ble_eq_true rfl, Nat.le_of_ble_eq_true rfl⟩)) hP hD hS hA hG hT [] rfl (by decide +kernel) (fun r3 u3 H locs hw3 hq9 hS => ?_)
      obtain ⟨rfl, hq3_1, hq3_2, hq3_3⟩ := hw3
      obtain ⟨hP, hD⟩ := pd9 [zI m12 (cy 0) 389 f12, zI m14 (cy 0) 389 f14, zI m19 (cy 0) 4 f19, zI m20 (cy 0) 32 f20, zI m21 (cy 0) 32 f21, zI m10 (cy 0) 68 f10, zO mm 12 [vI (u2.2.1 1), vR m1, vI tp, vI sz_, vI ap, vI bad, vI bk, vI opn, vI fp, vR m9, vR m10, vR m11, vR m12, vR m13, vR m14, vR m15, vI im, vI nr, vI nl, vR m19, vR m20, vR m21, vI sp_, vR m23, vR m24, vR m25, vR m26, vR m27, vR m28, vI wtc, vI wcl, vI ir, vI ip, vR m33, vI shu, vR m35, vI sfa, vI swr], zI m1 (cy 0) 4 (u2.2.2 0)] hq9
      refine lv_iconst (v := iI 3) hx hb dX12_blame_32 (by decide) ?_
      refine lv_iconst (v := iI 2) hx hb dX12_blame_33 (by decide) ?_
      refine cjr_i [true, true, true, true, true, true, false, false] (fun pre9 => (va_runV (As := [vI (u3.2.1 0), vI 3, vI 2]) (rest := []) ⟨hx, hb, hml, hown, hts⟩ (m_may l hl D cy sa mm m1 m9 m10 m11 m12 m13 m14 m15 m19 m20 m21 m23 m24 m25 m26 m27 m28 m33 m35 (u2.2.1 1) tp sz_ ap bad bk opn fp im nr nl sp_ wtc wcl ir ip shu sfa swr (u2.2.2 0) (u3.2.1 0) 3 2 H.size (by first | exact hq2_1 | omega) (by first | exact hr_tp | omega) (by first | exact hr_sz_ | omega) (by first | exact hr_ap | omega) (by first | exact hr_bad | omega) (by first | exact hr_bk | omega) (by first | exact hr_opn | omega) (by first | exact hr_fp | omega) (by first | exact hr_im | omega) (by first | exact hr_nr | omega) (by first | exact hr_nl | omega) (by first | exact hr_sp_ | omega) (by first | exact hr_wtc | omega) (by first | exact hr_wcl | omega) (by first | exact hr_ir | omega) (by first | exact hr_ip | omega) (by first | exact hr_shu | omega) (by first | exact hr_sfa | omega) (by first | exact hr_swr | omega) (by first | exact hq3_1 | omega) (by show (1 : Int) ≤ 3 ∧ (3 : Int) ≤ 4; decide) (by show (0 : Int) ≤ 2 ∧ (2 : Int) ≤ 3; decide)) (cwV 3 hts gg_4 rfl rfl rfl (by decide +kernel) ⟨Nat.le_of_ble_eq_true rfl, Nat.le_of_ble_eq_true rfl⟩) ⟨pcW.blind, (va_recv hG.1 hP (ci := 12) (q0 := 6) rfl rfl), pre9⟩ rfl rfl hlv.1 rfl (lv_room (Nat.le_of_ble_eq_true rfl)) dX12_blame_34 ⟨Nat.le_of_ble_eq_true rfl, Nat.le_of_ble_eq_true rfl⟩)) hP hD hS hA hG hT [6, 7] rfl (by decide +kernel) (fun r4 u4 H locs hw4 hq9 hS => ?_)
      obtain ⟨rfl, hq4_1, hq4_2, hq4_3, hq4_4⟩ := hw4
      obtain ⟨hP, hD⟩ := pd9 [zI m12 (cy 0) 389 f12, zI m14 (cy 0) 389 f14, zI m19 (cy 0) 4 f19, zI m20 (cy 0) 32 f20, zI m21 (cy 0) 32 f21, zI m10 (cy 0) 68 f10, zO mm 12 [vI (u4.2.1 1), vR m1, vI tp, vI sz_, vI ap, vI bad, vI bk, vI opn, vI fp, vR m9, vR m10, vR m11, vR m12, vR m13, vR m14, vR m15, vI im, vI nr, vI nl, vR m19, vR m20, vR m21, vI sp_, vR m23, vR m24, vR m25, vR m26, vR m27, vR m28, vI wtc, vI wcl, vI ir, vI ip, vR m33, vI shu, vR m35, vI sfa, vI swr], zI m1 (cy 0) 4 (u4.2.2 0)] hq9
      refine iz_eq (tgt := 48) hx hb dX12_blame_37 (by decide) (by first | exact rgw hq4_2 (by decide) (by decide) | omega) (fun c_3 => ?_) (fun c_3 => ?_)
      · refine lv_iconst (v := iI 0) hx hb dX12_blame_48 (by decide) ?_
        refine W.widen (k := 0) (n := 0) (Nat.le_of_ble_eq_true rfl) (Nat.le_of_ble_eq_true rfl) ?_
        exact W.iret (v := iI 0) hx hb hr (fun t ht hW => ⟨⟨iI 0, ((fun k => ([] : List Nat).getD k 0), (fun k => ([0, (u4.2.1 1)] : List Int).getD k 0), (fun k => ([(u4.2.2 0), f12, f14] : List (Nat → Int32)).getD k (fun _ => 0))), rfl, ⟨rfl, (by show ((-2147483648) ≤ (u4.2.1 1) ∧ (u4.2.1 1) ≤ 2147483647); first | exact hq4_1 | omega), (by show ((-2147483648) ≤ 0 ∧ 0 ≤ 2147483647); show ((-2147483648) : Int) ≤ 0 ∧ (0 : Int) ≤ 2147483647; decide), hq1_4, hf12, hf14, hf19⟩, at9 ht hP hD [6, 7, 5, 0, 1, 2, 3, 4] (by decide +kernel) rfl⟩, hS.F ht⟩) hS.2.2 dX12_blame_49
      · refine lv_aload_n hx hb dX12_blame_40 rfl (lv_at hlv 0 rfl) ?_
        refine lv_iconst (v := iI 4) hx hb dX12_blame_41 (by decide) ?_
        refine cjr_i [false, true, true, true, true, false, false, false] (fun pre9 => (va_runV (As := [vI 4]) (rest := []) ⟨hx, hb, hml, hown, hts⟩ (m_isNow l hl D cy sa mm m1 m9 m10 m11 m12 m13 m14 m15 m19 m20 m21 m23 m24 m25 m26 m27 m28 m33 m35 (u4.2.1 1) tp sz_ ap bad bk opn fp im nr nl sp_ wtc wcl ir ip shu sfa swr (u4.2.2 0) f10 f12 4 H.size (by first | exact hq4_1 | omega) (by first | exact hr_tp | omega) (by first | exact hr_sz_ | omega) (by first | exact hr_ap | omega) (by first | exact hr_bad | omega) (by first | exact hr_bk | omega) (by first | exact hr_opn | omega) (by first | exact hr_fp | omega) (by first | exact hr_im | omega) (by first | exact hr_nr | omega) (by first | exact hr_nl | omega) (by first | exact hr_sp_ | omega) (by first | exact hr_wtc | omega) (by first | exact hr_wcl | omega) (by first | exact hr_ir | omega) (by first | exact hr_ip | omega) (by first | exact hr_shu | omega) (by first | exact hr_sfa | omega) (by first | exact hr_swr | omega) (by show (1 : Int) ≤ 4 ∧ (4 : Int) ≤ 4; decide) hq1_4 (hf12.1)) (cwV 1 hts gg_5 rfl rfl rfl (by decide +kernel) ⟨Nat.le_of_ble_eq_true rfl, Nat.le_of_ble_eq_true rfl⟩) ⟨pcW.blind, (va_recv hG.1 hP (ci := 12) (q0 := 6) rfl rfl), pre9⟩ rfl rfl hlv.1 rfl (lv_room (Nat.le_of_ble_eq_true rfl)) dX12_blame_42 ⟨Nat.le_of_ble_eq_true rfl, Nat.le_of_ble_eq_true rfl⟩)) hP hD hS hA hG hT [6, 7, 5, 0] rfl (by decide +kernel) (fun r5 u5 H locs hw5 hq9 hS => ?_)
        obtain ⟨rfl, hq5_1, hq5_2, hq5_3, hq5_4, hq5_5⟩ := hw5
        obtain ⟨hP, hD⟩ := pd9 [zI m14 (cy 0) 389 f14, zI m19 (cy 0) 4 f19, zI m20 (cy 0) 32 f20, zI m21 (cy 0) 32 f21, zO mm 12 [vI (u5.2.1 1), vR m1, vI tp, vI sz_, vI ap, vI bad, vI bk, vI opn, vI fp, vR m9, vR m10, vR m11, vR m12, vR m13, vR m14, vR m15, vI im, vI nr, vI nl, vR m19, vR m20, vR m21, vI sp_, vR m23, vR m24, vR m25, vR m26, vR m27, vR m28, vI wtc, vI wcl, vI ir, vI ip, vR m33, vI shu, vR m35, vI sfa, vI swr], zI m1 (cy 0) 4 (u5.2.2 0), zI m10 (cy 0) 68 f10, zI m12 (cy 0) 389 f12] hq9
        refine iz_ne (tgt := 50) hx hb dX12_blame_45 (by decide) (by first | exact rgw hq5_2 (by decide) (by decide) | omega) (fun c_4 => ?_) (fun c_4 => ?_)
        · refine lv_aload_n hx hb dX12_blame_50 rfl (lv_at hlv 0 rfl) ?_
          refine cjr_v [false, true, true, true, false, true, true, false] (fun pre9 => (va_runV (As := []) (rest := []) ⟨hx, hb, hml, hown, hts⟩ (m_keeps l hl D cy sa mm m1 m9 m10 m11 m12 m13 m14 m15 m19 m20 m21 m23 m24 m25 m26 m27 m28 m33 m35 (u5.2.1 1) tp sz_ ap bad bk opn fp im nr nl sp_ wtc wcl ir ip shu sfa swr f12 f14 qs H.size (by first | exact hq5_1 | omega) (by first | exact hr_tp | omega) (by first | exact hr_sz_ | omega) (by first | exact hr_ap | omega) (by first | exact hr_bad | omega) (by first | exact hr_bk | omega) (by first | exact hr_opn | omega) (by first | exact hr_fp | omega) (by first | exact hr_im | omega) (by first | exact hr_nr | omega) (by first | exact hr_nl | omega) (by first | exact hr_sp_ | omega) (by first | exact hr_wtc | omega) (by first | exact hr_wcl | omega) (by first | exact hr_ir | omega) (by first | exact hr_ip | omega) (by first | exact hr_shu | omega) (by first | exact hr_sfa | omega) (by first | exact hr_swr | omega) hf12 hf14) (cwV 0 hts gg_6 rfl rfl rfl (by decide +kernel) ⟨Nat.le_of_ble_eq_true rfl, Nat.le_of_ble_eq_true rfl⟩) ⟨pcW.blind, (va_recv hG.1 hP (ci := 12) (q0 := 4) rfl rfl), pre9⟩ rfl rfl hlv.1 rfl (lv_room (Nat.le_of_ble_eq_true rfl)) dX12_blame_51 ⟨Nat.le_of_ble_eq_true rfl, Nat.le_of_ble_eq_true rfl⟩)) hP hD hS hA hG hT [4, 7, 0] rfl (by decide +kernel) (fun u6 H locs hw6 hq9 hS => ?_)
          obtain ⟨hq6_0, hq6_1⟩ := hw6
          obtain ⟨hP, hD⟩ := pd9 [zI m19 (cy 0) 4 f19, zI m20 (cy 0) 32 f20, zI m21 (cy 0) 32 f21, zI m1 (cy 0) 4 (u5.2.2 0), zI m10 (cy 0) 68 f10, zO mm 12 [vI (u5.2.1 1), vR m1, vI tp, vI sz_, vI ap, vI bad, vI bk, vI opn, vI fp, vR m9, vR m10, vR m11, vR m12, vR m13, vR m14, vR m15, vI im, vI nr, vI nl, vR m19, vR m20, vR m21, vI sp_, vR m23, vR m24, vR m25, vR m26, vR m27, vR m28, vI wtc, vI wcl, vI ir, vI ip, vR m33, vI shu, vR m35, vI sfa, vI swr], zI m12 (cy 0) 389 f12, zI m14 (cy 0) 389 (u6.2.2 0)] hq9
          refine lv_aload_n hx hb dX12_blame_54 rfl (lv_at hlv 0 rfl) ?_
          refine lv_iload_n hx hb dX12_blame_55 rfl (lv_at hlv 1 rfl) ?_
          refine lv_iload_n hx hb dX12_blame_56 rfl (lv_at hlv 2 rfl) ?_
          refine lv_iload_n hx hb dX12_blame_57 rfl (lv_at hlv 3 rfl) ?_
          refine cjr_i [true, true, true, true, true, true, true, true] (fun pre9 => (va_runS (As := [vI x, vI y]) (rest := [vI n, vR mm]) ⟨hx, hb, hml, hown, hts⟩ (m_at l hl D cy sa x y H.size (by omega) (by omega)) (va_cwS 2 hts gg_7 rfl rfl rfl (by decide +kernel) ⟨Nat.le_of_ble_eq_true rfl, Nat.le_of_ble_eq_true rfl⟩) ⟨pcW.blind, pre9⟩ rfl rfl hlv.1 rfl (lv_room (Nat.le_of_ble_eq_true rfl)) dX12_blame_58 ⟨Nat.le_of_ble_eq_true rfl, Nat.le_of_ble_eq_true rfl⟩)) hP hD hS hA hG hT [] rfl (by decide +kernel) (fun r7 u7 H locs hw7 hq9 hS => ?_)
          obtain ⟨rfl, hq7_1, hq7_2⟩ := hw7
          obtain ⟨hP, hD⟩ := pd9 [zI m19 (cy 0) 4 f19, zI m20 (cy 0) 32 f20, zI m21 (cy 0) 32 f21, zI m1 (cy 0) 4 (u5.2.2 0), zI m10 (cy 0) 68 f10, zO mm 12 [vI (u5.2.1 1), vR m1, vI tp, vI sz_, vI ap, vI bad, vI bk, vI opn, vI fp, vR m9, vR m10, vR m11, vR m12, vR m13, vR m14, vR m15, vI im, vI nr, vI nl, vR m19, vR m20, vR m21, vI sp_, vR m23, vR m24, vR m25, vR m26, vR m27, vR m28, vI wtc, vI wcl, vI ir, vI ip, vR m33, vI shu, vR m35, vI sfa, vI swr], zI m12 (cy 0) 389 f12, zI m14 (cy 0) 389 (u6.2.2 0)] hq9
          refine cjr_i [false, false, false, true, false, false, false, true] (fun pre9 => (va_runV (As := [vI n, vI (u7.2.1 0)]) (rest := []) ⟨hx, hb, hml, hown, hts⟩ (m_deepBehind l hl D cy sa mm m1 m9 m10 m11 m12 m13 m14 m15 m19 m20 m21 m23 m24 m25 m26 m27 m28 m33 m35 (u5.2.1 1) tp sz_ ap bad bk opn fp im nr nl sp_ wtc wcl ir ip shu sfa swr f10 f12 f19 f20 f21 n (u7.2.1 0) qs H.size (by first | exact hq5_1 | omega) (by first | exact hr_tp | omega) (by first | exact hr_sz_ | omega) (by first | exact hr_ap | omega) (by first | exact hr_bad | omega) (by first | exact hr_bk | omega) (by first | exact hr_opn | omega) (by first | exact hr_fp | omega) (by first | exact hr_im | omega) (by first | exact hr_nr | omega) (by first | exact hr_nl | omega) (by first | exact hr_sp_ | omega) (by first | exact hr_wtc | omega) (by first | exact hr_wcl | omega) (by first | exact hr_ir | omega) (by first | exact hr_ip | omega) (by first | exact hr_shu | omega) (by first | exact hr_sfa | omega) (by first | exact hr_swr | omega) (by omega) (by first | exact hq7_1 | omega) hq5_4 hq6_0 hf19) (cwV 2 hts gg_8 rfl rfl rfl (by decide +kernel) ⟨Nat.le_of_ble_eq_true rfl, Nat.le_of_ble_eq_true rfl⟩) ⟨pcW.blind, (va_recv hG.1 hP (ci := 12) (q0 := 5) rfl rfl), pre9⟩ rfl rfl hlv.1 rfl (lv_room (Nat.le_of_ble_eq_true rfl)) dX12_blame_61 ⟨Nat.le_of_ble_eq_true rfl, Nat.le_of_ble_eq_true rfl⟩)) hP hD hS hA hG hT [5, 4, 6, 0, 1, 2] rfl (by decide +kernel) (fun r8 u8 H locs hw8 hq9 hS => ?_)
          obtain ⟨rfl, hq8_1, hq8_2, hq8_3, hq8_4⟩ := hw8
          obtain ⟨hP, hD⟩ := pd9 [zI m1 (cy 0) 4 (u5.2.2 0), zI m14 (cy 0) 389 (u6.2.2 0), zO mm 12 [vI (u5.2.1 1), vR m1, vI tp, vI sz_, vI ap, vI bad, vI bk, vI opn, vI fp, vR m9, vR m10, vR m11, vR m12, vR m13, vR m14, vR m15, vI im, vI nr, vI nl, vR m19, vR m20, vR m21, vI sp_, vR m23, vR m24, vR m25, vR m26, vR m27, vR m28, vI wtc, vI wcl, vI ir, vI ip, vR m33, vI shu, vR m35, vI sfa, vI swr], zI m10 (cy 0) 68 f10, zI m12 (cy 0) 389 (u8.2.2 0), zI m19 (cy 0) 4 f19, zI m20 (cy 0) 32 f20, zI m21 (cy 0) 32 f21] hq9
          refine lv_istore (lv' := [(5, vI (u8.2.1 0)), (0, vR mm), (1, vI n), (2, vI x), (3, vI y), (4, vI k)]) hx hb dX12_blame_64 hlv (by decide) rfl (fun ls hlv => ?_)
          refine lv_aload_n hx hb dX12_blame_66 rfl (lv_at hlv 1 rfl) ?_
          refine cjr_v [true, false, false, true, false, true, true, true] (fun pre9 => (va_runV (As := []) (rest := []) ⟨hx, hb, hml, hown, hts⟩ (m_back l hl D cy sa mm m1 m9 m10 m11 m12 m13 m14 m15 m19 m20 m21 m23 m24 m25 m26 m27 m28 m33 m35 (u5.2.1 1) tp sz_ ap bad bk opn fp im nr nl sp_ wtc wcl ir ip shu sfa swr (u8.2.2 0) (u6.2.2 0) 8 qs H.size (by first | exact hq5_1 | omega) (by first | exact hr_tp | omega) (by first | exact hr_sz_ | omega) (by first | exact hr_ap | omega) (by first | exact hr_bad | omega) (by first | exact hr_bk | omega) (by first | exact hr_opn | omega) (by first | exact hr_fp | omega) (by first | exact hr_im | omega) (by first | exact hr_nr | omega) (by first | exact hr_nl | omega) (by first | exact hr_sp_ | omega) (by first | exact hr_wtc | omega) (by first | exact hr_wcl | omega) (by first | exact hr_ir | omega) (by first | exact hr_ip | omega) (by first | exact hr_shu | omega) (by first | exact hr_sfa | omega) (by first | exact hr_swr | omega) (by show (8 : Int) ≤ 8 ∧ (8 : Int) ≤ 9; decide) (hq8_3.1) hq6_1) (cwV 0 hts gg_9 rfl rfl rfl (by decide +kernel) ⟨Nat.le_of_ble_eq_true rfl, Nat.le_of_ble_eq_true rfl⟩) ⟨pcW.blind, (va_recv hG.1 hP (ci := 12) (q0 := 2) rfl rfl), pre9⟩ rfl rfl hlv.1 rfl (lv_room (Nat.le_of_ble_eq_true rfl)) dX12_blame_67 ⟨Nat.le_of_ble_eq_true rfl, Nat.le_of_ble_eq_true rfl⟩)) hP hD hS hA hG hT [2, 4, 1] rfl (by decide +kernel) (fun u9 H locs hw9 hq9 hS => ?_)
          obtain ⟨hq9_0, hq9_1⟩ := hw9
          obtain ⟨hP, hD⟩ := pd9 [zI m1 (cy 0) 4 (u5.2.2 0), zI m10 (cy 0) 68 f10, zI m19 (cy 0) 4 f19, zI m20 (cy 0) 32 f20, zI m21 (cy 0) 32 f21, zO mm 12 [vI (u5.2.1 1), vR m1, vI tp, vI sz_, vI ap, vI bad, vI bk, vI opn, vI fp, vR m9, vR m10, vR m11, vR m12, vR m13, vR m14, vR m15, vI im, vI nr, vI nl, vR m19, vR m20, vR m21, vI sp_, vR m23, vR m24, vR m25, vR m26, vR m27, vR m28, vI wtc, vI wcl, vI ir, vI ip, vR m33, vI shu, vR m35, vI sfa, vI swr], zI m12 (cy 0) 389 (u9.2.2 0), zI m14 (cy 0) 389 (u6.2.2 0)] hq9
          refine lv_iconst (v := iI (-1)) hx hb dX12_blame_70 (by decide) ?_
          refine lv_istore (lv' := [(6, vI (-1)), (5, vI (u8.2.1 0)), (0, vR mm), (1, vI n), (2, vI x), (3, vI y), (4, vI k)]) hx hb dX12_blame_71 hlv (by decide) rfl (fun ls hlv => ?_)
          refine lv_iload hx hb dX12_blame_73 (lv_at hlv 1 rfl) ?_
          refine lv_istore (lv' := [(7, vI (u8.2.1 0)), (6, vI (-1)), (5, vI (u8.2.1 0)), (0, vR mm), (1, vI n), (2, vI x), (3, vI y), (4, vI k)]) hx hb dX12_blame_75 hlv (by decide) rfl (fun ls hlv => ?_)
          refine lv_iconst (v := iI 0) hx hb dX12_blame_77 (by decide) ?_
          refine lv_istore (lv' := [(8, vI 0), (7, vI (u8.2.1 0)), (6, vI (-1)), (5, vI (u8.2.1 0)), (0, vR mm), (1, vI n), (2, vI x), (3, vI y), (4, vI k)]) hx hb dX12_blame_78 hlv (by decide) rfl (fun ls hlv => ?_)
          refine (?_ : ∀ (fu : Nat) (q6 : Int) (q7 : Int) (q8 : Int) (wg : Nat → Int32) (H : Heap) (locs : List Loc) (ls : Array Slot), 6 - q8 < (fu : Int) → ((-1) ≤ q6 ∧ q6 ≤ 6) → ((-2147483648) ≤ q7 ∧ q7 ≤ 2147483647) → (0 ≤ q8 ∧ q8 ≤ 6) → SQ qs 8 wg → va_P D vwCl [zI m1 (cy 0) 4 (u5.2.2 0), zI m10 (cy 0) 68 f10, zI m19 (cy 0) 4 f19, zI m20 (cy 0) 32 f20, zI m21 (cy 0) 32 f21, zO mm 12 [vI (u5.2.1 1), vR m1, vI tp, vI sz_, vI ap, vI bad, vI bk, vI opn, vI fp, vR m9, vR m10, vR m11, vR m12, vR m13, vR m14, vR m15, vI im, vI nr, vI nl, vR m19, vR m20, vR m21, vI sp_, vR m23, vR m24, vR m25, vR m26, vR m27, vR m28, vI wtc, vI wcl, vI ir, vI ip, vR m33, vI shu, vR m35, vI sfa, vI swr], zI m12 (cy 0) 389 wg, zI m14 (cy 0) 389 (u6.2.2 0)] H → va_D A [zI m1 (cy 0) 4 (u5.2.2 0), zI m10 (cy 0) 68 f10, zI m19 (cy 0) 4 f19, zI m20 (cy 0) 32 f20, zI m21 (cy 0) 32 f21, zO mm 12 [vI (u5.2.1 1), vR m1, vI tp, vI sz_, vI ap, vI bad, vI bk, vI opn, vI fp, vR m9, vR m10, vR m11, vR m12, vR m13, vR m14, vR m15, vI im, vI nr, vI nl, vR m19, vR m20, vR m21, vI sp_, vR m23, vR m24, vR m25, vR m26, vR m27, vR m28, vI wtc, vI wcl, vI ir, vI ip, vR m33, vI shu, vR m35, vI sfa, vI swr], zI m12 (cy 0) 389 wg, zI m14 (cy 0) 389 (u6.2.2 0)] → va_S A s.heap H locs → lv_has ls 10 [(8, vI q8), (7, vI q7), (6, vI q6), (5, vI (u8.2.1 0)), (0, vR mm), (1, vI n), (2, vI x), (3, vI y), (4, vI k)] → W p l e _ s m _ below meth c H locs _ _ _ (F0 m 80 ls [])) (((6 - 0) + 1 : Int)).toNat (-1) (u8.2.1 0) 0 (u9.2.2 0) _ _ _ (by omega) (by show ((-1) : Int) ≤ (-1) ∧ ((-1) : Int) ≤ 6; decide) (by first | exact hq8_1 | omega) (by show (0 : Int) ≤ 0 ∧ (0 : Int) ≤ 6; decide) hq9_0 hP hD hS hlv
          clear hP hD hS hlv
          intro fu
          induction fu with
          | zero => intro q6 q7 q8 wg H locs ls hm80 hl80_0 hl80_1 hl80_2 hiwg hP hD hS hlv; omega
          | succ fu ih80 =>
            intro q6 q7 q8 wg H locs ls hm80 hl80_0 hl80_1 hl80_2 hiwg hP hD hS hlv
            refine lv_iload hx hb dX12_blame_80 (lv_at hlv 0 rfl) ?_
            refine lv_aload_n hx hb dX12_blame_82 rfl (lv_at hlv 4 rfl) ?_
            refine va_get (D := D) (ci := 12) (v := vR m10) (C := RX12) (T := TX12) (N := 38) hx hb hts hi12 hown hG.1 hP 5 rfl rfl 10 (by decide) lf23 (fun _ h9 => h9) rfl dX12_blame_83 ?_
            refine lv_iconst (v := iI 2) hx hb dX12_blame_86 (by decide) ?_
            refine va_iald hx hb hG.1 hP 1 0 rfl rfl (iI_in (by omega) (by decide)) dX12_blame_87 ?_
            refine lt_nz (i := 2) (by omega) (fun z_5 hz_5 lz_5 uz_5 => ?_)
            have hz_5 : z_5 = nz f10 2 := hz_5
            have hbz_5_7 := hq8_2.1.2.2.1
            refine ir_ge (tgt := 143) hx hb dX12_blame_88 (by decide) (by first | exact rgw hl80_2 (by decide) (by decide) | omega) (by omega) (fun c_6 => ?_) (fun c_6 => ?_)
            · refine lv_iload hx hb dX12_blame_143 (lv_at hlv 8 rfl) ?_
              refine iz_ne (tgt := 153) hx hb dX12_blame_145 (by decide) (by first | exact hr_k | omega) (fun c_7 => ?_) (fun c_7 => ?_)
              · refine lv_iload hx hb dX12_blame_153 (lv_at hlv 3 rfl) ?_
                refine lv_iload hx hb dX12_blame_155 (lv_at hlv 1 rfl) ?_
                refine lv_isub hx hb dX12_blame_157 ?_
                refine lt_z (fun z_8 ez_8 lz_8 hz_8 => ?_)
                refine W.widen (k := 0) (n := 0) (Nat.le_of_ble_eq_true rfl) (Nat.le_of_ble_eq_true rfl) ?_
                exact W.iret (v := iI z_8) hx hb hr (fun t ht hW => ⟨⟨iI z_8, ((fun k => ([] : List Nat).getD k 0), (fun k => ([z_8, (u5.2.1 1)] : List Int).getD k 0), (fun k => ([(u5.2.2 0), wg, (u6.2.2 0)] : List (Nat → Int32)).getD k (fun _ => 0))), rfl, ⟨rfl, (by show ((-2147483648) ≤ (u5.2.1 1) ∧ (u5.2.1 1) ≤ 2147483647); first | exact hq5_1 | omega), (by show ((-2147483648) ≤ z_8 ∧ z_8 ≤ 2147483647); omega), hq8_2, hiwg, (hq9_1.1), hq8_4⟩, at9 ht hP hD [5, 0, 1, 6, 7, 2, 3, 4] (by decide +kernel) rfl⟩, hS.F ht⟩) hS.2.2 dX12_blame_158
              · refine lv_iload hx hb dX12_blame_148 (lv_at hlv 2 rfl) ?_
                refine lv_goto (tgt := 158) hx hb dX12_blame_150 (by decide) ?_
                refine W.widen (k := 0) (n := 0) (Nat.le_of_ble_eq_true rfl) (Nat.le_of_ble_eq_true rfl) ?_
                exact W.iret (v := iI q6) hx hb hr (fun t ht hW => ⟨⟨iI q6, ((fun k => ([] : List Nat).getD k 0), (fun k => ([q6, (u5.2.1 1)] : List Int).getD k 0), (fun k => ([(u5.2.2 0), wg, (u6.2.2 0)] : List (Nat → Int32)).getD k (fun _ => 0))), rfl, ⟨rfl, (by show ((-2147483648) ≤ (u5.2.1 1) ∧ (u5.2.1 1) ≤ 2147483647); first | exact hq5_1 | omega), (by show ((-2147483648) ≤ q6 ∧ q6 ≤ 2147483647); first | exact rgw hl80_0 (by decide) (by decide) | omega), hq8_2, hiwg, (hq9_1.1), hq8_4⟩, at9 ht hP hD [5, 0, 1, 6, 7, 2, 3, 4] (by decide +kernel) rfl⟩, hS.F ht⟩) hS.2.2 dX12_blame_158
            · refine lv_aload_n hx hb dX12_blame_91 rfl (lv_at hlv 4 rfl) ?_
              refine va_get (D := D) (ci := 12) (v := vR m12) (C := RX12) (T := TX12) (N := 38) hx hb hts hi12 hown hG.1 hP 5 rfl rfl 12 (by decide) lf29 (fun _ h9 => h9) rfl dX12_blame_92 ?_
              refine lv_sipush (v := iI 192) hx hb dX12_blame_95 (by decide) ?_
              refine lv_iload hx hb dX12_blame_98 (lv_at hlv 0 rfl) ?_
              refine lv_iadd hx hb dX12_blame_100 ?_
              refine lt_e (e0 := 192 + q8) (Int32.ofInt_add _ _).symm (fun z_9 hz_9 => ?_)
              refine lv_iconst (v := iI 0) hx hb dX12_blame_101 (by decide) ?_
              refine va_iast hx hb hG.1 hP hD hS 6 0 rfl rfl (iI_in (by omega) (by decide)) dX12_blame_102 (fun H locs hP hD hS => ?_)
              obtain ⟨f_10, hdf_10, hP, hD⟩ := pe9e (fun f_10 => [zI m1 (cy 0) 4 (u5.2.2 0), zI m10 (cy 0) 68 f10, zI m19 (cy 0) 4 f19, zI m20 (cy 0) 32 f20, zI m21 (cy 0) 32 f21, zO mm 12 [vI (u5.2.1 1), vR m1, vI tp, vI sz_, vI ap, vI bad, vI bk, vI opn, vI fp, vR m9, vR m10, vR m11, vR m12, vR m13, vR m14, vR m15, vI im, vI nr, vI nl, vR m19, vR m20, vR m21, vI sp_, vR m23, vR m24, vR m25, vR m26, vR m27, vR m28, vI wtc, vI wcl, vI ir, vI ip, vR m33, vI shu, vR m35, vI sfa, vI swr], zI m12 (cy 0) 389 f_10, zI m14 (cy 0) 389 (u6.2.2 0)]) (upd wg (iI z_9).toNatClampNeg (iI 0)) hP hD
              have hif_10 : SQ qs 8 f_10 := ⟨SI.wo (hiwg.1) hdf_10 (by omega) (by omega) (by omega) (by omega), (SQ.fr hiwg.2 hdf_10 (by omega) (by omega))⟩
              refine lv_aload_n hx hb dX12_blame_103 rfl (lv_at hlv 4 rfl) ?_
              refine lv_iload_n hx hb dX12_blame_104 rfl (lv_at hlv 5 rfl) ?_
              refine lv_iload_n hx hb dX12_blame_105 rfl (lv_at hlv 6 rfl) ?_
              refine lv_iload_n hx hb dX12_blame_106 rfl (lv_at hlv 7 rfl) ?_
              refine cjr_i [true, true, true, true, true, true, true, true] (fun pre9 => (va_runS (As := [vI x, vI y]) (rest := [vI n, vR mm]) ⟨hx, hb, hml, hown, hts⟩ (m_at l hl D cy sa x y H.size (by omega) (by omega)) (va_cwS 2 hts gg_7 rfl rfl rfl (by decide +kernel) ⟨Nat.le_of_ble_eq_true rfl, Nat.le_of_ble_eq_true rfl⟩) ⟨pcW.blind, pre9⟩ rfl rfl hlv.1 rfl (lv_room (Nat.le_of_ble_eq_true rfl)) dX12_blame_107 ⟨Nat.le_of_ble_eq_true rfl, Nat.le_of_ble_eq_true rfl⟩)) hP hD hS hA hG hT [] rfl (by decide +kernel) (fun r10 u10 H locs hw10 hq9 hS => ?_)
              obtain ⟨rfl, hq10_1, hq10_2⟩ := hw10
              obtain ⟨hP, hD⟩ := pd9 [zI m1 (cy 0) 4 (u5.2.2 0), zI m10 (cy 0) 68 f10, zI m19 (cy 0) 4 f19, zI m20 (cy 0) 32 f20, zI m21 (cy 0) 32 f21, zO mm 12 [vI (u5.2.1 1), vR m1, vI tp, vI sz_, vI ap, vI bad, vI bk, vI opn, vI fp, vR m9, vR m10, vR m11, vR m12, vR m13, vR m14, vR m15, vI im, vI nr, vI nl, vR m19, vR m20, vR m21, vI sp_, vR m23, vR m24, vR m25, vR m26, vR m27, vR m28, vI wtc, vI wcl, vI ir, vI ip, vR m33, vI shu, vR m35, vI sfa, vI swr], zI m12 (cy 0) 389 f_10, zI m14 (cy 0) 389 (u6.2.2 0)] hq9
              refine cjr_i [true, false, false, false, false, false, false, true] (fun pre9 => (va_runV (As := [vI n, vI (u10.2.1 0)]) (rest := []) ⟨hx, hb, hml, hown, hts⟩ (m_deepBehind l hl D cy sa mm m1 m9 m10 m11 m12 m13 m14 m15 m19 m20 m21 m23 m24 m25 m26 m27 m28 m33 m35 (u5.2.1 1) tp sz_ ap bad bk opn fp im nr nl sp_ wtc wcl ir ip shu sfa swr f10 f_10 f19 f20 f21 n (u10.2.1 0) qs H.size (by first | exact hq5_1 | omega) (by first | exact hr_tp | omega) (by first | exact hr_sz_ | omega) (by first | exact hr_ap | omega) (by first | exact hr_bad | omega) (by first | exact hr_bk | omega) (by first | exact hr_opn | omega) (by first | exact hr_fp | omega) (by first | exact hr_im | omega) (by first | exact hr_nr | omega) (by first | exact hr_nl | omega) (by first | exact hr_sp_ | omega) (by first | exact hr_wtc | omega) (by first | exact hr_wcl | omega) (by first | exact hr_ir | omega) (by first | exact hr_ip | omega) (by first | exact hr_shu | omega) (by first | exact hr_sfa | omega) (by first | exact hr_swr | omega) (by omega) (by first | exact hq10_1 | omega) hq8_2 hif_10 hq8_4) (cwV 2 hts gg_8 rfl rfl rfl (by decide +kernel) ⟨Nat.le_of_ble_eq_true rfl, Nat.le_of_ble_eq_true rfl⟩) ⟨pcW.blind, (va_recv hG.1 hP (ci := 12) (q0 := 5) rfl rfl), pre9⟩ rfl rfl hlv.1 rfl (lv_room (Nat.le_of_ble_eq_true rfl)) dX12_blame_110 ⟨Nat.le_of_ble_eq_true rfl, Nat.le_of_ble_eq_true rfl⟩)) hP hD hS hA hG hT [5, 1, 6, 2, 3, 4] rfl (by decide +kernel) (fun r11 u11 H locs hw11 hq9 hS => ?_)
              obtain ⟨rfl, hq11_1, hq11_2, hq11_3, hq11_4⟩ := hw11
              obtain ⟨hP, hD⟩ := pd9 [zI m1 (cy 0) 4 (u5.2.2 0), zI m14 (cy 0) 389 (u6.2.2 0), zO mm 12 [vI (u5.2.1 1), vR m1, vI tp, vI sz_, vI ap, vI bad, vI bk, vI opn, vI fp, vR m9, vR m10, vR m11, vR m12, vR m13, vR m14, vR m15, vI im, vI nr, vI nl, vR m19, vR m20, vR m21, vI sp_, vR m23, vR m24, vR m25, vR m26, vR m27, vR m28, vI wtc, vI wcl, vI ir, vI ip, vR m33, vI shu, vR m35, vI sfa, vI swr], zI m10 (cy 0) 68 f10, zI m12 (cy 0) 389 (u11.2.2 0), zI m19 (cy 0) 4 f19, zI m20 (cy 0) 32 f20, zI m21 (cy 0) 32 f21] hq9
              refine lv_istore (lv' := [(9, vI (u11.2.1 0)), (8, vI q8), (7, vI q7), (6, vI q6), (5, vI (u8.2.1 0)), (0, vR mm), (1, vI n), (2, vI x), (3, vI y), (4, vI k)]) hx hb dX12_blame_113 hlv (by decide) rfl (fun ls hlv => ?_)
              refine lv_aload_n hx hb dX12_blame_115 rfl (lv_at hlv 5 rfl) ?_
              refine cjr_v [true, false, false, true, false, true, true, true] (fun pre9 => (va_runV (As := []) (rest := []) ⟨hx, hb, hml, hown, hts⟩ (m_back l hl D cy sa mm m1 m9 m10 m11 m12 m13 m14 m15 m19 m20 m21 m23 m24 m25 m26 m27 m28 m33 m35 (u5.2.1 1) tp sz_ ap bad bk opn fp im nr nl sp_ wtc wcl ir ip shu sfa swr (u11.2.2 0) (u6.2.2 0) 8 qs H.size (by first | exact hq5_1 | omega) (by first | exact hr_tp | omega) (by first | exact hr_sz_ | omega) (by first | exact hr_ap | omega) (by first | exact hr_bad | omega) (by first | exact hr_bk | omega) (by first | exact hr_opn | omega) (by first | exact hr_fp | omega) (by first | exact hr_im | omega) (by first | exact hr_nr | omega) (by first | exact hr_nl | omega) (by first | exact hr_sp_ | omega) (by first | exact hr_wtc | omega) (by first | exact hr_wcl | omega) (by first | exact hr_ir | omega) (by first | exact hr_ip | omega) (by first | exact hr_shu | omega) (by first | exact hr_sfa | omega) (by first | exact hr_swr | omega) (by show (8 : Int) ≤ 8 ∧ (8 : Int) ≤ 9; decide) (hq11_3.1) hq9_1) (cwV 0 hts gg_9 rfl rfl rfl (by decide +kernel) ⟨Nat.le_of_ble_eq_true rfl, Nat.le_of_ble_eq_true rfl⟩) ⟨pcW.blind, (va_recv hG.1 hP (ci := 12) (q0 := 2) rfl rfl), pre9⟩ rfl rfl hlv.1 rfl (lv_room (Nat.le_of_ble_eq_true rfl)) dX12_blame_116 ⟨Nat.le_of_ble_eq_true rfl, Nat.le_of_ble_eq_true rfl⟩)) hP hD hS hA hG hT [2, 4, 1] rfl (by decide +kernel) (fun u12 H locs hw12 hq9 hS => ?_)
              obtain ⟨hq12_0, hq12_1⟩ := hw12
              obtain ⟨hP, hD⟩ := pd9 [zI m1 (cy 0) 4 (u5.2.2 0), zI m10 (cy 0) 68 f10, zI m19 (cy 0) 4 f19, zI m20 (cy 0) 32 f20, zI m21 (cy 0) 32 f21, zO mm 12 [vI (u5.2.1 1), vR m1, vI tp, vI sz_, vI ap, vI bad, vI bk, vI opn, vI fp, vR m9, vR m10, vR m11, vR m12, vR m13, vR m14, vR m15, vI im, vI nr, vI nl, vR m19, vR m20, vR m21, vI sp_, vR m23, vR m24, vR m25, vR m26, vR m27, vR m28, vI wtc, vI wcl, vI ir, vI ip, vR m33, vI shu, vR m35, vI sfa, vI swr], zI m12 (cy 0) 389 (u12.2.2 0), zI m14 (cy 0) 389 (u6.2.2 0)] hq9
              refine lv_iload hx hb dX12_blame_119 (lv_at hlv 0 rfl) ?_
              refine lv_iload hx hb dX12_blame_121 (lv_at hlv 2 rfl) ?_
              refine ir_lt (tgt := 129) hx hb dX12_blame_123 (by decide) (by first | exact hq11_1 | omega) (by first | exact hl80_1 | omega) (fun c_11 => ?_) (fun c_11 => ?_)
              · refine lv_iload hx hb dX12_blame_129 (lv_at hlv 1 rfl) ?_
                refine lv_istore (lv' := [(6, vI q8), (9, vI (u11.2.1 0)), (8, vI q8), (7, vI q7), (5, vI (u8.2.1 0)), (0, vR mm), (1, vI n), (2, vI x), (3, vI y), (4, vI k)]) hx hb dX12_blame_131 hlv (by decide) rfl (fun ls hlv => ?_)
                refine lv_iload hx hb dX12_blame_133 (lv_at hlv 1 rfl) ?_
                refine lv_istore (lv' := [(7, vI (u11.2.1 0)), (6, vI q8), (9, vI (u11.2.1 0)), (8, vI q8), (5, vI (u8.2.1 0)), (0, vR mm), (1, vI n), (2, vI x), (3, vI y), (4, vI k)]) hx hb dX12_blame_135 hlv (by decide) rfl (fun ls hlv => ?_)
                obtain ⟨z_12, hz_12⟩ : ∃ z : Int, z = q8 + 1 := ⟨_, rfl⟩
                refine lv_iinc (v := iI z_12) (lv' := [(8, vI z_12), (7, vI (u11.2.1 0)), (6, vI q8), (9, vI (u11.2.1 0)), (5, vI (u8.2.1 0)), (0, vR mm), (1, vI n), (2, vI x), (3, vI y), (4, vI k)]) hx hb dX12_blame_137 hlv (k := 3) rfl (by rw [hz_12]; exact (Int32.ofInt_add _ _).symm) (by decide) rfl (fun ls hlv => ?_)
                refine lv_goto (tgt := 80) hx hb dX12_blame_140 (by decide) ?_
                exact ih80 q8 (u11.2.1 0) z_12 (u12.2.2 0) H locs ls (by omega) (by first | exact rgw hl80_2 (by decide) (by decide) | omega) (by first | exact hq11_1 | omega) (by omega) hq12_0 (hP.sub [0, 1, 2, 3, 4, 5, 6, 7] rfl) (hD.sub [0, 1, 2, 3, 4, 5, 6, 7] (by decide) rfl) hS (lv_sub hlv [0, 1, 2, 4, 5, 6, 7, 8, 9] rfl)
              · refine lv_goto (tgt := 137) hx hb dX12_blame_126 (by decide) ?_
                obtain ⟨z_13, hz_13⟩ : ∃ z : Int, z = q8 + 1 := ⟨_, rfl⟩
                refine lv_iinc (v := iI z_13) (lv' := [(8, vI z_13), (9, vI (u11.2.1 0)), (7, vI q7), (6, vI q6), (5, vI (u8.2.1 0)), (0, vR mm), (1, vI n), (2, vI x), (3, vI y), (4, vI k)]) hx hb dX12_blame_137 hlv (k := 1) rfl (by rw [hz_13]; exact (Int32.ofInt_add _ _).symm) (by decide) rfl (fun ls hlv => ?_)
                refine lv_goto (tgt := 80) hx hb dX12_blame_140 (by decide) ?_
                exact ih80 q6 q7 z_13 (u12.2.2 0) H locs ls (by omega) (by first | exact hl80_0 | omega) (by first | exact hl80_1 | omega) (by omega) hq12_0 (hP.sub [0, 1, 2, 3, 4, 5, 6, 7] rfl) (hD.sub [0, 1, 2, 3, 4, 5, 6, 7] (by decide) rfl) hS (lv_sub hlv [0, 2, 3, 4, 5, 6, 7, 8, 9] rfl)
        · refine lv_iconst (v := iI 0) hx hb dX12_blame_48 (by decide) ?_
          refine W.widen (k := 0) (n := 0) (Nat.le_of_ble_eq_true rfl) (Nat.le_of_ble_eq_true rfl) ?_
          exact W.iret (v := iI 0) hx hb hr (fun t ht hW => ⟨⟨iI 0, ((fun k => ([] : List Nat).getD k 0), (fun k => ([0, (u5.2.1 1)] : List Int).getD k 0), (fun k => ([(u5.2.2 0), f12, f14] : List (Nat → Int32)).getD k (fun _ => 0))), rfl, ⟨rfl, (by show ((-2147483648) ≤ (u5.2.1 1) ∧ (u5.2.1 1) ≤ 2147483647); first | exact hq5_1 | omega), (by show ((-2147483648) ≤ 0 ∧ 0 ≤ 2147483647); show ((-2147483648) : Int) ≤ 0 ∧ (0 : Int) ≤ 2147483647; decide), hq5_4, hf12, hf14, hf19⟩, at9 ht hP hD [4, 5, 6, 7, 0, 1, 2, 3] (by decide +kernel) rfl⟩, hS.F ht⟩) hS.2.2 dX12_blame_49
