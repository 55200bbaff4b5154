theorem dX3_bestNext_0 : decode cX3_bestNext 0 = .ok (.iconst (-1), 1) := by decide +kernel
theorem dX3_bestNext_1 : decode cX3_bestNext 1 = .ok (.istore_n 3, 1) := by decide +kernel
theorem dX3_bestNext_11 : decode cX3_bestNext 11 = .ok (.aload_n 1, 1) := by decide +kernel
theorem dX3_bestNext_12 : decode cX3_bestNext 12 = .ok (.getfield 17, 3) := by decide +kernel
theorem dX3_bestNext_15 : decode cX3_bestNext 15 = .ok (.if_icmp .ge 42, 3) := by decide +kernel
theorem dX3_bestNext_18 : decode cX3_bestNext 18 = .ok (.iload_n 2, 1) := by decide +kernel
theorem dX3_bestNext_19 : decode cX3_bestNext 19 = .ok (.iload 5, 2) := by decide +kernel
theorem dX3_bestNext_2 : decode cX3_bestNext 2 = .ok (.ldc 47, 2) := by decide +kernel
theorem dX3_bestNext_21 : decode cX3_bestNext 21 = .ok (.ishr, 1) := by decide +kernel
theorem dX3_bestNext_22 : decode cX3_bestNext 22 = .ok (.iconst 1, 1) := by decide +kernel
theorem dX3_bestNext_23 : decode cX3_bestNext 23 = .ok (.iand, 1) := by decide +kernel
theorem dX3_bestNext_24 : decode cX3_bestNext 24 = .ok (.ifCond .ne 27, 3) := by decide +kernel
theorem dX3_bestNext_27 : decode cX3_bestNext 27 = .ok (.aload_n 0, 1) := by decide +kernel
theorem dX3_bestNext_28 : decode cX3_bestNext 28 = .ok (.aload_n 1, 1) := by decide +kernel
theorem dX3_bestNext_29 : decode cX3_bestNext 29 = .ok (.iload_n 2, 1) := by decide +kernel
theorem dX3_bestNext_30 : decode cX3_bestNext 30 = .ok (.iload 5, 2) := by decide +kernel
theorem dX3_bestNext_32 : decode cX3_bestNext 32 = .ok (.invokevirtual 25, 3) := by decide +kernel
theorem dX3_bestNext_35 : decode cX3_bestNext 35 = .ok (.istore 6, 2) := by decide +kernel
theorem dX3_bestNext_37 : decode cX3_bestNext 37 = .ok (.iload 6, 2) := by decide +kernel
theorem dX3_bestNext_39 : decode cX3_bestNext 39 = .ok (.iload 4, 2) := by decide +kernel
theorem dX3_bestNext_4 : decode cX3_bestNext 4 = .ok (.istore 4, 2) := by decide +kernel
theorem dX3_bestNext_41 : decode cX3_bestNext 41 = .ok (.if_icmp .ge 10, 3) := by decide +kernel
theorem dX3_bestNext_44 : decode cX3_bestNext 44 = .ok (.iload 6, 2) := by decide +kernel
theorem dX3_bestNext_46 : decode cX3_bestNext 46 = .ok (.istore 4, 2) := by decide +kernel
theorem dX3_bestNext_48 : decode cX3_bestNext 48 = .ok (.iload 5, 2) := by decide +kernel
theorem dX3_bestNext_50 : decode cX3_bestNext 50 = .ok (.istore_n 3, 1) := by decide +kernel
theorem dX3_bestNext_51 : decode cX3_bestNext 51 = .ok (.iinc 5 1, 3) := by decide +kernel
theorem dX3_bestNext_54 : decode cX3_bestNext 54 = .ok (.goto (-45), 3) := by decide +kernel
theorem dX3_bestNext_57 : decode cX3_bestNext 57 = .ok (.iload_n 3, 1) := by decide +kernel
theorem dX3_bestNext_58 : decode cX3_bestNext 58 = .ok (.ireturn, 1) := by decide +kernel
theorem dX3_bestNext_6 : decode cX3_bestNext 6 = .ok (.iconst 0, 1) := by decide +kernel
theorem dX3_bestNext_7 : decode cX3_bestNext 7 = .ok (.istore 5, 2) := by decide +kernel
theorem dX3_bestNext_9 : decode cX3_bestNext 9 = .ok (.iload 5, 2) := by decide +kernel
theorem dX3_findFirst_0 : decode cX3_findFirst 0 = .ok (.iconst 1, 1) := by decide +kernel
theorem dX3_findFirst_1 : decode cX3_findFirst 1 = .ok (.aload_n 1, 1) := by decide +kernel
theorem dX3_findFirst_10 : decode cX3_findFirst 10 = .ok (.getfield 11, 3) := by decide +kernel
theorem dX3_findFirst_100 : decode cX3_findFirst 100 = .ok (.aload_n 1, 1) := by decide +kernel
theorem dX3_findFirst_101 : decode cX3_findFirst 101 = .ok (.getfield 17, 3) := by decide +kernel
theorem dX3_findFirst_104 : decode cX3_findFirst 104 = .ok (.if_icmp .ge 42, 3) := by decide +kernel
theorem dX3_findFirst_107 : decode cX3_findFirst 107 = .ok (.aload_n 0, 1) := by decide +kernel
theorem dX3_findFirst_108 : decode cX3_findFirst 108 = .ok (.aload_n 1, 1) := by decide +kernel
theorem dX3_findFirst_109 : decode cX3_findFirst 109 = .ok (.iload_n 3, 1) := by decide +kernel
theorem dX3_findFirst_110 : decode cX3_findFirst 110 = .ok (.invokevirtual 21, 3) := by decide +kernel
theorem dX3_findFirst_113 : decode cX3_findFirst 113 = .ok (.iconst 0, 1) := by decide +kernel
theorem dX3_findFirst_114 : decode cX3_findFirst 114 = .ok (.invokestatic 39, 3) := by decide +kernel
theorem dX3_findFirst_117 : decode cX3_findFirst 117 = .ok (.istore 5, 2) := by decide +kernel
theorem dX3_findFirst_119 : decode cX3_findFirst 119 = .ok (.aload_n 0, 1) := by decide +kernel
theorem dX3_findFirst_120 : decode cX3_findFirst 120 = .ok (.aload_n 0, 1) := by decide +kernel
theorem dX3_findFirst_121 : decode cX3_findFirst 121 = .ok (.getfield 36, 3) := by decide +kernel
theorem dX3_findFirst_124 : decode cX3_findFirst 124 = .ok (.bipush 10, 2) := by decide +kernel
theorem dX3_findFirst_126 : decode cX3_findFirst 126 = .ok (.imul, 1) := by decide +kernel
theorem dX3_findFirst_127 : decode cX3_findFirst 127 = .ok (.iload 5, 2) := by decide +kernel
theorem dX3_findFirst_129 : decode cX3_findFirst 129 = .ok (.iadd, 1) := by decide +kernel
theorem dX3_findFirst_13 : decode cX3_findFirst 13 = .ok (.iload_n 2, 1) := by decide +kernel
theorem dX3_findFirst_130 : decode cX3_findFirst 130 = .ok (.putfield 36, 3) := by decide +kernel
theorem dX3_findFirst_133 : decode cX3_findFirst 133 = .ok (.iload_n 3, 1) := by decide +kernel
theorem dX3_findFirst_134 : decode cX3_findFirst 134 = .ok (.iconst 1, 1) := by decide +kernel
theorem dX3_findFirst_135 : decode cX3_findFirst 135 = .ok (.iload 5, 2) := by decide +kernel
theorem dX3_findFirst_137 : decode cX3_findFirst 137 = .ok (.ishl, 1) := by decide +kernel
theorem dX3_findFirst_138 : decode cX3_findFirst 138 = .ok (.ior, 1) := by decide +kernel
theorem dX3_findFirst_139 : decode cX3_findFirst 139 = .ok (.istore_n 3, 1) := by decide +kernel
theorem dX3_findFirst_14 : decode cX3_findFirst 14 = .ok (.iconst 0, 1) := by decide +kernel
theorem dX3_findFirst_140 : decode cX3_findFirst 140 = .ok (.iinc 4 1, 3) := by decide +kernel
theorem dX3_findFirst_143 : decode cX3_findFirst 143 = .ok (.goto (-45), 3) := by decide +kernel
theorem dX3_findFirst_146 : decode cX3_findFirst 146 = .ok (.return_, 1) := by decide +kernel
theorem dX3_findFirst_15 : decode cX3_findFirst 15 = .ok (.iastore, 1) := by decide +kernel
theorem dX3_findFirst_16 : decode cX3_findFirst 16 = .ok (.iload_n 2, 1) := by decide +kernel
theorem dX3_findFirst_17 : decode cX3_findFirst 17 = .ok (.iconst 1, 1) := by decide +kernel
theorem dX3_findFirst_18 : decode cX3_findFirst 18 = .ok (.isub, 1) := by decide +kernel
theorem dX3_findFirst_19 : decode cX3_findFirst 19 = .ok (.istore_n 3, 1) := by decide +kernel
theorem dX3_findFirst_2 : decode cX3_findFirst 2 = .ok (.getfield 17, 3) := by decide +kernel
theorem dX3_findFirst_20 : decode cX3_findFirst 20 = .ok (.iload_n 3, 1) := by decide +kernel
theorem dX3_findFirst_21 : decode cX3_findFirst 21 = .ok (.ifCond .lt 41, 3) := by decide +kernel
theorem dX3_findFirst_24 : decode cX3_findFirst 24 = .ok (.aload_n 0, 1) := by decide +kernel
theorem dX3_findFirst_25 : decode cX3_findFirst 25 = .ok (.aload_n 1, 1) := by decide +kernel
theorem dX3_findFirst_26 : decode cX3_findFirst 26 = .ok (.iload_n 3, 1) := by decide +kernel
theorem dX3_findFirst_27 : decode cX3_findFirst 27 = .ok (.invokevirtual 21, 3) := by decide +kernel
theorem dX3_findFirst_30 : decode cX3_findFirst 30 = .ok (.istore 4, 2) := by decide +kernel
theorem dX3_findFirst_32 : decode cX3_findFirst 32 = .ok (.aload_n 0, 1) := by decide +kernel
theorem dX3_findFirst_33 : decode cX3_findFirst 33 = .ok (.getfield 11, 3) := by decide +kernel
theorem dX3_findFirst_36 : decode cX3_findFirst 36 = .ok (.iload_n 3, 1) := by decide +kernel
theorem dX3_findFirst_37 : decode cX3_findFirst 37 = .ok (.iload 4, 2) := by decide +kernel
theorem dX3_findFirst_39 : decode cX3_findFirst 39 = .ok (.iconst (-1), 1) := by decide +kernel
theorem dX3_findFirst_40 : decode cX3_findFirst 40 = .ok (.if_icmp .ne 7, 3) := by decide +kernel
theorem dX3_findFirst_47 : decode cX3_findFirst 47 = .ok (.aload_n 0, 1) := by decide +kernel
theorem dX3_findFirst_48 : decode cX3_findFirst 48 = .ok (.aload_n 1, 1) := by decide +kernel
theorem dX3_findFirst_49 : decode cX3_findFirst 49 = .ok (.iload_n 3, 1) := by decide +kernel
theorem dX3_findFirst_5 : decode cX3_findFirst 5 = .ok (.ishl, 1) := by decide +kernel
theorem dX3_findFirst_50 : decode cX3_findFirst 50 = .ok (.iload 4, 2) := by decide +kernel
theorem dX3_findFirst_52 : decode cX3_findFirst 52 = .ok (.invokevirtual 25, 3) := by decide +kernel
theorem dX3_findFirst_55 : decode cX3_findFirst 55 = .ok (.iastore, 1) := by decide +kernel
theorem dX3_findFirst_56 : decode cX3_findFirst 56 = .ok (.iinc 3 (-1), 3) := by decide +kernel
theorem dX3_findFirst_59 : decode cX3_findFirst 59 = .ok (.goto (-39), 3) := by decide +kernel
theorem dX3_findFirst_6 : decode cX3_findFirst 6 = .ok (.iconst 1, 1) := by decide +kernel
theorem dX3_findFirst_62 : decode cX3_findFirst 62 = .ok (.aload_n 0, 1) := by decide +kernel
theorem dX3_findFirst_63 : decode cX3_findFirst 63 = .ok (.aload_n 0, 1) := by decide +kernel
theorem dX3_findFirst_64 : decode cX3_findFirst 64 = .ok (.getfield 11, 3) := by decide +kernel
theorem dX3_findFirst_67 : decode cX3_findFirst 67 = .ok (.iconst 0, 1) := by decide +kernel
theorem dX3_findFirst_68 : decode cX3_findFirst 68 = .ok (.iaload, 1) := by decide +kernel
theorem dX3_findFirst_69 : decode cX3_findFirst 69 = .ok (.ldc 29, 2) := by decide +kernel
theorem dX3_findFirst_7 : decode cX3_findFirst 7 = .ok (.isub, 1) := by decide +kernel
theorem dX3_findFirst_71 : decode cX3_findFirst 71 = .ok (.idiv, 1) := by decide +kernel
theorem dX3_findFirst_72 : decode cX3_findFirst 72 = .ok (.putfield 30, 3) := by decide +kernel
theorem dX3_findFirst_75 : decode cX3_findFirst 75 = .ok (.aload_n 0, 1) := by decide +kernel
theorem dX3_findFirst_76 : decode cX3_findFirst 76 = .ok (.aload_n 0, 1) := by decide +kernel
theorem dX3_findFirst_77 : decode cX3_findFirst 77 = .ok (.getfield 11, 3) := by decide +kernel
theorem dX3_findFirst_8 : decode cX3_findFirst 8 = .ok (.istore_n 2, 1) := by decide +kernel
theorem dX3_findFirst_80 : decode cX3_findFirst 80 = .ok (.iconst 0, 1) := by decide +kernel
theorem dX3_findFirst_81 : decode cX3_findFirst 81 = .ok (.iaload, 1) := by decide +kernel
theorem dX3_findFirst_82 : decode cX3_findFirst 82 = .ok (.ldc 29, 2) := by decide +kernel
theorem dX3_findFirst_84 : decode cX3_findFirst 84 = .ok (.irem, 1) := by decide +kernel
theorem dX3_findFirst_85 : decode cX3_findFirst 85 = .ok (.putfield 33, 3) := by decide +kernel
theorem dX3_findFirst_88 : decode cX3_findFirst 88 = .ok (.aload_n 0, 1) := by decide +kernel
theorem dX3_findFirst_89 : decode cX3_findFirst 89 = .ok (.iconst 0, 1) := by decide +kernel
theorem dX3_findFirst_9 : decode cX3_findFirst 9 = .ok (.aload_n 0, 1) := by decide +kernel
theorem dX3_findFirst_90 : decode cX3_findFirst 90 = .ok (.putfield 36, 3) := by decide +kernel
theorem dX3_findFirst_93 : decode cX3_findFirst 93 = .ok (.iconst 0, 1) := by decide +kernel
theorem dX3_findFirst_94 : decode cX3_findFirst 94 = .ok (.istore_n 3, 1) := by decide +kernel
theorem dX3_findFirst_95 : decode cX3_findFirst 95 = .ok (.iconst 0, 1) := by decide +kernel
theorem dX3_findFirst_96 : decode cX3_findFirst 96 = .ok (.istore 4, 2) := by decide +kernel
theorem dX3_findFirst_98 : decode cX3_findFirst 98 = .ok (.iload 4, 2) := by decide +kernel
theorem dX3_of_0 : decode cX3_of 0 = .ok (.iload_n 1, 1) := by decide +kernel
theorem dX3_of_1 : decode cX3_of 1 = .ok (.iconst (-1), 1) := by decide +kernel
theorem dX3_of_10 : decode cX3_of 10 = .ok (.getfield 56, 3) := by decide +kernel
theorem dX3_of_13 : decode cX3_of 13 = .ok (.iconst 4, 1) := by decide +kernel
theorem dX3_of_14 : decode cX3_of 14 = .ok (.iload_n 1, 1) := by decide +kernel
theorem dX3_of_15 : decode cX3_of 15 = .ok (.imul, 1) := by decide +kernel
theorem dX3_of_16 : decode cX3_of 16 = .ok (.iload_n 2, 1) := by decide +kernel
theorem dX3_of_17 : decode cX3_of 17 = .ok (.iadd, 1) := by decide +kernel
theorem dX3_of_18 : decode cX3_of 18 = .ok (.iaload, 1) := by decide +kernel
theorem dX3_of_19 : decode cX3_of 19 = .ok (.ireturn, 1) := by decide +kernel
theorem dX3_of_2 : decode cX3_of 2 = .ok (.if_icmp .ne 7, 3) := by decide +kernel
theorem dX3_of_5 : decode cX3_of 5 = .ok (.iconst 0, 1) := by decide +kernel
theorem dX3_of_6 : decode cX3_of 6 = .ok (.goto 13, 3) := by decide +kernel
theorem dX3_of_9 : decode cX3_of 9 = .ok (.aload_n 0, 1) := by decide +kernel
theorem dX3_steps_0 : decode cX3_steps 0 = .ok (.aload_n 0, 1) := by decide +kernel
theorem dX3_steps_1 : decode cX3_steps 1 = .ok (.iload_n 1, 1) := by decide +kernel
theorem dX3_steps_12 : decode cX3_steps 12 = .ok (.isub, 1) := by decide +kernel
theorem dX3_steps_13 : decode cX3_steps 13 = .ok (.istore_n 3, 1) := by decide +kernel
theorem dX3_steps_14 : decode cX3_steps 14 = .ok (.aload_n 0, 1) := by decide +kernel
theorem dX3_steps_15 : decode cX3_steps 15 = .ok (.iload_n 1, 1) := by decide +kernel
theorem dX3_steps_16 : decode cX3_steps 16 = .ok (.iconst 1, 1) := by decide +kernel
theorem dX3_steps_17 : decode cX3_steps 17 = .ok (.invokestatic 67, 3) := by decide +kernel
theorem dX3_steps_2 : decode cX3_steps 2 = .ok (.iconst 0, 1) := by decide +kernel
theorem dX3_steps_20 : decode cX3_steps 20 = .ok (.aload_n 0, 1) := by decide +kernel
theorem dX3_steps_21 : decode cX3_steps 21 = .ok (.iload_n 2, 1) := by decide +kernel
theorem dX3_steps_22 : decode cX3_steps 22 = .ok (.iconst 1, 1) := by decide +kernel
theorem dX3_steps_23 : decode cX3_steps 23 = .ok (.invokestatic 67, 3) := by decide +kernel
theorem dX3_steps_26 : decode cX3_steps 26 = .ok (.isub, 1) := by decide +kernel
theorem dX3_steps_27 : decode cX3_steps 27 = .ok (.istore 4, 2) := by decide +kernel
theorem dX3_steps_29 : decode cX3_steps 29 = .ok (.iload_n 3, 1) := by decide +kernel
theorem dX3_steps_3 : decode cX3_steps 3 = .ok (.invokestatic 67, 3) := by decide +kernel
theorem dX3_steps_30 : decode cX3_steps 30 = .ok (.invokestatic 70, 3) := by decide +kernel
theorem dX3_steps_33 : decode cX3_steps 33 = .ok (.iload 4, 2) := by decide +kernel
theorem dX3_steps_35 : decode cX3_steps 35 = .ok (.invokestatic 70, 3) := by decide +kernel
theorem dX3_steps_38 : decode cX3_steps 38 = .ok (.iadd, 1) := by decide +kernel
theorem dX3_steps_39 : decode cX3_steps 39 = .ok (.ireturn, 1) := by decide +kernel
theorem dX3_steps_6 : decode cX3_steps 6 = .ok (.aload_n 0, 1) := by decide +kernel
theorem dX3_steps_7 : decode cX3_steps 7 = .ok (.iload_n 2, 1) := by decide +kernel
theorem dX3_steps_8 : decode cX3_steps 8 = .ok (.iconst 0, 1) := by decide +kernel
theorem dX3_steps_9 : decode cX3_steps 9 = .ok (.invokestatic 67, 3) := by decide +kernel
theorem dX3_weigh_0 : decode cX3_weigh 0 = .ok (.iload_n 2, 1) := by decide +kernel
theorem dX3_weigh_1 : decode cX3_weigh 1 = .ok (.iconst 1, 1) := by decide +kernel
theorem dX3_weigh_10 : decode cX3_weigh 10 = .ok (.iconst 0, 1) := by decide +kernel
theorem dX3_weigh_101 : decode cX3_weigh 101 = .ok (.iload 7, 2) := by decide +kernel
theorem dX3_weigh_103 : decode cX3_weigh 103 = .ok (.ireturn, 1) := by decide +kernel
theorem dX3_weigh_11 : decode cX3_weigh 11 = .ok (.istore 6, 2) := by decide +kernel
theorem dX3_weigh_13 : decode cX3_weigh 13 = .ok (.iload 6, 2) := by decide +kernel
theorem dX3_weigh_15 : decode cX3_weigh 15 = .ok (.aload_n 1, 1) := by decide +kernel
theorem dX3_weigh_16 : decode cX3_weigh 16 = .ok (.getfield 17, 3) := by decide +kernel
theorem dX3_weigh_19 : decode cX3_weigh 19 = .ok (.if_icmp .ge 35, 3) := by decide +kernel
theorem dX3_weigh_2 : decode cX3_weigh 2 = .ok (.iload_n 3, 1) := by decide +kernel
theorem dX3_weigh_22 : decode cX3_weigh 22 = .ok (.iload 4, 2) := by decide +kernel
theorem dX3_weigh_24 : decode cX3_weigh 24 = .ok (.iload 6, 2) := by decide +kernel
theorem dX3_weigh_26 : decode cX3_weigh 26 = .ok (.ishr, 1) := by decide +kernel
theorem dX3_weigh_27 : decode cX3_weigh 27 = .ok (.iconst 1, 1) := by decide +kernel
theorem dX3_weigh_28 : decode cX3_weigh 28 = .ok (.iand, 1) := by decide +kernel
theorem dX3_weigh_29 : decode cX3_weigh 29 = .ok (.ifCond .eq 19, 3) := by decide +kernel
theorem dX3_weigh_3 : decode cX3_weigh 3 = .ok (.ishl, 1) := by decide +kernel
theorem dX3_weigh_32 : decode cX3_weigh 32 = .ok (.iload 5, 2) := by decide +kernel
theorem dX3_weigh_34 : decode cX3_weigh 34 = .ok (.aload_n 1, 1) := by decide +kernel
theorem dX3_weigh_35 : decode cX3_weigh 35 = .ok (.getfield 48, 3) := by decide +kernel
theorem dX3_weigh_38 : decode cX3_weigh 38 = .ok (.iconst 3, 1) := by decide +kernel
theorem dX3_weigh_39 : decode cX3_weigh 39 = .ok (.iload 6, 2) := by decide +kernel
theorem dX3_weigh_4 : decode cX3_weigh 4 = .ok (.ior, 1) := by decide +kernel
theorem dX3_weigh_41 : decode cX3_weigh 41 = .ok (.imul, 1) := by decide +kernel
theorem dX3_weigh_42 : decode cX3_weigh 42 = .ok (.iconst 1, 1) := by decide +kernel
theorem dX3_weigh_43 : decode cX3_weigh 43 = .ok (.iadd, 1) := by decide +kernel
theorem dX3_weigh_44 : decode cX3_weigh 44 = .ok (.iaload, 1) := by decide +kernel
theorem dX3_weigh_45 : decode cX3_weigh 45 = .ok (.iadd, 1) := by decide +kernel
theorem dX3_weigh_46 : decode cX3_weigh 46 = .ok (.istore 5, 2) := by decide +kernel
theorem dX3_weigh_48 : decode cX3_weigh 48 = .ok (.iinc 6 1, 3) := by decide +kernel
theorem dX3_weigh_5 : decode cX3_weigh 5 = .ok (.istore 4, 2) := by decide +kernel
theorem dX3_weigh_51 : decode cX3_weigh 51 = .ok (.goto (-38), 3) := by decide +kernel
theorem dX3_weigh_54 : decode cX3_weigh 54 = .ok (.iconst 3, 1) := by decide +kernel
theorem dX3_weigh_55 : decode cX3_weigh 55 = .ok (.iload_n 3, 1) := by decide +kernel
theorem dX3_weigh_56 : decode cX3_weigh 56 = .ok (.imul, 1) := by decide +kernel
theorem dX3_weigh_57 : decode cX3_weigh 57 = .ok (.istore 6, 2) := by decide +kernel
theorem dX3_weigh_59 : decode cX3_weigh 59 = .ok (.aload_n 1, 1) := by decide +kernel
theorem dX3_weigh_60 : decode cX3_weigh 60 = .ok (.getfield 48, 3) := by decide +kernel
theorem dX3_weigh_63 : decode cX3_weigh 63 = .ok (.iload 6, 2) := by decide +kernel
theorem dX3_weigh_65 : decode cX3_weigh 65 = .ok (.iaload, 1) := by decide +kernel
theorem dX3_weigh_66 : decode cX3_weigh 66 = .ok (.iload 5, 2) := by decide +kernel
theorem dX3_weigh_68 : decode cX3_weigh 68 = .ok (.imul, 1) := by decide +kernel
theorem dX3_weigh_69 : decode cX3_weigh 69 = .ok (.aload_n 0, 1) := by decide +kernel
theorem dX3_weigh_7 : decode cX3_weigh 7 = .ok (.iconst 0, 1) := by decide +kernel
theorem dX3_weigh_70 : decode cX3_weigh 70 = .ok (.getfield 11, 3) := by decide +kernel
theorem dX3_weigh_73 : decode cX3_weigh 73 = .ok (.iload 4, 2) := by decide +kernel
theorem dX3_weigh_75 : decode cX3_weigh 75 = .ok (.iaload, 1) := by decide +kernel
theorem dX3_weigh_76 : decode cX3_weigh 76 = .ok (.iadd, 1) := by decide +kernel
theorem dX3_weigh_77 : decode cX3_weigh 77 = .ok (.istore 7, 2) := by decide +kernel
theorem dX3_weigh_79 : decode cX3_weigh 79 = .ok (.iload 5, 2) := by decide +kernel
theorem dX3_weigh_8 : decode cX3_weigh 8 = .ok (.istore 5, 2) := by decide +kernel
theorem dX3_weigh_81 : decode cX3_weigh 81 = .ok (.aload_n 1, 1) := by decide +kernel
theorem dX3_weigh_82 : decode cX3_weigh 82 = .ok (.getfield 48, 3) := by decide +kernel
theorem dX3_weigh_85 : decode cX3_weigh 85 = .ok (.iload 6, 2) := by decide +kernel
theorem dX3_weigh_87 : decode cX3_weigh 87 = .ok (.iconst 2, 1) := by decide +kernel
theorem dX3_weigh_88 : decode cX3_weigh 88 = .ok (.iadd, 1) := by decide +kernel
theorem dX3_weigh_89 : decode cX3_weigh 89 = .ok (.iaload, 1) := by decide +kernel
theorem dX3_weigh_90 : decode cX3_weigh 90 = .ok (.if_icmp .le 11, 3) := by decide +kernel
theorem dX3_weigh_93 : decode cX3_weigh 93 = .ok (.iload 7, 2) := by decide +kernel
theorem dX3_weigh_95 : decode cX3_weigh 95 = .ok (.ldc 29, 2) := by decide +kernel
theorem dX3_weigh_97 : decode cX3_weigh 97 = .ok (.iadd, 1) := by decide +kernel
theorem dX3_weigh_98 : decode cX3_weigh 98 = .ok (.goto 5, 3) := by decide +kernel
def vs_o_of0 : List Cond := .code yX3_of cX3_of 3 (some .int) :: (([] : List Cond) ++ ((wsX60) ++ ([])))
theorem gd_o_of0 : vs_o_of0.all goodWord = true := gd_C (by decide +kernel) (gd_A (by decide +kernel) (gd_A (by decide +kernel) rfl))
set_option maxHeartbeats 4000000 in
set_option maxRecDepth 100000 in
theorem o_of0 (l : Launch) (hl : l.stackTraces = false) (D : va_G) (cy : Nat → ClassId) (sa : Nat → Nat) (sA s2 s3 s6 s8 s11 s13 : Nat) (wi ro dr dt pe gu sh wo dn mi fl tk go : Int) (df : Nat → Int32) (n : Int) (sz : Nat) (hr_wi : 0 ≤ wi ∧ wi ≤ 16) (hr_ro : 0 ≤ ro ∧ ro ≤ 6) (hr_dr : 0 ≤ dr ∧ dr ≤ 14) (hr_dt : 0 ≤ dt ∧ dt ≤ 6) (hr_pe : 0 ≤ pe ∧ pe ≤ 8) (hr_gu : 0 ≤ gu ∧ gu ≤ 20) (hr_sh : 0 ≤ sh ∧ sh ≤ 2) (hr_wo : 0 ≤ wo ∧ wo ≤ 8) (hr_dn : (-2147483648) ≤ dn ∧ dn ≤ 2147483647) (hr_mi : 0 ≤ mi ∧ mi ≤ 600) (hr_fl : (-2147483648) ≤ fl ∧ fl ≤ 2147483647) (hr_tk : (-2147483648) ≤ tk ∧ tk ≤ 2147483647) (hr_go : (-2147483648) ≤ go ∧ go ≤ 2147483647) (hr_n : (-1) ≤ n ∧ n ≤ 13) (hdf : tab_ 4 14 [0, 0, 0, 0] [15, 5, 99, 16] df) : Met l yX3_of vs_o_of0 ({ frames := 0, cells := 0, slots := 0, locals := 0 }) (va_Pc [vR sA, vI n, vI 0] (pcW D cy sa sz [zO sA 6 [vI wi, vI ro, vR s2, vR s3, vI dr, vI dt, vR s6, vI pe, vR s8, vI gu, vI sh, vR s11, vI wo, vR s13, vI dn, vI mi, vI fl, vI tk, vI go], zI s6 (cy 0) 56 df])) (va_Qi (fun (r : Int32) (u : SV) => r = iI (u.2.1 0) ∧ (0 ≤ u.2.1 0 ∧ u.2.1 0 ≤ 15) ∧ tab_ 4 14 [0, 0, 0, 0] [15, 5, 99, 16] df) (fun u t => atW D (va_A [zO sA 6 [vI wi, vI ro, vR s2, vR s3, vI dr, vI dt, vR s6, vI pe, vR s8, vI gu, vI sh, vR s11, vI wo, vR s13, vI dn, vI mi, vI fl, vI tk, vI go], zI s6 (cy 0) 56 df] sz) [zO sA 6 [vI wi, vI ro, vR s2, vR s3, vI dr, vI dt, vR s6, vI pe, vR s8, vI gu, vI sh, vR s11, vI wo, vR s13, vI dn, vI mi, vI fl, vI tk, vI go], zI s6 (cy 0) 56 df] t) (va_A [zO sA 6 [vI wi, vI ro, vR s2, vR s3, vI dr, vI dt, vR s6, vI pe, vR s8, vI gu, vI sh, vR s11, vI wo, vR s13, vI dn, vI mi, vI fl, vI tk, vI go], zI s6 (cy 0) 56 df] sz)) 0 0 (va_A [zO sA 6 [vI wi, vI ro, vR s2, vR s3, vI dr, vI dt, vR s6, vI pe, vR s8, vI gu, vI sh, vR s11, vI wo, vR s13, vI dn, vI mi, vI fl, vI tk, vI go], zI s6 (cy 0) 56 df] sz) := by
  refine Met.ofW (cc := cX3_of) (maxL := 3) (ret := (some .int)) (by decide) rfl ?_
  intro p e s m args below meth c s₁ B hml hv
  obtain ⟨rfl, hsz, hP, hG, hD0, hT⟩ := hv
  have hx := B.exec
  have hb := B.bytes
  have hr := B.returns
  have hts := atoms_spec (ws := vs_o_of0) B.pre
  have hown : s.vm.findClass RX3 = some m.cls := findClass_of_methodNamed B.named
  have hlocks := B.notSynchronized
  subst hsz
  have hD := hD0.self (sz := s.heap.size)
  generalize hAe : va_A [zO sA 6 [vI wi, vI ro, vR s2, vR s3, vI dr, vI dt, vR s6, vI pe, vR s8, vI gu, vI sh, vR s11, vI wo, vR s13, vI dn, vI mi, vI fl, vI tk, vI go], zI s6 (cy 0) 56 df] s.heap.size = A at hD hT ⊢
  have hA : ∀ q : Nat, s.heap.size ≤ q → A q := fun q h => by rw [← hAe]; exact Or.inr h
  have hS : va_S A s.heap s.heap [] := va_S.rf
  have hl0 := lv_entry ([vR sA, vI n, vI 0]) (n := 3) (Nat.le_of_ble_eq_true rfl)
  rw [lg_entry_eq]
  generalize (lg_sl ([vR sA, vI n, vI 0]) ++ List.replicate (3 - (lg_sl ([vR sA, vI n, vI 0])).length) Slot.unset).toArray = ls at hl0 ⊢
  have hlv : lv_has ls 3 [(0, vR sA), (1, vI n), (2, vI 0)] := hl0
  have hi6 : ∀ w ∈ wsX60, w ∈ vs_o_of0 := fun w h => List.mem_cons_of_mem _ (List.mem_append_right _ (List.mem_append_left _ h))
  refine lv_iload_n hx hb dX3_of_0 rfl (lv_at hlv 1 rfl) ?_
  refine lv_iconst (v := iI (-1)) hx hb dX3_of_1 (by decide) ?_
  refine ir_ne (tgt := 9) hx hb dX3_of_2 (by decide) (by first | exact rgw hr_n (by decide) (by decide) | omega) (by show ((-2147483648) : Int) ≤ (-1) ∧ ((-1) : Int) ≤ 2147483647; decide) (fun c_1 => ?_) (fun c_1 => ?_)
  · refine lv_aload_n hx hb dX3_of_9 rfl (lv_at hlv 0 rfl) ?_
    refine va_getN (D := D) (ci := 6) (v := vR s6) (C := RX6) (T := TX6) (N := 19) hx hb hts hi6 hown hG.1 hP 0 rfl rfl 6 (by decide) (va_Nw.use rfl (nF_Orders_56 hG.2.1)) (fun _ h9 => h9) rfl dX3_of_10 ?_
    refine lv_iconst (v := iI 4) hx hb dX3_of_13 (by decide) ?_
    refine lv_iload_n hx hb dX3_of_14 rfl (lv_at hlv 1 rfl) ?_
    refine lv_imul hx hb dX3_of_15 ?_
    refine lt_e (e0 := 4 * n) (Int32.ofInt_mul _ _).symm (fun z_2 hz_2 => ?_)
    refine lv_iload_n hx hb dX3_of_16 rfl (lv_at hlv 2 rfl) ?_
    refine lv_iadd hx hb dX3_of_17 ?_
    refine lt_e (e0 := z_2 + 0) (Int32.ofInt_add _ _).symm (fun z_3 hz_3 => ?_)
    refine va_iald hx hb hG.1 hP 1 0 rfl rfl (iI_in (by omega) (by decide)) dX3_of_18 ?_
    obtain ⟨z_4, ez_4, hz_4, lz_4⟩ := tab_rd hdf (e := z_3) (k := n) (c := 0) (a := 0) (b := 15) (by omega) (by omega) (by decide) (by omega) rfl rfl
    refine lt_i (y := iI z_4) ez_4 ?_
    refine W.widen (k := 0) (n := 0) (Nat.le_of_ble_eq_true rfl) (Nat.le_of_ble_eq_true rfl) ?_
    exact W.iret (v := iI z_4) hx hb hr (fun t ht hW => ⟨⟨iI z_4, ((fun k => ([] : List Nat).getD k 0), (fun k => ([z_4] : List Int).getD k 0), (fun k => ([] : List (Nat → Int32)).getD k (fun _ => 0))), rfl, ⟨rfl, (by show (0 ≤ z_4 ∧ z_4 ≤ 15); first | exact lz_4 | omega), hdf⟩, by rw [ht]; exact hP.sub [0, 1] rfl, hD.sub [0, 1] (by decide) rfl⟩, hS.F ht⟩) hS.2.2 dX3_of_19
  · refine lv_iconst (v := iI 0) hx hb dX3_of_5 (by decide) ?_
    refine lv_goto (tgt := 19) hx hb dX3_of_6 (by decide) ?_
    refine W.widen (k := 0) (n := 0) (Nat.le_of_ble_eq_true rfl) (Nat.le_of_ble_eq_true rfl) ?_
    exact W.iret (v := iI 0) hx hb hr (fun t ht hW => ⟨⟨iI 0, ((fun k => ([] : List Nat).getD k 0), (fun k => ([0] : List Int).getD k 0), (fun k => ([] : List (Nat → Int32)).getD k (fun _ => 0))), rfl, ⟨rfl, (by show (0 ≤ 0 ∧ 0 ≤ 15); show (0 : Int) ≤ 0 ∧ (0 : Int) ≤ 15; decide), hdf⟩, by rw [ht]; exact hP.sub [0, 1] rfl, hD.sub [0, 1] (by decide) rfl⟩, hS.F ht⟩) hS.2.2 dX3_of_19
def vs_o_of1 : List Cond := .code yX3_of cX3_of 3 (some .int) :: (([] : List Cond) ++ ((wsX60) ++ ([])))
theorem gd_o_of1 : vs_o_of1.all goodWord = true := gd_C (by decide +kernel) (gd_A (by decide +kernel) (gd_A (by decide +kernel) rfl))
set_option maxHeartbeats 4000000 in
set_option maxRecDepth 100000 in
theorem o_of1 (l : Launch) (hl : l.stackTraces = false) (D : va_G) (cy : Nat → ClassId) (sa : Nat → Nat) (sA s2 s3 s6 s8 s11 s13 : Nat) (wi ro dr dt pe gu sh wo dn mi fl tk go : Int) (df : Nat → Int32) (n : Int) (sz : Nat) (hr_wi : 0 ≤ wi ∧ wi ≤ 16) (hr_ro : 0 ≤ ro ∧ ro ≤ 6) (hr_dr : 0 ≤ dr ∧ dr ≤ 14) (hr_dt : 0 ≤ dt ∧ dt ≤ 6) (hr_pe : 0 ≤ pe ∧ pe ≤ 8) (hr_gu : 0 ≤ gu ∧ gu ≤ 20) (hr_sh : 0 ≤ sh ∧ sh ≤ 2) (hr_wo : 0 ≤ wo ∧ wo ≤ 8) (hr_dn : (-2147483648) ≤ dn ∧ dn ≤ 2147483647) (hr_mi : 0 ≤ mi ∧ mi ≤ 600) (hr_fl : (-2147483648) ≤ fl ∧ fl ≤ 2147483647) (hr_tk : (-2147483648) ≤ tk ∧ tk ≤ 2147483647) (hr_go : (-2147483648) ≤ go ∧ go ≤ 2147483647) (hr_n : (-1) ≤ n ∧ n ≤ 13) (hdf : tab_ 4 14 [0, 0, 0, 0] [15, 5, 99, 16] df) : Met l yX3_of vs_o_of1 ({ frames := 0, cells := 0, slots := 0, locals := 0 }) (va_Pc [vR sA, vI n, vI 1] (pcW D cy sa sz [zO sA 6 [vI wi, vI ro, vR s2, vR s3, vI dr, vI dt, vR s6, vI pe, vR s8, vI gu, vI sh, vR s11, vI wo, vR s13, vI dn, vI mi, vI fl, vI tk, vI go], zI s6 (cy 0) 56 df])) (va_Qi (fun (r : Int32) (u : SV) => r = iI (u.2.1 0) ∧ (0 ≤ u.2.1 0 ∧ u.2.1 0 ≤ 15) ∧ tab_ 4 14 [0, 0, 0, 0] [15, 5, 99, 16] df) (fun u t => atW D (va_A [zO sA 6 [vI wi, vI ro, vR s2, vR s3, vI dr, vI dt, vR s6, vI pe, vR s8, vI gu, vI sh, vR s11, vI wo, vR s13, vI dn, vI mi, vI fl, vI tk, vI go], zI s6 (cy 0) 56 df] sz) [zO sA 6 [vI wi, vI ro, vR s2, vR s3, vI dr, vI dt, vR s6, vI pe, vR s8, vI gu, vI sh, vR s11, vI wo, vR s13, vI dn, vI mi, vI fl, vI tk, vI go], zI s6 (cy 0) 56 df] t) (va_A [zO sA 6 [vI wi, vI ro, vR s2, vR s3, vI dr, vI dt, vR s6, vI pe, vR s8, vI gu, vI sh, vR s11, vI wo, vR s13, vI dn, vI mi, vI fl, vI tk, vI go], zI s6 (cy 0) 56 df] sz)) 0 0 (va_A [zO sA 6 [vI wi, vI ro, vR s2, vR s3, vI dr, vI dt, vR s6, vI pe, vR s8, vI gu, vI sh, vR s11, vI wo, vR s13, vI dn, vI mi, vI fl, vI tk, vI go], zI s6 (cy 0) 56 df] sz) := by
  refine Met.ofW (cc := cX3_of) (maxL := 3) (ret := (some .int)) (by decide) rfl ?_
  intro p e s m args below meth c s₁ B hml hv
  obtain ⟨rfl, hsz, hP, hG, hD0, hT⟩ := hv
  have hx := B.exec
  have hb := B.bytes
  have hr := B.returns
  have hts := atoms_spec (ws := vs_o_of1) B.pre
  have hown : s.vm.findClass RX3 = some m.cls := findClass_of_methodNamed B.named
  have hlocks := B.notSynchronized
  subst hsz
  have hD := hD0.self (sz := s.heap.size)
  generalize hAe : va_A [zO sA 6 [vI wi, vI ro, vR s2, vR s3, vI dr, vI dt, vR s6, vI pe, vR s8, vI gu, vI sh, vR s11, vI wo, vR s13, vI dn, vI mi, vI fl, vI tk, vI go], zI s6 (cy 0) 56 df] s.heap.size = A at hD hT ⊢
  have hA : ∀ q : Nat, s.heap.size ≤ q → A q := fun q h => by rw [← hAe]; exact Or.inr h
  have hS : va_S A s.heap s.heap [] := va_S.rf
  have hl0 := lv_entry ([vR sA, vI n, vI 1]) (n := 3) (Nat.le_of_ble_eq_true rfl)
  rw [lg_entry_eq]
  generalize (lg_sl ([vR sA, vI n, vI 1]) ++ List.replicate (3 - (lg_sl ([vR sA, vI n, vI 1])).length) Slot.unset).toArray = ls at hl0 ⊢
  have hlv : lv_has ls 3 [(0, vR sA), (1, vI n), (2, vI 1)] := hl0
  have hi6 : ∀ w ∈ wsX60, w ∈ vs_o_of1 := fun w h => List.mem_cons_of_mem _ (List.mem_append_right _ (List.mem_append_left _ h))
  refine lv_iload_n hx hb dX3_of_0 rfl (lv_at hlv 1 rfl) ?_
  refine lv_iconst (v := iI (-1)) hx hb dX3_of_1 (by decide) ?_
  refine ir_ne (tgt := 9) hx hb dX3_of_2 (by decide) (by first | exact rgw hr_n (by decide) (by decide) | omega) (by show ((-2147483648) : Int) ≤ (-1) ∧ ((-1) : Int) ≤ 2147483647; decide) (fun c_1 => ?_) (fun c_1 => ?_)
  · refine lv_aload_n hx hb dX3_of_9 rfl (lv_at hlv 0 rfl) ?_
    refine va_getN (D := D) (ci := 6) (v := vR s6) (C := RX6) (T := TX6) (N := 19) hx hb hts hi6 hown hG.1 hP 0 rfl rfl 6 (by decide) (va_Nw.use rfl (nF_Orders_56 hG.2.1)) (fun _ h9 => h9) rfl dX3_of_10 ?_
    refine lv_iconst (v := iI 4) hx hb dX3_of_13 (by decide) ?_
    refine lv_iload_n hx hb dX3_of_14 rfl (lv_at hlv 1 rfl) ?_
    refine lv_imul hx hb dX3_of_15 ?_
    refine lt_e (e0 := 4 * n) (Int32.ofInt_mul _ _).symm (fun z_2 hz_2 => ?_)
    refine lv_iload_n hx hb dX3_of_16 rfl (lv_at hlv 2 rfl) ?_
    refine lv_iadd hx hb dX3_of_17 ?_
    refine lt_e (e0 := z_2 + 1) (Int32.ofInt_add _ _).symm (fun z_3 hz_3 => ?_)
    refine va_iald hx hb hG.1 hP 1 0 rfl rfl (iI_in (by omega) (by decide)) dX3_of_18 ?_
    obtain ⟨z_4, ez_4, hz_4, lz_4⟩ := tab_rd hdf (e := z_3) (k := n) (c := 1) (a := 0) (b := 5) (by omega) (by omega) (by decide) (by omega) rfl rfl
    refine lt_i (y := iI z_4) ez_4 ?_
    refine W.widen (k := 0) (n := 0) (Nat.le_of_ble_eq_true rfl) (Nat.le_of_ble_eq_true rfl) ?_
    exact W.iret (v := iI z_4) hx hb hr (fun t ht hW => ⟨⟨iI z_4, ((fun k => ([] : List Nat).getD k 0), (fun k => ([z_4] : List Int).getD k 0), (fun k => ([] : List (Nat → Int32)).getD k (fun _ => 0))), rfl, ⟨rfl, (by show (0 ≤ z_4 ∧ z_4 ≤ 15); first | exact rgw lz_4 (by decide) (by decide) | omega), hdf⟩, by rw [ht]; exact hP.sub [0, 1] rfl, hD.sub [0, 1] (by decide) rfl⟩, hS.F ht⟩) hS.2.2 dX3_of_19
  · refine lv_iconst (v := iI 0) hx hb dX3_of_5 (by decide) ?_
    refine lv_goto (tgt := 19) hx hb dX3_of_6 (by decide) ?_
    refine W.widen (k := 0) (n := 0) (Nat.le_of_ble_eq_true rfl) (Nat.le_of_ble_eq_true rfl) ?_
    exact W.iret (v := iI 0) hx hb hr (fun t ht hW => ⟨⟨iI 0, ((fun k => ([] : List Nat).getD k 0), (fun k => ([0] : List Int).getD k 0), (fun k => ([] : List (Nat → Int32)).getD k (fun _ => 0))), rfl, ⟨rfl, (by show (0 ≤ 0 ∧ 0 ≤ 15); show (0 : Int) ≤ 0 ∧ (0 : Int) ≤ 15; decide), hdf⟩, by rw [ht]; exact hP.sub [0, 1] rfl, hD.sub [0, 1] (by decide) rfl⟩, hS.F ht⟩) hS.2.2 dX3_of_19
def vs_o_steps : List Cond := .code yX3_steps cX3_steps 5 (some .int) :: (([.methodLink RX3 70 Lib.Math.abs.name, .static Lib.Math.abs.name, .initialized "java/lang/Math", .code Lib.Math.abs.name Lib.Math.abs.code 1 (some .int)] : List Cond) ++ ((va_wsS RX3 67 yX3_of vs_o_of0) ++ ((va_wsS RX3 67 yX3_of vs_o_of1) ++ ([]))))
theorem gd_o_steps : vs_o_steps.all goodWord = true := gd_C (by decide +kernel) (gd_A (by decide +kernel) (gd_A (gd_S gd_o_of0 (by decide +kernel)) (gd_A (gd_S gd_o_of1 (by decide +kernel)) rfl)))
set_option maxHeartbeats 4000000 in
set_option maxRecDepth 100000 in
theorem o_steps (l : Launch) (hl : l.stackTraces = false) (D : va_G) (cy : Nat → ClassId) (sa : Nat → Nat) (sA s2 s3 s6 s8 s11 s13 : Nat) (wi ro dr dt pe gu sh wo dn mi fl tk go : Int) (df : Nat → Int32) (n k : Int) (sz : Nat) (hr_wi : 0 ≤ wi ∧ wi ≤ 16) (hr_ro : 0 ≤ ro ∧ ro ≤ 6) (hr_dr : 0 ≤ dr ∧ dr ≤ 14) (hr_dt : 0 ≤ dt ∧ dt ≤ 6) (hr_pe : 0 ≤ pe ∧ pe ≤ 8) (hr_gu : 0 ≤ gu ∧ gu ≤ 20) (hr_sh : 0 ≤ sh ∧ sh ≤ 2) (hr_wo : 0 ≤ wo ∧ wo ≤ 8) (hr_dn : (-2147483648) ≤ dn ∧ dn ≤ 2147483647) (hr_mi : 0 ≤ mi ∧ mi ≤ 600) (hr_fl : (-2147483648) ≤ fl ∧ fl ≤ 2147483647) (hr_tk : (-2147483648) ≤ tk ∧ tk ≤ 2147483647) (hr_go : (-2147483648) ≤ go ∧ go ≤ 2147483647) (hr_n : (-1) ≤ n ∧ n ≤ 13) (hr_k : (-1) ≤ k ∧ k ≤ 13) (hdf : tab_ 4 14 [0, 0, 0, 0] [15, 5, 99, 16] df) : Met l yX3_steps vs_o_steps ({ frames := 1, cells := 0, slots := 0, locals := 30 }) (va_Pc [vR sA, vI n, vI k] (pcW D cy sa sz [zO sA 6 [vI wi, vI ro, vR s2, vR s3, vI dr, vI dt, vR s6, vI pe, vR s8, vI gu, vI sh, vR s11, vI wo, vR s13, vI dn, vI mi, vI fl, vI tk, vI go], zI s6 (cy 0) 56 df])) (va_Qi (fun (r : Int32) (u : SV) => r = iI (u.2.1 0) ∧ (0 ≤ u.2.1 0 ∧ u.2.1 0 ≤ 60) ∧ tab_ 4 14 [0, 0, 0, 0] [15, 5, 99, 16] df) (fun u t => atW D (va_A [zO sA 6 [vI wi, vI ro, vR s2, vR s3, vI dr, vI dt, vR s6, vI pe, vR s8, vI gu, vI sh, vR s11, vI wo, vR s13, vI dn, vI mi, vI fl, vI tk, vI go], zI s6 (cy 0) 56 df] sz) [zO sA 6 [vI wi, vI ro, vR s2, vR s3, vI dr, vI dt, vR s6, vI pe, vR s8, vI gu, vI sh, vR s11, vI wo, vR s13, vI dn, vI mi, vI fl, vI tk, vI go], zI s6 (cy 0) 56 df] t) (va_A [zO sA 6 [vI wi, vI ro, vR s2, vR s3, vI dr, vI dt, vR s6, vI pe, vR s8, vI gu, vI sh, vR s11, vI wo, vR s13, vI dn, vI mi, vI fl, vI tk, vI go], zI s6 (cy 0) 56 df] sz)) 0 0 (va_A [zO sA 6 [vI wi, vI ro, vR s2, vR s3, vI dr, vI dt, vR s6, vI pe, vR s8, vI gu, vI sh, vR s11, vI wo, vR s13, vI dn, vI mi, vI fl, vI tk, vI go], zI s6 (cy 0) 56 df] sz) := by
  refine Met.ofW (cc := cX3_steps) (maxL := 5) (ret := (some .int)) (by decide) rfl ?_
  intro p e s m args below meth c s₁ B hml hv
  obtain ⟨rfl, hsz, hP, hG, hD0, hT⟩ := hv
  have hx := B.exec
  have hb := B.bytes
  have hr := B.returns
  have hts := atoms_spec (ws := vs_o_steps) B.pre
  have hown : s.vm.findClass RX3 = some m.cls := findClass_of_methodNamed B.named
  have hlocks := B.notSynchronized
  subst hsz
  have hD := hD0.self (sz := s.heap.size)
  generalize hAe : va_A [zO sA 6 [vI wi, vI ro, vR s2, vR s3, vI dr, vI dt, vR s6, vI pe, vR s8, vI gu, vI sh, vR s11, vI wo, vR s13, vI dn, vI mi, vI fl, vI tk, vI go], zI s6 (cy 0) 56 df] s.heap.size = A at hD hT ⊢
  have hA : ∀ q : Nat, s.heap.size ≤ q → A q := fun q h => by rw [← hAe]; exact Or.inr h
  have hS : va_S A s.heap s.heap [] := va_S.rf
  have hl0 := lv_entry ([vR sA, vI n, vI k]) (n := 5) (Nat.le_of_ble_eq_true rfl)
  rw [lg_entry_eq]
  generalize (lg_sl ([vR sA, vI n, vI k]) ++ List.replicate (5 - (lg_sl ([vR sA, vI n, vI k])).length) Slot.unset).toArray = ls at hl0 ⊢
  have hlv : lv_has ls 5 [(0, vR sA), (1, vI n), (2, vI k)] := hl0
  have gg_0 : GoodIn vs_o_steps (va_wsS RX3 67 yX3_of vs_o_of0) := goodIn_sub (fun w h => List.mem_cons_of_mem _ (List.mem_append_right _ (List.mem_append_left _ h))) (gd_S gd_o_of0 (by decide +kernel))
  have gg_1 : GoodIn vs_o_steps (va_wsS RX3 67 yX3_of vs_o_of1) := goodIn_sub (fun w h => List.mem_cons_of_mem _ (List.mem_append_right _ (List.mem_append_right _ (List.mem_append_left _ h)))) (gd_S gd_o_of1 (by decide +kernel))
  have mk70 := hts (.methodLink RX3 70 Lib.Math.abs.name) (List.mem_of_getElem? (i := 1) rfl)
  have ms_abs := hts (.static Lib.Math.abs.name) (List.mem_of_getElem? (i := 2) rfl)
  have mi_ := hts (.initialized "java/lang/Math") (List.mem_of_getElem? (i := 3) rfl)
  have mc_abs := hts (.code Lib.Math.abs.name Lib.Math.abs.code 1 (some .int)) (List.mem_of_getElem? (i := 4) rfl)
  refine lv_aload_n hx hb dX3_steps_0 rfl (lv_at hlv 0 rfl) ?_
  refine lv_iload_n hx hb dX3_steps_1 rfl (lv_at hlv 1 rfl) ?_
  refine lv_iconst (v := iI 0) hx hb dX3_steps_2 (by decide) ?_
  refine cj_i (wr := []) (va_runS (As := [vR sA, vI n, vI 0]) (rest := []) ⟨hx, hb, hml, hown, hts⟩ (o_of0 l hl D cy sa sA s2 s3 s6 s8 s11 s13 wi ro dr dt pe gu sh wo dn mi fl tk go df n s.heap.size (by first | exact hr_wi | omega) (by first | exact hr_ro | omega) (by first | exact hr_dr | omega) (by first | exact hr_dt | omega) (by first | exact hr_pe | omega) (by first | exact hr_gu | omega) (by first | exact hr_sh | omega) (by first | exact hr_wo | omega) (by first | exact hr_dn | omega) (by first | exact hr_mi | omega) (by first | exact hr_fl | omega) (by first | exact hr_tk | omega) (by first | exact hr_go | omega) (by first | exact hr_n | omega) hdf) (va_cwS 3 hts gg_0 rfl rfl rfl (by decide +kernel) ⟨Nat.le_of_ble_eq_true rfl, Nat.le_of_ble_eq_true rfl⟩) ⟨pcW.blind, (pcW.mk hP hD hS hA hG hT [0, 1] rfl (by decide))⟩ rfl rfl hlv.1 rfl (lv_room (Nat.le_of_ble_eq_true rfl)) dX3_steps_3 ⟨Nat.le_of_ble_eq_true rfl, Nat.le_of_ble_eq_true rfl⟩) hP hD hS hA [0, 1] [] rfl rfl (by decide) (by decide) (fun r1 u1 H locs hw1 hP hD hS => ?_)
  obtain ⟨rfl, hq1_1, hq1_2⟩ := hw1
  have hP : va_P D vwCl [zO sA 6 [vI wi, vI ro, vR s2, vR s3, vI dr, vI dt, vR s6, vI pe, vR s8, vI gu, vI sh, vR s11, vI wo, vR s13, vI dn, vI mi, vI fl, vI tk, vI go], zI s6 (cy 0) 56 df] H := hP
  have hD : va_D A [zO sA 6 [vI wi, vI ro, vR s2, vR s3, vI dr, vI dt, vR s6, vI pe, vR s8, vI gu, vI sh, vR s11, vI wo, vR s13, vI dn, vI mi, vI fl, vI tk, vI go], zI s6 (cy 0) 56 df] := hD
  refine lv_aload_n hx hb dX3_steps_6 rfl (lv_at hlv 0 rfl) ?_
  refine lv_iload_n hx hb dX3_steps_7 rfl (lv_at hlv 2 rfl) ?_
  refine lv_iconst (v := iI 0) hx hb dX3_steps_8 (by decide) ?_
  refine cj_i (wr := []) (va_runS (As := [vR sA, vI k, vI 0]) (rest := [vI (u1.2.1 0)]) ⟨hx, hb, hml, hown, hts⟩ (o_of0 l hl D cy sa sA s2 s3 s6 s8 s11 s13 wi ro dr dt pe gu sh wo dn mi fl tk go df k H.size (by first | exact hr_wi | omega) (by first | exact hr_ro | omega) (by first | exact hr_dr | omega) (by first | exact hr_dt | omega) (by first | exact hr_pe | omega) (by first | exact hr_gu | omega) (by first | exact hr_sh | omega) (by first | exact hr_wo | omega) (by first | exact hr_dn | omega) (by first | exact hr_mi | omega) (by first | exact hr_fl | omega) (by first | exact hr_tk | omega) (by first | exact hr_go | omega) (by first | exact hr_k | omega) hq1_2) (va_cwS 3 hts gg_0 rfl rfl rfl (by decide +kernel) ⟨Nat.le_of_ble_eq_true rfl, Nat.le_of_ble_eq_true rfl⟩) ⟨pcW.blind, (pcW.mk hP hD hS hA hG hT [0, 1] rfl (by decide))⟩ rfl rfl hlv.1 rfl (lv_room (Nat.le_of_ble_eq_true rfl)) dX3_steps_9 ⟨Nat.le_of_ble_eq_true rfl, Nat.le_of_ble_eq_true rfl⟩) hP hD hS hA [0, 1] [] rfl rfl (by decide) (by decide) (fun r2 u2 H locs hw2 hP hD hS => ?_)
  obtain ⟨rfl, hq2_1, hq2_2⟩ := hw2
  have hP : va_P D vwCl [zO sA 6 [vI wi, vI ro, vR s2, vR s3, vI dr, vI dt, vR s6, vI pe, vR s8, vI gu, vI sh, vR s11, vI wo, vR s13, vI dn, vI mi, vI fl, vI tk, vI go], zI s6 (cy 0) 56 df] H := hP
  have hD : va_D A [zO sA 6 [vI wi, vI ro, vR s2, vR s3, vI dr, vI dt, vR s6, vI pe, vR s8, vI gu, vI sh, vR s11, vI wo, vR s13, vI dn, vI mi, vI fl, vI tk, vI go], zI s6 (cy 0) 56 df] := hD
  refine lv_isub hx hb dX3_steps_12 ?_
  refine lt_e (e0 := (u1.2.1 0) - (u2.2.1 0)) (Int32.ofInt_sub _ _).symm (fun z_1 hz_1 => ?_)
  refine lv_istore_n (lv' := [(3, vI z_1), (0, vR sA), (1, vI n), (2, vI k)]) hx hb dX3_steps_13 rfl hlv (by decide) rfl (fun ls hlv => ?_)
  refine lv_aload_n hx hb dX3_steps_14 rfl (lv_at hlv 1 rfl) ?_
  refine lv_iload_n hx hb dX3_steps_15 rfl (lv_at hlv 2 rfl) ?_
  refine lv_iconst (v := iI 1) hx hb dX3_steps_16 (by decide) ?_
  refine cj_i (wr := []) (va_runS (As := [vR sA, vI n, vI 1]) (rest := []) ⟨hx, hb, hml, hown, hts⟩ (o_of1 l hl D cy sa sA s2 s3 s6 s8 s11 s13 wi ro dr dt pe gu sh wo dn mi fl tk go df n H.size (by first | exact hr_wi | omega) (by first | exact hr_ro | omega) (by first | exact hr_dr | omega) (by first | exact hr_dt | omega) (by first | exact hr_pe | omega) (by first | exact hr_gu | omega) (by first | exact hr_sh | omega) (by first | exact hr_wo | omega) (by first | exact hr_dn | omega) (by first | exact hr_mi | omega) (by first | exact hr_fl | omega) (by first | exact hr_tk | omega) (by first | exact hr_go | omega) (by first | exact hr_n | omega) hq2_2) (va_cwS 3 hts gg_1 rfl rfl rfl (by decide +kernel) ⟨Nat.le_of_ble_eq_true rfl, Nat.le_of_ble_eq_true rfl⟩) ⟨pcW.blind, (pcW.mk hP hD hS hA hG hT [0, 1] rfl (by decide))⟩ rfl rfl hlv.1 rfl (lv_room (Nat.le_of_ble_eq_true rfl)) dX3_steps_17 ⟨Nat.le_of_ble_eq_true rfl, Nat.le_of_ble_eq_true rfl⟩) hP hD hS hA [0, 1] [] rfl rfl (by decide) (by decide) (fun r3 u3 H locs hw3 hP hD hS => ?_)
  obtain ⟨rfl, hq3_1, hq3_2⟩ := hw3
  have hP : va_P D vwCl [zO sA 6 [vI wi, vI ro, vR s2, vR s3, vI dr, vI dt, vR s6, vI pe, vR s8, vI gu, vI sh, vR s11, vI wo, vR s13, vI dn, vI mi, vI fl, vI tk, vI go], zI s6 (cy 0) 56 df] H := hP
  have hD : va_D A [zO sA 6 [vI wi, vI ro, vR s2, vR s3, vI dr, vI dt, vR s6, vI pe, vR s8, vI gu, vI sh, vR s11, vI wo, vR s13, vI dn, vI mi, vI fl, vI tk, vI go], zI s6 (cy 0) 56 df] := hD
  refine lv_aload_n hx hb dX3_steps_20 rfl (lv_at hlv 1 rfl) ?_
  refine lv_iload_n hx hb dX3_steps_21 rfl (lv_at hlv 3 rfl) ?_
  refine lv_iconst (v := iI 1) hx hb dX3_steps_22 (by decide) ?_
  refine cj_i (wr := []) (va_runS (As := [vR sA, vI k, vI 1]) (rest := [vI (u3.2.1 0)]) ⟨hx, hb, hml, hown, hts⟩ (o_of1 l hl D cy sa sA s2 s3 s6 s8 s11 s13 wi ro dr dt pe gu sh wo dn mi fl tk go df k H.size (by first | exact hr_wi | omega) (by first | exact hr_ro | omega) (by first | exact hr_dr | omega) (by first | exact hr_dt | omega) (by first | exact hr_pe | omega) (by first | exact hr_gu | omega) (by first | exact hr_sh | omega) (by first | exact hr_wo | omega) (by first | exact hr_dn | omega) (by first | exact hr_mi | omega) (by first | exact hr_fl | omega) (by first | exact hr_tk | omega) (by first | exact hr_go | omega) (by first | exact hr_k | omega) hq3_2) (va_cwS 3 hts gg_1 rfl rfl rfl (by decide +kernel) ⟨Nat.le_of_ble_eq_true rfl, Nat.le_of_ble_eq_true rfl⟩) ⟨pcW.blind, (pcW.mk hP hD hS hA hG hT [0, 1] rfl (by decide))⟩ rfl rfl hlv.1 rfl (lv_room (Nat.le_of_ble_eq_true rfl)) dX3_steps_23 ⟨Nat.le_of_ble_eq_true rfl, Nat.le_of_ble_eq_true rfl⟩) hP hD hS hA [0, 1] [] rfl rfl (by decide) (by decide) (fun r4 u4 H locs hw4 hP hD hS => ?_)
  obtain ⟨rfl, hq4_1, hq4_2⟩ := hw4
  have hP : va_P D vwCl [zO sA 6 [vI wi, vI ro, vR s2, vR s3, vI dr, vI dt, vR s6, vI pe, vR s8, vI gu, vI sh, vR s11, vI wo, vR s13, vI dn, vI mi, vI fl, vI tk, vI go], zI s6 (cy 0) 56 df] H := hP
  have hD : va_D A [zO sA 6 [vI wi, vI ro, vR s2, vR s3, vI dr, vI dt, vR s6, vI pe, vR s8, vI gu, vI sh, vR s11, vI wo, vR s13, vI dn, vI mi, vI fl, vI tk, vI go], zI s6 (cy 0) 56 df] := hD
  refine lv_isub hx hb dX3_steps_26 ?_
  refine lt_e (e0 := (u3.2.1 0) - (u4.2.1 0)) (Int32.ofInt_sub _ _).symm (fun z_2 hz_2 => ?_)
  refine lv_istore (lv' := [(4, vI z_2), (3, vI z_1), (0, vR sA), (1, vI n), (2, vI k)]) hx hb dX3_steps_27 hlv (by decide) rfl (fun ls hlv => ?_)
  refine lv_iload_n hx hb dX3_steps_29 rfl (lv_at hlv 1 rfl) ?_
  refine va_mabs hx hb (hml.trans hlv.1.symm) hown mk70 ms_abs mi_ mc_abs (Nat.le_of_ble_eq_true rfl) (Nat.le_of_ble_eq_true rfl) (Nat.le_of_ble_eq_true rfl) (Nat.le_of_ble_eq_true rfl) dX3_steps_30 ?_
  refine lt_ab (by omega) (fun z_3 hz_3 => ?_)
  refine lv_iload hx hb dX3_steps_33 (lv_at hlv 0 rfl) ?_
  refine va_mabs hx hb (hml.trans hlv.1.symm) hown mk70 ms_abs mi_ mc_abs (Nat.le_of_ble_eq_true rfl) (Nat.le_of_ble_eq_true rfl) (Nat.le_of_ble_eq_true rfl) (Nat.le_of_ble_eq_true rfl) dX3_steps_35 ?_
  refine lt_ab (by omega) (fun z_4 hz_4 => ?_)
  refine lv_iadd hx hb dX3_steps_38 ?_
  refine lt_e (e0 := z_3 + z_4) (Int32.ofInt_add _ _).symm (fun z_5 hz_5 => ?_)
  refine W.widen (k := 0) (n := 0) (Nat.le_of_ble_eq_true rfl) (Nat.le_of_ble_eq_true rfl) ?_
  exact W.iret (v := iI z_5) hx hb hr (fun t ht hW => ⟨⟨iI z_5, ((fun k => ([] : List Nat).getD k 0), (fun k => ([z_5] : List Int).getD k 0), (fun k => ([] : List (Nat → Int32)).getD k (fun _ => 0))), rfl, ⟨rfl, (by show (0 ≤ z_5 ∧ z_5 ≤ 60); omega), hq4_2⟩, by rw [ht]; exact hP.sub [0, 1] rfl, hD.sub [0, 1] (by decide) rfl⟩, hS.F ht⟩) hS.2.2 dX3_steps_39
