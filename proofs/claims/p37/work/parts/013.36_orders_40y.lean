section
theorem dX3_bestNext_0 : decode cX3_bestNext 0 = .ok (.iconst (-1), 1) := by decide +kernel
theorem dX3_bestNext_1 : decode cX3_bestNext 1 = .ok (.istore_n 3, 1) := by decide +kernel
theorem dX3_bestNext_11 : decode cX3_bestNext 11 = .ok (.aload_n 1, 1) := by decide +kernel
theorem dX3_bestNext_12 : decode cX3_bestNext 12 = .ok (.getfield 17, 3) := by decide +kernel
theorem dX3_bestNext_15 : decode cX3_bestNext 15 = .ok (.if_icmp .ge 42, 3) := by decide +kernel
theorem dX3_bestNext_18 : decode cX3_bestNext 18 = .ok (.iload_n 2, 1) := by decide +kernel
theorem dX3_bestNext_19 : decode cX3_bestNext 19 = .ok (.iload 5, 2) := by decide +kernel
theorem dX3_bestNext_2 : decode cX3_bestNext 2 = .ok (.ldc 47, 2) := by decide +kernel
theorem dX3_bestNext_21 : decode cX3_bestNext 21 = .ok (.ishr, 1) := by decide +kernel
theorem dX3_bestNext_22 : decode cX3_bestNext 22 = .ok (.iconst 1, 1) := by decide +kernel
theorem dX3_bestNext_23 : decode cX3_bestNext 23 = .ok (.iand, 1) := by decide +kernel
theorem dX3_bestNext_24 : decode cX3_bestNext 24 = .ok (.ifCond .ne 27, 3) := by decide +kernel
theorem dX3_bestNext_27 : decode cX3_bestNext 27 = .ok (.aload_n 0, 1) := by decide +kernel
theorem dX3_bestNext_28 : decode cX3_bestNext 28 = .ok (.aload_n 1, 1) := by decide +kernel
theorem dX3_bestNext_29 : decode cX3_bestNext 29 = .ok (.iload_n 2, 1) := by decide +kernel
theorem dX3_bestNext_30 : decode cX3_bestNext 30 = .ok (.iload 5, 2) := by decide +kernel
theorem dX3_bestNext_32 : decode cX3_bestNext 32 = .ok (.invokevirtual 25, 3) := by decide +kernel
theorem dX3_bestNext_35 : decode cX3_bestNext 35 = .ok (.istore 6, 2) := by decide +kernel
theorem dX3_bestNext_37 : decode cX3_bestNext 37 = .ok (.iload 6, 2) := by decide +kernel
theorem dX3_bestNext_39 : decode cX3_bestNext 39 = .ok (.iload 4, 2) := by decide +kernel
theorem dX3_bestNext_4 : decode cX3_bestNext 4 = .ok (.istore 4, 2) := by decide +kernel
theorem dX3_bestNext_41 : decode cX3_bestNext 41 = .ok (.if_icmp .ge 10, 3) := by decide +kernel
theorem dX3_bestNext_44 : decode cX3_bestNext 44 = .ok (.iload 6, 2) := by decide +kernel
theorem dX3_bestNext_46 : decode cX3_bestNext 46 = .ok (.istore 4, 2) := by decide +kernel
theorem dX3_bestNext_48 : decode cX3_bestNext 48 = .ok (.iload 5, 2) := by decide +kernel
theorem dX3_bestNext_50 : decode cX3_bestNext 50 = .ok (.istore_n 3, 1) := by decide +kernel
theorem dX3_bestNext_51 : decode cX3_bestNext 51 = .ok (.iinc 5 1, 3) := by decide +kernel
theorem dX3_bestNext_54 : decode cX3_bestNext 54 = .ok (.goto (-45), 3) := by decide +kernel
theorem dX3_bestNext_57 : decode cX3_bestNext 57 = .ok (.iload_n 3, 1) := by decide +kernel
theorem dX3_bestNext_58 : decode cX3_bestNext 58 = .ok (.ireturn, 1) := by decide +kernel
theorem dX3_bestNext_6 : decode cX3_bestNext 6 = .ok (.iconst 0, 1) := by decide +kernel
theorem dX3_bestNext_7 : decode cX3_bestNext 7 = .ok (.istore 5, 2) := by decide +kernel
theorem dX3_bestNext_9 : decode cX3_bestNext 9 = .ok (.iload 5, 2) := by decide +kernel
theorem dX3_findFirst_0 : decode cX3_findFirst 0 = .ok (.iconst 1, 1) := by decide +kernel
theorem dX3_findFirst_1 : decode cX3_findFirst 1 = .ok (.aload_n 1, 1) := by decide +kernel
theorem dX3_findFirst_10 : decode cX3_findFirst 10 = .ok (.getfield 11, 3) := by decide +kernel
theorem dX3_findFirst_100 : decode cX3_findFirst 100 = .ok (.aload_n 1, 1) := by decide +kernel
theorem dX3_findFirst_101 : decode cX3_findFirst 101 = .ok (.getfield 17, 3) := by decide +kernel
theorem dX3_findFirst_104 : decode cX3_findFirst 104 = .ok (.if_icmp .ge 42, 3) := by decide +kernel
theorem dX3_findFirst_107 : decode cX3_findFirst 107 = .ok (.aload_n 0, 1) := by decide +kernel
theorem dX3_findFirst_108 : decode cX3_findFirst 108 = .ok (.aload_n 1, 1) := by decide +kernel
theorem dX3_findFirst_109 : decode cX3_findFirst 109 = .ok (.iload_n 3, 1) := by decide +kernel
theorem dX3_findFirst_110 : decode cX3_findFirst 110 = .ok (.invokevirtual 21, 3) := by decide +kernel
theorem dX3_findFirst_113 : decode cX3_findFirst 113 = .ok (.iconst 0, 1) := by decide +kernel
theorem dX3_findFirst_114 : decode cX3_findFirst 114 = .ok (.invokestatic 39, 3) := by decide +kernel
theorem dX3_findFirst_117 : decode cX3_findFirst 117 = .ok (.istore 5, 2) := by decide +kernel
theorem dX3_findFirst_119 : decode cX3_findFirst 119 = .ok (.aload_n 0, 1) := by decide +kernel
theorem dX3_findFirst_120 : decode cX3_findFirst 120 = .ok (.aload_n 0, 1) := by decide +kernel
theorem dX3_findFirst_121 : decode cX3_findFirst 121 = .ok (.getfield 36, 3) := by decide +kernel
theorem dX3_findFirst_124 : decode cX3_findFirst 124 = .ok (.bipush 10, 2) := by decide +kernel
theorem dX3_findFirst_126 : decode cX3_findFirst 126 = .ok (.imul, 1) := by decide +kernel
theorem dX3_findFirst_127 : decode cX3_findFirst 127 = .ok (.iload 5, 2) := by decide +kernel
theorem dX3_findFirst_129 : decode cX3_findFirst 129 = .ok (.iadd, 1) := by decide +kernel
theorem dX3_findFirst_13 : decode cX3_findFirst 13 = .ok (.iload_n 2, 1) := by decide +kernel
theorem dX3_findFirst_130 : decode cX3_findFirst 130 = .ok (.putfield 36, 3) := by decide +kernel
theorem dX3_findFirst_133 : decode cX3_findFirst 133 = .ok (.iload_n 3, 1) := by decide +kernel
theorem dX3_findFirst_134 : decode cX3_findFirst 134 = .ok (.iconst 1, 1) := by decide +kernel
theorem dX3_findFirst_135 : decode cX3_findFirst 135 = .ok (.iload 5, 2) := by decide +kernel
theorem dX3_findFirst_137 : decode cX3_findFirst 137 = .ok (.ishl, 1) := by decide +kernel
theorem dX3_findFirst_138 : decode cX3_findFirst 138 = .ok (.ior, 1) := by decide +kernel
theorem dX3_findFirst_139 : decode cX3_findFirst 139 = .ok (.istore_n 3, 1) := by decide +kernel
theorem dX3_findFirst_14 : decode cX3_findFirst 14 = .ok (.iconst 0, 1) := by decide +kernel
theorem dX3_findFirst_140 : decode cX3_findFirst 140 = .ok (.iinc 4 1, 3) := by decide +kernel
theorem dX3_findFirst_143 : decode cX3_findFirst 143 = .ok (.goto (-45), 3) := by decide +kernel
theorem dX3_findFirst_146 : decode cX3_findFirst 146 = .ok (.return_, 1) := by decide +kernel
theorem dX3_findFirst_15 : decode cX3_findFirst 15 = .ok (.iastore, 1) := by decide +kernel
theorem dX3_findFirst_16 : decode cX3_findFirst 16 = .ok (.iload_n 2, 1) := by decide +kernel
theorem dX3_findFirst_17 : decode cX3_findFirst 17 = .ok (.iconst 1, 1) := by decide +kernel
theorem dX3_findFirst_18 : decode cX3_findFirst 18 = .ok (.isub, 1) := by decide +kernel
theorem dX3_findFirst_19 : decode cX3_findFirst 19 = .ok (.istore_n 3, 1) := by decide +kernel
theorem dX3_findFirst_2 : decode cX3_findFirst 2 = .ok (.getfield 17, 3) := by decide +kernel
theorem dX3_findFirst_20 : decode cX3_findFirst 20 = .ok (.iload_n 3, 1) := by decide +kernel
theorem dX3_findFirst_21 : decode cX3_findFirst 21 = .ok (.ifCond .lt 41, 3) := by decide +kernel
theorem dX3_findFirst_24 : decode cX3_findFirst 24 = .ok (.aload_n 0, 1) := by decide +kernel
theorem dX3_findFirst_25 : decode cX3_findFirst 25 = .ok (.aload_n 1, 1) := by decide +kernel
theorem dX3_findFirst_26 : decode cX3_findFirst 26 = .ok (.iload_n 3, 1) := by decide +kernel
theorem dX3_findFirst_27 : decode cX3_findFirst 27 = .ok (.invokevirtual 21, 3) := by decide +kernel
theorem dX3_findFirst_30 : decode cX3_findFirst 30 = .ok (.istore 4, 2) := by decide +kernel
theorem dX3_findFirst_32 : decode cX3_findFirst 32 = .ok (.aload_n 0, 1) := by decide +kernel
theorem dX3_findFirst_33 : decode cX3_findFirst 33 = .ok (.getfield 11, 3) := by decide +kernel
theorem dX3_findFirst_36 : decode cX3_findFirst 36 = .ok (.iload_n 3, 1) := by decide +kernel
theorem dX3_findFirst_37 : decode cX3_findFirst 37 = .ok (.iload 4, 2) := by decide +kernel
theorem dX3_findFirst_39 : decode cX3_findFirst 39 = .ok (.iconst (-1), 1) := by decide +kernel
theorem dX3_findFirst_40 : decode cX3_findFirst 40 = .ok (.if_icmp .ne 7, 3) := by decide +kernel
theorem dX3_findFirst_43 : decode cX3_findFirst 43 = .ok (.iconst 0, 1) := by decide +kernel
theorem dX3_findFirst_44 : decode cX3_findFirst 44 = .ok (.goto 11, 3) := by decide +kernel
theorem dX3_findFirst_47 : decode cX3_findFirst 47 = .ok (.aload_n 0, 1) := by decide +kernel
theorem dX3_findFirst_48 : decode cX3_findFirst 48 = .ok (.aload_n 1, 1) := by decide +kernel
theorem dX3_findFirst_49 : decode cX3_findFirst 49 = .ok (.iload_n 3, 1) := by decide +kernel
theorem dX3_findFirst_5 : decode cX3_findFirst 5 = .ok (.ishl, 1) := by decide +kernel
theorem dX3_findFirst_50 : decode cX3_findFirst 50 = .ok (.iload 4, 2) := by decide +kernel
theorem dX3_findFirst_52 : decode cX3_findFirst 52 = .ok (.invokevirtual 25, 3) := by decide +kernel
theorem dX3_findFirst_55 : decode cX3_findFirst 55 = .ok (.iastore, 1) := by decide +kernel
theorem dX3_findFirst_56 : decode cX3_findFirst 56 = .ok (.iinc 3 (-1), 3) := by decide +kernel
theorem dX3_findFirst_59 : decode cX3_findFirst 59 = .ok (.goto (-39), 3) := by decide +kernel
theorem dX3_findFirst_6 : decode cX3_findFirst 6 = .ok (.iconst 1, 1) := by decide +kernel
theorem dX3_findFirst_62 : decode cX3_findFirst 62 = .ok (.aload_n 0, 1) := by decide +kernel
theorem dX3_findFirst_63 : decode cX3_findFirst 63 = .ok (.aload_n 0, 1) := by decide +kernel
theorem dX3_findFirst_64 : decode cX3_findFirst 64 = .ok (.getfield 11, 3) := by decide +kernel
theorem dX3_findFirst_67 : decode cX3_findFirst 67 = .ok (.iconst 0, 1) := by decide +kernel
theorem dX3_findFirst_68 : decode cX3_findFirst 68 = .ok (.iaload, 1) := by decide +kernel
theorem dX3_findFirst_69 : decode cX3_findFirst 69 = .ok (.ldc 29, 2) := by decide +kernel
theorem dX3_findFirst_7 : decode cX3_findFirst 7 = .ok (.isub, 1) := by decide +kernel
theorem dX3_findFirst_71 : decode cX3_findFirst 71 = .ok (.idiv, 1) := by decide +kernel
theorem dX3_findFirst_72 : decode cX3_findFirst 72 = .ok (.putfield 30, 3) := by decide +kernel
theorem dX3_findFirst_75 : decode cX3_findFirst 75 = .ok (.aload_n 0, 1) := by decide +kernel
theorem dX3_findFirst_76 : decode cX3_findFirst 76 = .ok (.aload_n 0, 1) := by decide +kernel
theorem dX3_findFirst_77 : decode cX3_findFirst 77 = .ok (.getfield 11, 3) := by decide +kernel
theorem dX3_findFirst_8 : decode cX3_findFirst 8 = .ok (.istore_n 2, 1) := by decide +kernel
theorem dX3_findFirst_80 : decode cX3_findFirst 80 = .ok (.iconst 0, 1) := by decide +kernel
theorem dX3_findFirst_81 : decode cX3_findFirst 81 = .ok (.iaload, 1) := by decide +kernel
theorem dX3_findFirst_82 : decode cX3_findFirst 82 = .ok (.ldc 29, 2) := by decide +kernel
theorem dX3_findFirst_84 : decode cX3_findFirst 84 = .ok (.irem, 1) := by decide +kernel
theorem dX3_findFirst_85 : decode cX3_findFirst 85 = .ok (.putfield 33, 3) := by decide +kernel
theorem dX3_findFirst_88 : decode cX3_findFirst 88 = .ok (.aload_n 0, 1) := by decide +kernel
theorem dX3_findFirst_89 : decode cX3_findFirst 89 = .ok (.iconst 0, 1) := by decide +kernel
theorem dX3_findFirst_9 : decode cX3_findFirst 9 = .ok (.aload_n 0, 1) := by decide +kernel
theorem dX3_findFirst_90 : decode cX3_findFirst 90 = .ok (.putfield 36, 3) := by decide +kernel
theorem dX3_findFirst_93 : decode cX3_findFirst 93 = .ok (.iconst 0, 1) := by decide +kernel
theorem dX3_findFirst_94 : decode cX3_findFirst 94 = .ok (.istore_n 3, 1) := by decide +kernel
theorem dX3_findFirst_95 : decode cX3_findFirst 95 = .ok (.iconst 0, 1) := by decide +kernel
theorem dX3_findFirst_96 : decode cX3_findFirst 96 = .ok (.istore 4, 2) := by decide +kernel
theorem dX3_findFirst_98 : decode cX3_findFirst 98 = .ok (.iload 4, 2) := by decide +kernel
theorem dX3_of_0 : decode cX3_of 0 = .ok (.iload_n 1, 1) := by decide +kernel
theorem dX3_of_1 : decode cX3_of 1 = .ok (.iconst (-1), 1) := by decide +kernel
theorem dX3_of_10 : decode cX3_of 10 = .ok (.getfield 56, 3) := by decide +kernel
theorem dX3_of_13 : decode cX3_of 13 = .ok (.iconst 4, 1) := by decide +kernel
theorem dX3_of_14 : decode cX3_of 14 = .ok (.iload_n 1, 1) := by decide +kernel
theorem dX3_of_15 : decode cX3_of 15 = .ok (.imul, 1) := by decide +kernel
theorem dX3_of_16 : decode cX3_of 16 = .ok (.iload_n 2, 1) := by decide +kernel
theorem dX3_of_17 : decode cX3_of 17 = .ok (.iadd, 1) := by decide +kernel
theorem dX3_of_18 : decode cX3_of 18 = .ok (.iaload, 1) := by decide +kernel
theorem dX3_of_19 : decode cX3_of 19 = .ok (.ireturn, 1) := by decide +kernel
theorem dX3_of_2 : decode cX3_of 2 = .ok (.if_icmp .ne 7, 3) := by decide +kernel
theorem dX3_of_5 : decode cX3_of 5 = .ok (.iconst 0, 1) := by decide +kernel
theorem dX3_of_6 : decode cX3_of 6 = .ok (.goto 13, 3) := by decide +kernel
theorem dX3_of_9 : decode cX3_of 9 = .ok (.aload_n 0, 1) := by decide +kernel
theorem dX3_steps_0 : decode cX3_steps 0 = .ok (.aload_n 0, 1) := by decide +kernel
theorem dX3_steps_1 : decode cX3_steps 1 = .ok (.iload_n 1, 1) := by decide +kernel
theorem dX3_steps_12 : decode cX3_steps 12 = .ok (.isub, 1) := by decide +kernel
theorem dX3_steps_13 : decode cX3_steps 13 = .ok (.istore_n 3, 1) := by decide +kernel
theorem dX3_steps_14 : decode cX3_steps 14 = .ok (.aload_n 0, 1) := by decide +kernel
theorem dX3_steps_15 : decode cX3_steps 15 = .ok (.iload_n 1, 1) := by decide +kernel
theorem dX3_steps_16 : decode cX3_steps 16 = .ok (.iconst 1, 1) := by decide +kernel
theorem dX3_steps_17 : decode cX3_steps 17 = .ok (.invokestatic 67, 3) := by decide +kernel
theorem dX3_steps_2 : decode cX3_steps 2 = .ok (.iconst 0, 1) := by decide +kernel
theorem dX3_steps_20 : decode cX3_steps 20 = .ok (.aload_n 0, 1) := by decide +kernel
theorem dX3_steps_21 : decode cX3_steps 21 = .ok (.iload_n 2, 1) := by decide +kernel
theorem dX3_steps_22 : decode cX3_steps 22 = .ok (.iconst 1, 1) := by decide +kernel
theorem dX3_steps_23 : decode cX3_steps 23 = .ok (.invokestatic 67, 3) := by decide +kernel
theorem dX3_steps_26 : decode cX3_steps 26 = .ok (.isub, 1) := by decide +kernel
theorem dX3_steps_27 : decode cX3_steps 27 = .ok (.istore 4, 2) := by decide +kernel
theorem dX3_steps_29 : decode cX3_steps 29 = .ok (.iload_n 3, 1) := by decide +kernel
theorem dX3_steps_3 : decode cX3_steps 3 = .ok (.invokestatic 67, 3) := by decide +kernel
theorem dX3_steps_30 : decode cX3_steps 30 = .ok (.invokestatic 70, 3) := by decide +kernel
theorem dX3_steps_33 : decode cX3_steps 33 = .ok (.iload 4, 2) := by decide +kernel
theorem dX3_steps_35 : decode cX3_steps 35 = .ok (.invokestatic 70, 3) := by decide +kernel
theorem dX3_steps_38 : decode cX3_steps 38 = .ok (.iadd, 1) := by decide +kernel
theorem dX3_steps_39 : decode cX3_steps 39 = .ok (.ireturn, 1) := by decide +kernel
theorem dX3_steps_6 : decode cX3_steps 6 = .ok (.aload_n 0, 1) := by decide +kernel
theorem dX3_steps_7 : decode cX3_steps 7 = .ok (.iload_n 2, 1) := by decide +kernel
theorem dX3_steps_8 : decode cX3_steps 8 = .ok (.iconst 0, 1) := by decide +kernel
theorem dX3_steps_9 : decode cX3_steps 9 = .ok (.invokestatic 67, 3) := by decide +kernel
theorem dX3_weigh_0 : decode cX3_weigh 0 = .ok (.iload_n 2, 1) := by decide +kernel
theorem dX3_weigh_1 : decode cX3_weigh 1 = .ok (.iconst 1, 1) := by decide +kernel
theorem dX3_weigh_10 : decode cX3_weigh 10 = .ok (.iconst 0, 1) := by decide +kernel
theorem dX3_weigh_101 : decode cX3_weigh 101 = .ok (.iload 7, 2) := by decide +kernel
theorem dX3_weigh_103 : decode cX3_weigh 103 = .ok (.ireturn, 1) := by decide +kernel
theorem dX3_weigh_11 : decode cX3_weigh 11 = .ok (.istore 6, 2) := by decide +kernel
theorem dX3_weigh_13 : decode cX3_weigh 13 = .ok (.iload 6, 2) := by decide +kernel
theorem dX3_weigh_15 : decode cX3_weigh 15 = .ok (.aload_n 1, 1) := by decide +kernel
theorem dX3_weigh_16 : decode cX3_weigh 16 = .ok (.getfield 17, 3) := by decide +kernel
theorem dX3_weigh_19 : decode cX3_weigh 19 = .ok (.if_icmp .ge 35, 3) := by decide +kernel
theorem dX3_weigh_2 : decode cX3_weigh 2 = .ok (.iload_n 3, 1) := by decide +kernel
theorem dX3_weigh_22 : decode cX3_weigh 22 = .ok (.iload 4, 2) := by decide +kernel
theorem dX3_weigh_24 : decode cX3_weigh 24 = .ok (.iload 6, 2) := by decide +kernel
theorem dX3_weigh_26 : decode cX3_weigh 26 = .ok (.ishr, 1) := by decide +kernel
theorem dX3_weigh_27 : decode cX3_weigh 27 = .ok (.iconst 1, 1) := by decide +kernel
theorem dX3_weigh_28 : decode cX3_weigh 28 = .ok (.iand, 1) := by decide +kernel
theorem dX3_weigh_29 : decode cX3_weigh 29 = .ok (.ifCond .eq 19, 3) := by decide +kernel
theorem dX3_weigh_3 : decode cX3_weigh 3 = .ok (.ishl, 1) := by decide +kernel
theorem dX3_weigh_32 : decode cX3_weigh 32 = .ok (.iload 5, 2) := by decide +kernel
theorem dX3_weigh_34 : decode cX3_weigh 34 = .ok (.aload_n 1, 1) := by decide +kernel
theorem dX3_weigh_35 : decode cX3_weigh 35 = .ok (.getfield 48, 3) := by decide +kernel
theorem dX3_weigh_38 : decode cX3_weigh 38 = .ok (.iconst 3, 1) := by decide +kernel
theorem dX3_weigh_39 : decode cX3_weigh 39 = .ok (.iload 6, 2) := by decide +kernel
theorem dX3_weigh_4 : decode cX3_weigh 4 = .ok (.ior, 1) := by decide +kernel
theorem dX3_weigh_41 : decode cX3_weigh 41 = .ok (.imul, 1) := by decide +kernel
theorem dX3_weigh_42 : decode cX3_weigh 42 = .ok (.iconst 1, 1) := by decide +kernel
theorem dX3_weigh_43 : decode cX3_weigh 43 = .ok (.iadd, 1) := by decide +kernel
theorem dX3_weigh_44 : decode cX3_weigh 44 = .ok (.iaload, 1) := by decide +kernel
theorem dX3_weigh_45 : decode cX3_weigh 45 = .ok (.iadd, 1) := by decide +kernel
theorem dX3_weigh_46 : decode cX3_weigh 46 = .ok (.istore 5, 2) := by decide +kernel
theorem dX3_weigh_48 : decode cX3_weigh 48 = .ok (.iinc 6 1, 3) := by decide +kernel
theorem dX3_weigh_5 : decode cX3_weigh 5 = .ok (.istore 4, 2) := by decide +kernel
theorem dX3_weigh_51 : decode cX3_weigh 51 = .ok (.goto (-38), 3) := by decide +kernel
theorem dX3_weigh_54 : decode cX3_weigh 54 = .ok (.iconst 3, 1) := by decide +kernel
theorem dX3_weigh_55 : decode cX3_weigh 55 = .ok (.iload_n 3, 1) := by decide +kernel
theorem dX3_weigh_56 : decode cX3_weigh 56 = .ok (.imul, 1) := by decide +kernel
theorem dX3_weigh_57 : decode cX3_weigh 57 = .ok (.istore 6, 2) := by decide +kernel
theorem dX3_weigh_59 : decode cX3_weigh 59 = .ok (.aload_n 1, 1) := by decide +kernel
theorem dX3_weigh_60 : decode cX3_weigh 60 = .ok (.getfield 48, 3) := by decide +kernel
theorem dX3_weigh_63 : decode cX3_weigh 63 = .ok (.iload 6, 2) := by decide +kernel
theorem dX3_weigh_65 : decode cX3_weigh 65 = .ok (.iaload, 1) := by decide +kernel
theorem dX3_weigh_66 : decode cX3_weigh 66 = .ok (.iload 5, 2) := by decide +kernel
theorem dX3_weigh_68 : decode cX3_weigh 68 = .ok (.imul, 1) := by decide +kernel
theorem dX3_weigh_69 : decode cX3_weigh 69 = .ok (.aload_n 0, 1) := by decide +kernel
theorem dX3_weigh_7 : decode cX3_weigh 7 = .ok (.iconst 0, 1) := by decide +kernel
theorem dX3_weigh_70 : decode cX3_weigh 70 = .ok (.getfield 11, 3) := by decide +kernel
theorem dX3_weigh_73 : decode cX3_weigh 73 = .ok (.iload 4, 2) := by decide +kernel
theorem dX3_weigh_75 : decode cX3_weigh 75 = .ok (.iaload, 1) := by decide +kernel
theorem dX3_weigh_76 : decode cX3_weigh 76 = .ok (.iadd, 1) := by decide +kernel
theorem dX3_weigh_77 : decode cX3_weigh 77 = .ok (.istore 7, 2) := by decide +kernel
theorem dX3_weigh_79 : decode cX3_weigh 79 = .ok (.iload 5, 2) := by decide +kernel
theorem dX3_weigh_8 : decode cX3_weigh 8 = .ok (.istore 5, 2) := by decide +kernel
theorem dX3_weigh_81 : decode cX3_weigh 81 = .ok (.aload_n 1, 1) := by decide +kernel
theorem dX3_weigh_82 : decode cX3_weigh 82 = .ok (.getfield 48, 3) := by decide +kernel
theorem dX3_weigh_85 : decode cX3_weigh 85 = .ok (.iload 6, 2) := by decide +kernel
theorem dX3_weigh_87 : decode cX3_weigh 87 = .ok (.iconst 2, 1) := by decide +kernel
theorem dX3_weigh_88 : decode cX3_weigh 88 = .ok (.iadd, 1) := by decide +kernel
theorem dX3_weigh_89 : decode cX3_weigh 89 = .ok (.iaload, 1) := by decide +kernel
theorem dX3_weigh_90 : decode cX3_weigh 90 = .ok (.if_icmp .le 11, 3) := by decide +kernel
theorem dX3_weigh_93 : decode cX3_weigh 93 = .ok (.iload 7, 2) := by decide +kernel
theorem dX3_weigh_95 : decode cX3_weigh 95 = .ok (.ldc 29, 2) := by decide +kernel
theorem dX3_weigh_97 : decode cX3_weigh 97 = .ok (.iadd, 1) := by decide +kernel
theorem dX3_weigh_98 : decode cX3_weigh 98 = .ok (.goto 5, 3) := by decide +kernel
def vs_o_weigh : List Cond := .code yX3_weigh cX3_weigh 8 (some .int) :: (([.fieldLink RX3 11 "KerbSplash$Orders" "best" "[I", .constant RX3 29 (iI 1000000)] : List Cond) ++ ((wsX40) ++ ((wsX30) ++ ([]))))
theorem gd_o_weigh : vs_o_weigh.all goodWord = true := gd_C (by decide +kernel) (gd_A (by decide +kernel) (gd_A (by decide +kernel) (gd_A (by decide +kernel) rfl)))
set_option maxHeartbeats 4000000 in
set_option maxRecDepth 100000 in
theorem o_weigh (l : Launch) (hl : l.stackTraces = false) (D : va_G) (cy : Nat → ClassId) (sa : Nat → Nat) (or_ be : Nat) (late lea ord : Int) (bf : Nat → Int32) (pa pt pd ps : Nat) (cars dips : Int) (df : Nat → Int32) (dn nx : Int) (sz : Nat) (hr_late : (-2147483648) ≤ late ∧ late ≤ 2147483647) (hr_lea : (-2147483648) ≤ lea ∧ lea ≤ 2147483647) (hr_ord : (-2147483648) ≤ ord ∧ ord ≤ 2147483647) (hr_cars : 0 ≤ cars ∧ cars ≤ 20) (hr_dips : 0 ≤ dips ∧ dips ≤ 9) (hr_dn : 0 ≤ dn ∧ dn ≤ 511) (hr_nx : 0 ≤ nx ∧ nx ≤ 8) : mI9 l yX3_weigh vs_o_weigh ({ frames := 0, cells := 0, slots := 0, locals := 0 }) D cy sa sz [vR or_, vR pa, vI dn, vI nx] [zO or_ 3 [vI late, vI lea, vI ord, vR be], zI be (cy 0) 512 bf, zO pa 4 [vI cars, vR pt, vI dips, vR pd, vR ps], zI pd (cy 0) 27 df] (fun (r : Int32) (u : SV) => r = iI (u.2.1 0) ∧ ((-2147483648) ≤ u.2.1 0 ∧ u.2.1 0 ≤ 2147483647)) (fun u : SV => [zO or_ 3 [vI late, vI lea, vI ord, vR be], zI be (cy 0) 512 bf, zO pa 4 [vI cars, vR pt, vI dips, vR pd, vR ps], zI pd (cy 0) 27 df]) 0 0 := by
  refine Met.ofW (cc := cX3_weigh) (maxL := 8) (ret := (some .int)) (by decide) rfl ?_
  intro p e s m args below meth c s₁ B hml hv
  obtain ⟨rfl, hsz, hP, hG, hD0, hT⟩ := hv
  have hx := B.exec
  have hb := B.bytes
  have hr := B.returns
  have hts := atoms_spec (ws := vs_o_weigh) B.pre
  have hown : s.vm.findClass RX3 = some m.cls := findClass_of_methodNamed B.named
  have hlocks := B.notSynchronized
  subst hsz
  have hD := hD0.self (sz := s.heap.size)
  generalize hAe : va_A [zO or_ 3 [vI late, vI lea, vI ord, vR be], zI be (cy 0) 512 bf, zO pa 4 [vI cars, vR pt, vI dips, vR pd, vR ps], zI pd (cy 0) 27 df] s.heap.size = A at hD hT ⊢
  have hA : ∀ q : Nat, s.heap.size ≤ q → A q := fun q h => by rw [← hAe]; exact Or.inr h
  have hS : va_S A s.heap s.heap [] := va_S.rf
  have hl0 := lv_entry ([vR or_, vR pa, vI dn, vI nx]) (n := 8) (Nat.le_of_ble_eq_true rfl)
  rw [lg_entry_eq]
  generalize (lg_sl ([vR or_, vR pa, vI dn, vI nx]) ++ List.replicate (8 - (lg_sl ([vR or_, vR pa, vI dn, vI nx])).length) Slot.unset).toArray = ls at hl0 ⊢
  have hlv : lv_has ls 8 [(0, vR or_), (1, vR pa), (2, vI dn), (3, vI nx)] := hl0
  have hi4 : ∀ w ∈ wsX40, w ∈ vs_o_weigh := fun w h => List.mem_cons_of_mem _ (List.mem_append_right _ (List.mem_append_left _ h))
  have lf11 := hts (.fieldLink RX3 11 "KerbSplash$Orders" "best" "[I") (List.mem_of_getElem? (i := 1) rfl)
  have hi3 : ∀ w ∈ wsX30, w ∈ vs_o_weigh := fun w h => List.mem_cons_of_mem _ (List.mem_append_right _ (List.mem_append_right _ (List.mem_append_left _ h)))
  have ld29 := hts (.constant RX3 29 (iI 1000000)) (List.mem_of_getElem? (i := 2) rfl)
  refine lv_iload_n hx hb dX3_weigh_0 rfl (lv_at hlv 2 rfl) ?_
  refine lv_iconst (v := iI 1) hx hb dX3_weigh_1 (by decide) ?_
  refine lv_iload_n hx hb dX3_weigh_2 rfl (lv_at hlv 3 rfl) ?_
  refine lv_ishl hx hb dX3_weigh_3 ?_
  refine lt_sh2 (n := 8) (M := 256) (by decide) (by decide) (by omega) (fun z_1 ez_1 lz_1 hz_1 => ?_)
  refine lv_ior hx hb dX3_weigh_4 ?_
  refine lt_o2 9 (M := 511) (by decide) (by omega) (by omega) (fun z_2 lz_2 hz_2 => ?_)
  refine lv_istore (lv' := [(4, vI z_2), (0, vR or_), (1, vR pa), (2, vI dn), (3, vI nx)]) hx hb dX3_weigh_5 hlv (by decide) rfl (fun ls hlv => ?_)
  refine lv_iconst (v := iI 0) hx hb dX3_weigh_7 (by decide) ?_
  refine lv_istore (lv' := [(5, vI 0), (4, vI z_2), (0, vR or_), (1, vR pa), (2, vI dn), (3, vI nx)]) hx hb dX3_weigh_8 hlv (by decide) rfl (fun ls hlv => ?_)
  refine lv_iconst (v := iI 0) hx hb dX3_weigh_10 (by decide) ?_
  refine lv_istore (lv' := [(6, vI 0), (5, vI 0), (4, vI z_2), (0, vR or_), (1, vR pa), (2, vI dn), (3, vI nx)]) hx hb dX3_weigh_11 hlv (by decide) rfl (fun ls hlv => ?_)
  refine (?_ : ∀ (fu : Nat) (q5 : Int) (q6 : Int) (H : Heap) (locs : List Loc) (ls : Array Slot), 9 - q6 < (fu : Int) → ((-2147483648) ≤ q5 ∧ q5 ≤ 2147483647) → (0 ≤ q6 ∧ q6 ≤ 9) → va_P D vwCl [zO or_ 3 [vI late, vI lea, vI ord, vR be], zI be (cy 0) 512 bf, zO pa 4 [vI cars, vR pt, vI dips, vR pd, vR ps], zI pd (cy 0) 27 df] H → va_D A [zO or_ 3 [vI late, vI lea, vI ord, vR be], zI be (cy 0) 512 bf, zO pa 4 [vI cars, vR pt, vI dips, vR pd, vR ps], zI pd (cy 0) 27 df] → va_S A s.heap H locs → lv_has ls 8 [(6, vI q6), (5, vI q5), (4, vI z_2), (0, vR or_), (1, vR pa), (2, vI dn), (3, vI nx)] → W p l e _ s m _ below meth c H locs _ _ _ (F0 m 13 ls [])) (((9 - 0) + 1 : Int)).toNat 0 0 _ _ _ (by omega) (by show ((-2147483648) : Int) ≤ 0 ∧ (0 : Int) ≤ 2147483647; decide) (by show (0 : Int) ≤ 0 ∧ (0 : Int) ≤ 9; decide)  hP hD hS hlv
  clear hP hD hS hlv
  intro fu
  induction fu with
  | zero => intro q5 q6 H locs ls hm13 hl13_0 hl13_1  hP hD hS hlv; omega
  | succ fu ih13 =>
    intro q5 q6 H locs ls hm13 hl13_0 hl13_1  hP hD hS hlv
    refine lv_iload hx hb dX3_weigh_13 (lv_at hlv 0 rfl) ?_
    refine lv_aload_n hx hb dX3_weigh_15 rfl (lv_at hlv 4 rfl) ?_
    refine va_getN (D := D) (ci := 4) (v := vI dips) (C := RX4) (T := TX4) (N := 5) hx hb hts hi4 hown hG.1 hP 2 rfl rfl 2 (by decide) (va_Nw.use rfl (nF_Orders_17 hG.2.1)) (fun _ h9 => h9) rfl dX3_weigh_16 ?_
    refine ir_ge (tgt := 54) hx hb dX3_weigh_19 (by decide) (by first | exact rgw hl13_1 (by decide) (by decide) | omega) (by first | exact rgw hr_dips (by decide) (by decide) | omega) (fun c_3 => ?_) (fun c_3 => ?_)
    · refine lv_iconst (v := iI 3) hx hb dX3_weigh_54 (by decide) ?_
      refine lv_iload_n hx hb dX3_weigh_55 rfl (lv_at hlv 6 rfl) ?_
      refine lv_imul hx hb dX3_weigh_56 ?_
      refine lt_e (e0 := 3 * nx) (Int32.ofInt_mul _ _).symm (fun z_4 hz_4 => ?_)
      refine lv_istore (lv' := [(6, vI z_4), (5, vI q5), (4, vI z_2), (0, vR or_), (1, vR pa), (2, vI dn), (3, vI nx)]) hx hb dX3_weigh_57 hlv (by decide) rfl (fun ls hlv => ?_)
      refine lv_aload_n hx hb dX3_weigh_59 rfl (lv_at hlv 4 rfl) ?_
      refine va_getN (D := D) (ci := 4) (v := vR pd) (C := RX4) (T := TX4) (N := 5) hx hb hts hi4 hown hG.1 hP 2 rfl rfl 3 (by decide) (va_Nw.use rfl (nF_Orders_48 hG.2.1)) (fun _ h9 => h9) rfl dX3_weigh_60 ?_
      refine lv_iload hx hb dX3_weigh_63 (lv_at hlv 0 rfl) ?_
      refine va_iald hx hb hG.1 hP 3 0 rfl rfl (iI_in (by omega) (by decide)) dX3_weigh_65 ?_
      refine lt_z (fun z_5 ez_5 lz_5 hz_5 => ?_)
      refine lv_iload hx hb dX3_weigh_66 (lv_at hlv 1 rfl) ?_
      refine lv_imul hx hb dX3_weigh_68 ?_
      refine lt_z (fun z_6 ez_6 lz_6 hz_6 => ?_)
      refine lv_aload_n hx hb dX3_weigh_69 rfl (lv_at hlv 3 rfl) ?_
      refine va_get (D := D) (ci := 3) (v := vR be) (C := RX3) (T := TX3) (N := 4) hx hb hts hi3 hown hG.1 hP 0 rfl rfl 3 (by decide) lf11 (fun _ h9 => h9) rfl dX3_weigh_70 ?_
      refine lv_iload hx hb dX3_weigh_73 (lv_at hlv 2 rfl) ?_
      refine va_iald hx hb hG.1 hP 1 0 rfl rfl (iI_in (by omega) (by decide)) dX3_weigh_75 ?_
      refine lt_z (fun z_7 ez_7 lz_7 hz_7 => ?_)
      refine lv_iadd hx hb dX3_weigh_76 ?_
      refine lt_z (fun z_8 ez_8 lz_8 hz_8 => ?_)
      refine lv_istore (lv' := [(7, vI z_8), (6, vI z_4), (5, vI q5), (4, vI z_2), (0, vR or_), (1, vR pa), (2, vI dn), (3, vI nx)]) hx hb dX3_weigh_77 hlv (by decide) rfl (fun ls hlv => ?_)
      refine lv_iload hx hb dX3_weigh_79 (lv_at hlv 2 rfl) ?_
      refine lv_aload_n hx hb dX3_weigh_81 rfl (lv_at hlv 5 rfl) ?_
      refine va_getN (D := D) (ci := 4) (v := vR pd) (C := RX4) (T := TX4) (N := 5) hx hb hts hi4 hown hG.1 hP 2 rfl rfl 3 (by decide) (va_Nw.use rfl (nF_Orders_48 hG.2.1)) (fun _ h9 => h9) rfl dX3_weigh_82 ?_
      refine lv_iload hx hb dX3_weigh_85 (lv_at hlv 1 rfl) ?_
      refine lv_iconst (v := iI 2) hx hb dX3_weigh_87 (by decide) ?_
      refine lv_iadd hx hb dX3_weigh_88 ?_
      refine lt_e (e0 := z_4 + 2) (Int32.ofInt_add _ _).symm (fun z_9 hz_9 => ?_)
      refine va_iald hx hb hG.1 hP 3 0 rfl rfl (iI_in (by omega) (by decide)) dX3_weigh_89 ?_
      refine lt_z (fun z_10 ez_10 lz_10 hz_10 => ?_)
      refine ir_le (tgt := 101) hx hb dX3_weigh_90 (by decide) (by first | exact hl13_0 | omega) (by omega) (fun c_11 => ?_) (fun c_11 => ?_)
      · refine lv_iload hx hb dX3_weigh_101 (lv_at hlv 0 rfl) ?_
        refine W.widen (k := 0) (n := 0) (Nat.le_of_ble_eq_true rfl) (Nat.le_of_ble_eq_true rfl) ?_
        exact W.iret (v := iI z_8) hx hb hr (fun t ht hW => ⟨⟨iI z_8, ((fun k => ([] : List Nat).getD k 0), (fun k => ([z_8] : List Int).getD k 0), (fun k => ([] : List (Nat → Int32)).getD k (fun _ => 0))), rfl, ⟨rfl, (by show ((-2147483648) ≤ z_8 ∧ z_8 ≤ 2147483647); omega)⟩, at9 ht hP hD [0, 1, 2, 3] (by decide +kernel) rfl⟩, hS.F ht⟩) hS.2.2 dX3_weigh_103
      · refine lv_iload hx hb dX3_weigh_93 (lv_at hlv 0 rfl) ?_
        refine lv_ldc (v := iI 1000000) hx hb hown ld29 dX3_weigh_95 ?_
        refine lv_iadd hx hb dX3_weigh_97 ?_
        refine lt_z (fun z_12 ez_12 lz_12 hz_12 => ?_)
        refine lv_goto (tgt := 103) hx hb dX3_weigh_98 (by decide) ?_
        refine W.widen (k := 0) (n := 0) (Nat.le_of_ble_eq_true rfl) (Nat.le_of_ble_eq_true rfl) ?_
        exact W.iret (v := iI z_12) hx hb hr (fun t ht hW => ⟨⟨iI z_12, ((fun k => ([] : List Nat).getD k 0), (fun k => ([z_12] : List Int).getD k 0), (fun k => ([] : List (Nat → Int32)).getD k (fun _ => 0))), rfl, ⟨rfl, (by show ((-2147483648) ≤ z_12 ∧ z_12 ≤ 2147483647); omega)⟩, at9 ht hP hD [0, 1, 2, 3] (by decide +kernel) rfl⟩, hS.F ht⟩) hS.2.2 dX3_weigh_103
    · refine lv_iload hx hb dX3_weigh_22 (lv_at hlv 2 rfl) ?_
      refine lv_iload hx hb dX3_weigh_24 (lv_at hlv 0 rfl) ?_
      refine lv_ishr hx hb dX3_weigh_26 ?_
      refine lt_z (fun z_13 ez_13 lz_13 hz_13 => ?_)
      refine lv_iconst (v := iI 1) hx hb dX3_weigh_27 (by decide) ?_
      refine lv_iand hx hb dX3_weigh_28 ?_
      refine lt_aE 1 (by decide) (by decide) (hi := 1) (by decide) (fun z_14 ez_14 lz_14 hz_14 => ?_)
      refine iz_eq (tgt := 48) hx hb dX3_weigh_29 (by decide) (by omega) (fun c_15 => ?_) (fun c_15 => ?_)
      · obtain ⟨z_16, hz_16⟩ : ∃ z : Int, z = q6 + 1 := ⟨_, rfl⟩
        refine lv_iinc (v := iI z_16) (lv' := [(6, vI z_16), (5, vI q5), (4, vI z_2), (0, vR or_), (1, vR pa), (2, vI dn), (3, vI nx)]) hx hb dX3_weigh_48 hlv (k := 0) rfl (by rw [hz_16]; exact (Int32.ofInt_add _ _).symm) (by decide) rfl (fun ls hlv => ?_)
        refine lv_goto (tgt := 13) hx hb dX3_weigh_51 (by decide) ?_
        exact ih13 q5 z_16 H locs ls (by omega) (by first | exact hl13_0 | omega) (by omega)  (hP.sub [0, 1, 2, 3] rfl) (hD.sub [0, 1, 2, 3] (by decide) rfl) hS (lv_sub hlv [0, 1, 2, 3, 4, 5, 6] rfl)
      · refine lv_iload hx hb dX3_weigh_32 (lv_at hlv 1 rfl) ?_
        refine lv_aload_n hx hb dX3_weigh_34 rfl (lv_at hlv 4 rfl) ?_
        refine va_getN (D := D) (ci := 4) (v := vR pd) (C := RX4) (T := TX4) (N := 5) hx hb hts hi4 hown hG.1 hP 2 rfl rfl 3 (by decide) (va_Nw.use rfl (nF_Orders_48 hG.2.1)) (fun _ h9 => h9) rfl dX3_weigh_35 ?_
        refine lv_iconst (v := iI 3) hx hb dX3_weigh_38 (by decide) ?_
        refine lv_iload hx hb dX3_weigh_39 (lv_at hlv 0 rfl) ?_
        refine lv_imul hx hb dX3_weigh_41 ?_
        refine lt_e (e0 := 3 * q6) (Int32.ofInt_mul _ _).symm (fun z_17 hz_17 => ?_)
        refine lv_iconst (v := iI 1) hx hb dX3_weigh_42 (by decide) ?_
        refine lv_iadd hx hb dX3_weigh_43 ?_
        refine lt_e (e0 := z_17 + 1) (Int32.ofInt_add _ _).symm (fun z_18 hz_18 => ?_)
        refine va_iald hx hb hG.1 hP 3 0 rfl rfl (iI_in (by omega) (by decide)) dX3_weigh_44 ?_
        refine lt_z (fun z_19 ez_19 lz_19 hz_19 => ?_)
        refine lv_iadd hx hb dX3_weigh_45 ?_
        refine lt_z (fun z_20 ez_20 lz_20 hz_20 => ?_)
        refine lv_istore (lv' := [(5, vI z_20), (6, vI q6), (4, vI z_2), (0, vR or_), (1, vR pa), (2, vI dn), (3, vI nx)]) hx hb dX3_weigh_46 hlv (by decide) rfl (fun ls hlv => ?_)
        obtain ⟨z_21, hz_21⟩ : ∃ z : Int, z = q6 + 1 := ⟨_, rfl⟩
        refine lv_iinc (v := iI z_21) (lv' := [(6, vI z_21), (5, vI z_20), (4, vI z_2), (0, vR or_), (1, vR pa), (2, vI dn), (3, vI nx)]) hx hb dX3_weigh_48 hlv (k := 1) rfl (by rw [hz_21]; exact (Int32.ofInt_add _ _).symm) (by decide) rfl (fun ls hlv => ?_)
        refine lv_goto (tgt := 13) hx hb dX3_weigh_51 (by decide) ?_
        exact ih13 z_20 z_21 H locs ls (by omega) (by omega) (by omega)  (hP.sub [0, 1, 2, 3] rfl) (hD.sub [0, 1, 2, 3] (by decide) rfl) hS (lv_sub hlv [0, 1, 2, 3, 4, 5, 6] rfl)
def vs_o_bestNext : List Cond := .code yX3_bestNext cX3_bestNext 7 (some .int) :: (([.constant RX3 47 (iI 2147483647)] : List Cond) ++ ((wsX40) ++ ((wsV RX3 25 RX3 yX3_weigh vs_o_weigh) ++ ([]))))
theorem gd_o_bestNext : vs_o_bestNext.all goodWord = true := gd_C (by decide +kernel) (gd_A (by decide +kernel) (gd_A (by decide +kernel) (gd_A (gd_V gd_o_weigh (by decide +kernel)) rfl)))
set_option maxHeartbeats 4000000 in
set_option maxRecDepth 100000 in
theorem o_bestNext (l : Launch) (hl : l.stackTraces = false) (D : va_G) (cy : Nat → ClassId) (sa : Nat → Nat) (or_ be : Nat) (late lea ord : Int) (bf : Nat → Int32) (pa pt pd ps : Nat) (cars dips : Int) (df : Nat → Int32) (dn : Int) (sz : Nat) (hr_late : (-2147483648) ≤ late ∧ late ≤ 2147483647) (hr_lea : (-2147483648) ≤ lea ∧ lea ≤ 2147483647) (hr_ord : (-2147483648) ≤ ord ∧ ord ≤ 2147483647) (hr_cars : 0 ≤ cars ∧ cars ≤ 20) (hr_dips : 0 ≤ dips ∧ dips ≤ 9) (hr_dn : 0 ≤ dn ∧ dn ≤ 511) : mI9 l yX3_bestNext vs_o_bestNext ({ frames := 1, cells := 0, slots := 0, locals := 27 }) D cy sa sz [vR or_, vR pa, vI dn] [zO or_ 3 [vI late, vI lea, vI ord, vR be], zI be (cy 0) 512 bf, zO pa 4 [vI cars, vR pt, vI dips, vR pd, vR ps], zI pd (cy 0) 27 df] (fun (r : Int32) (u : SV) => r = iI (u.2.1 0) ∧ ((-1) ≤ u.2.1 0 ∧ u.2.1 0 ≤ 8)) (fun u : SV => [zO or_ 3 [vI late, vI lea, vI ord, vR be], zI be (cy 0) 512 bf, zO pa 4 [vI cars, vR pt, vI dips, vR pd, vR ps], zI pd (cy 0) 27 df]) 0 0 := by
  refine Met.ofW (cc := cX3_bestNext) (maxL := 7) (ret := (some .int)) (by decide) rfl ?_
  intro p e s m args below meth c s₁ B hml hv
  obtain ⟨rfl, hsz, hP, hG, hD0, hT⟩ := hv
  have hx := B.exec
  have hb := B.bytes
  have hr := B.returns
  have hts := atoms_spec (ws := vs_o_bestNext) B.pre
  have hown : s.vm.findClass RX3 = some m.cls := findClass_of_methodNamed B.named
  have hlocks := B.notSynchronized
  subst hsz
  have hD := hD0.self (sz := s.heap.size)
  generalize hAe : va_A [zO or_ 3 [vI late, vI lea, vI ord, vR be], zI be (cy 0) 512 bf, zO pa 4 [vI cars, vR pt, vI dips, vR pd, vR ps], zI pd (cy 0) 27 df] s.heap.size = A at hD hT ⊢
  have hA : ∀ q : Nat, s.heap.size ≤ q → A q := fun q h => by rw [← hAe]; exact Or.inr h
  have hS : va_S A s.heap s.heap [] := va_S.rf
  have hl0 := lv_entry ([vR or_, vR pa, vI dn]) (n := 7) (Nat.le_of_ble_eq_true rfl)
  rw [lg_entry_eq]
  generalize (lg_sl ([vR or_, vR pa, vI dn]) ++ List.replicate (7 - (lg_sl ([vR or_, vR pa, vI dn])).length) Slot.unset).toArray = ls at hl0 ⊢
  have hlv : lv_has ls 7 [(0, vR or_), (1, vR pa), (2, vI dn)] := hl0
  have ld47 := hts (.constant RX3 47 (iI 2147483647)) (List.mem_of_getElem? (i := 1) rfl)
  have hi4 : ∀ w ∈ wsX40, w ∈ vs_o_bestNext := fun w h => List.mem_cons_of_mem _ (List.mem_append_right _ (List.mem_append_left _ h))
  have gg_1 : GoodIn vs_o_bestNext (wsV RX3 25 RX3 yX3_weigh vs_o_weigh) := goodIn_sub (fun w h => List.mem_cons_of_mem _ (List.mem_append_right _ (List.mem_append_right _ (List.mem_append_left _ h)))) (gd_V gd_o_weigh (by decide +kernel))
  refine lv_iconst (v := iI (-1)) hx hb dX3_bestNext_0 (by decide) ?_
  refine lv_istore_n (lv' := [(3, vI (-1)), (0, vR or_), (1, vR pa), (2, vI dn)]) hx hb dX3_bestNext_1 rfl hlv (by decide) rfl (fun ls hlv => ?_)
  refine lv_ldc (v := iI 2147483647) hx hb hown ld47 dX3_bestNext_2 ?_
  refine lv_istore (lv' := [(4, vI 2147483647), (3, vI (-1)), (0, vR or_), (1, vR pa), (2, vI dn)]) hx hb dX3_bestNext_4 hlv (by decide) rfl (fun ls hlv => ?_)
  refine lv_iconst (v := iI 0) hx hb dX3_bestNext_6 (by decide) ?_
  refine lv_istore (lv' := [(5, vI 0), (4, vI 2147483647), (3, vI (-1)), (0, vR or_), (1, vR pa), (2, vI dn)]) hx hb dX3_bestNext_7 hlv (by decide) rfl (fun ls hlv => ?_)
  refine (?_ : ∀ (fu : Nat) (q3 : Int) (q4 : Int) (q5 : Int) (H : Heap) (locs : List Loc) (ls : Array Slot), 9 - q5 < (fu : Int) → ((-1) ≤ q3 ∧ q3 ≤ 8) → ((-2147483648) ≤ q4 ∧ q4 ≤ 2147483647) → (0 ≤ q5 ∧ q5 ≤ 9) → va_P D vwCl [zO or_ 3 [vI late, vI lea, vI ord, vR be], zI be (cy 0) 512 bf, zO pa 4 [vI cars, vR pt, vI dips, vR pd, vR ps], zI pd (cy 0) 27 df] H → va_D A [zO or_ 3 [vI late, vI lea, vI ord, vR be], zI be (cy 0) 512 bf, zO pa 4 [vI cars, vR pt, vI dips, vR pd, vR ps], zI pd (cy 0) 27 df] → va_S A s.heap H locs → lv_has ls 7 [(5, vI q5), (4, vI q4), (3, vI q3), (0, vR or_), (1, vR pa), (2, vI dn)] → W p l e _ s m _ below meth c H locs _ _ _ (F0 m 9 ls [])) (((9 - 0) + 1 : Int)).toNat (-1) 2147483647 0 _ _ _ (by omega) (by show ((-1) : Int) ≤ (-1) ∧ ((-1) : Int) ≤ 8; decide) (by show ((-2147483648) : Int) ≤ 2147483647 ∧ (2147483647 : Int) ≤ 2147483647; decide) (by show (0 : Int) ≤ 0 ∧ (0 : Int) ≤ 9; decide)  hP hD hS hlv
  clear hP hD hS hlv
  intro fu
  induction fu with
  | zero => intro q3 q4 q5 H locs ls hm9 hl9_0 hl9_1 hl9_2  hP hD hS hlv; omega
  | succ fu ih9 =>
    intro q3 q4 q5 H locs ls hm9 hl9_0 hl9_1 hl9_2  hP hD hS hlv
    refine lv_iload hx hb dX3_bestNext_9 (lv_at hlv 0 rfl) ?_
    refine lv_aload_n hx hb dX3_bestNext_11 rfl (lv_at hlv 4 rfl) ?_
    refine va_getN (D := D) (ci := 4) (v := vI dips) (C := RX4) (T := TX4) (N := 5) hx hb hts hi4 hown hG.1 hP 2 rfl rfl 2 (by decide) (va_Nw.use rfl (nF_Orders_17 hG.2.1)) (fun _ h9 => h9) rfl dX3_bestNext_12 ?_
    refine ir_ge (tgt := 57) hx hb dX3_bestNext_15 (by decide) (by first | exact rgw hl9_2 (by decide) (by decide) | omega) (by first | exact rgw hr_dips (by decide) (by decide) | omega) (fun c_1 => ?_) (fun c_1 => ?_)
    · refine lv_iload_n hx hb dX3_bestNext_57 rfl (lv_at hlv 2 rfl) ?_
      refine W.widen (k := 0) (n := 0) (Nat.le_of_ble_eq_true rfl) (Nat.le_of_ble_eq_true rfl) ?_
      exact W.iret (v := iI q3) hx hb hr (fun t ht hW => ⟨⟨iI q3, ((fun k => ([] : List Nat).getD k 0), (fun k => ([q3] : List Int).getD k 0), (fun k => ([] : List (Nat → Int32)).getD k (fun _ => 0))), rfl, ⟨rfl, (by show ((-1) ≤ q3 ∧ q3 ≤ 8); first | exact hl9_0 | omega)⟩, at9 ht hP hD [0, 1, 2, 3] (by decide +kernel) rfl⟩, hS.F ht⟩) hS.2.2 dX3_bestNext_58
    · refine lv_iload_n hx hb dX3_bestNext_18 rfl (lv_at hlv 5 rfl) ?_
      refine lv_iload hx hb dX3_bestNext_19 (lv_at hlv 0 rfl) ?_
      refine lv_ishr hx hb dX3_bestNext_21 ?_
      refine lt_z (fun z_2 ez_2 lz_2 hz_2 => ?_)
      refine lv_iconst (v := iI 1) hx hb dX3_bestNext_22 (by decide) ?_
      refine lv_iand hx hb dX3_bestNext_23 ?_
      refine lt_aE 1 (by decide) (by decide) (hi := 1) (by decide) (fun z_3 ez_3 lz_3 hz_3 => ?_)
      refine iz_ne (tgt := 51) hx hb dX3_bestNext_24 (by decide) (by omega) (fun c_4 => ?_) (fun c_4 => ?_)
      · obtain ⟨z_5, hz_5⟩ : ∃ z : Int, z = q5 + 1 := ⟨_, rfl⟩
        refine lv_iinc (v := iI z_5) (lv' := [(5, vI z_5), (4, vI q4), (3, vI q3), (0, vR or_), (1, vR pa), (2, vI dn)]) hx hb dX3_bestNext_51 hlv (k := 0) rfl (by rw [hz_5]; exact (Int32.ofInt_add _ _).symm) (by decide) rfl (fun ls hlv => ?_)
        refine lv_goto (tgt := 9) hx hb dX3_bestNext_54 (by decide) ?_
        exact ih9 q3 q4 z_5 H locs ls (by omega) (by first | exact hl9_0 | omega) (by first | exact hl9_1 | omega) (by omega)  (hP.sub [0, 1, 2, 3] rfl) (hD.sub [0, 1, 2, 3] (by decide) rfl) hS (lv_sub hlv [0, 1, 2, 3, 4, 5] rfl)
      · refine lv_aload_n hx hb dX3_bestNext_27 rfl (lv_at hlv 3 rfl) ?_
        refine lv_aload_n hx hb dX3_bestNext_28 rfl (lv_at hlv 4 rfl) ?_
        refine lv_iload_n hx hb dX3_bestNext_29 rfl (lv_at hlv 5 rfl) ?_
        refine lv_iload hx hb dX3_bestNext_30 (lv_at hlv 0 rfl) ?_
        refine cjr_i [false, false, false, false] (fun pre9 => (va_runV (As := [vR pa, vI dn, vI q5]) (rest := []) ⟨hx, hb, hml, hown, hts⟩ (o_weigh l hl D cy sa or_ be late lea ord bf pa pt pd ps cars dips df dn q5 H.size (by first | exact hr_late | omega) (by first | exact hr_lea | omega) (by first | exact hr_ord | omega) (by first | exact hr_cars | omega) (by first | exact hr_dips | omega) (by first | exact hr_dn | omega) (by omega)) (cwV 3 hts gg_1 rfl rfl rfl (by decide +kernel) ⟨Nat.le_of_ble_eq_true rfl, Nat.le_of_ble_eq_true rfl⟩) ⟨pcW.blind, (va_recv hG.1 hP (ci := 3) (q0 := 0) rfl rfl), pre9⟩ rfl rfl hlv.1 rfl (lv_room (Nat.le_of_ble_eq_true rfl)) dX3_bestNext_32 ⟨Nat.le_of_ble_eq_true rfl, Nat.le_of_ble_eq_true rfl⟩)) hP hD hS hA hG hT [0, 1, 2, 3] rfl (by decide +kernel) (fun r1 u1 H locs hw1 hq9 hS => ?_)
        obtain ⟨rfl, hq1_1⟩ := hw1
        obtain ⟨hP, hD⟩ := pd9 [zO or_ 3 [vI late, vI lea, vI ord, vR be], zI be (cy 0) 512 bf, zO pa 4 [vI cars, vR pt, vI dips, vR pd, vR ps], zI pd (cy 0) 27 df] hq9
        refine lv_istore (lv' := [(6, vI (u1.2.1 0)), (5, vI q5), (4, vI q4), (3, vI q3), (0, vR or_), (1, vR pa), (2, vI dn)]) hx hb dX3_bestNext_35 hlv (by decide) rfl (fun ls hlv => ?_)
        refine lv_iload hx hb dX3_bestNext_37 (lv_at hlv 0 rfl) ?_
        refine lv_iload hx hb dX3_bestNext_39 (lv_at hlv 2 rfl) ?_
        refine ir_ge (tgt := 51) hx hb dX3_bestNext_41 (by decide) (by first | exact hq1_1 | omega) (by first | exact hl9_1 | omega) (fun c_6 => ?_) (fun c_6 => ?_)
        · obtain ⟨z_7, hz_7⟩ : ∃ z : Int, z = q5 + 1 := ⟨_, rfl⟩
          refine lv_iinc (v := iI z_7) (lv' := [(5, vI z_7), (6, vI (u1.2.1 0)), (4, vI q4), (3, vI q3), (0, vR or_), (1, vR pa), (2, vI dn)]) hx hb dX3_bestNext_51 hlv (k := 1) rfl (by rw [hz_7]; exact (Int32.ofInt_add _ _).symm) (by decide) rfl (fun ls hlv => ?_)
          refine lv_goto (tgt := 9) hx hb dX3_bestNext_54 (by decide) ?_
          exact ih9 q3 q4 z_7 H locs ls (by omega) (by first | exact hl9_0 | omega) (by first | exact hl9_1 | omega) (by omega)  (hP.sub [0, 1, 2, 3] rfl) (hD.sub [0, 1, 2, 3] (by decide) rfl) hS (lv_sub hlv [0, 2, 3, 4, 5, 6] rfl)
        · refine lv_iload hx hb dX3_bestNext_44 (lv_at hlv 0 rfl) ?_
          refine lv_istore (lv' := [(4, vI (u1.2.1 0)), (6, vI (u1.2.1 0)), (5, vI q5), (3, vI q3), (0, vR or_), (1, vR pa), (2, vI dn)]) hx hb dX3_bestNext_46 hlv (by decide) rfl (fun ls hlv => ?_)
          refine lv_iload hx hb dX3_bestNext_48 (lv_at hlv 2 rfl) ?_
          refine lv_istore_n (lv' := [(3, vI q5), (4, vI (u1.2.1 0)), (6, vI (u1.2.1 0)), (5, vI q5), (0, vR or_), (1, vR pa), (2, vI dn)]) hx hb dX3_bestNext_50 rfl hlv (by decide) rfl (fun ls hlv => ?_)
          obtain ⟨z_8, hz_8⟩ : ∃ z : Int, z = q5 + 1 := ⟨_, rfl⟩
          refine lv_iinc (v := iI z_8) (lv' := [(5, vI z_8), (3, vI q5), (4, vI (u1.2.1 0)), (6, vI (u1.2.1 0)), (0, vR or_), (1, vR pa), (2, vI dn)]) hx hb dX3_bestNext_51 hlv (k := 3) rfl (by rw [hz_8]; exact (Int32.ofInt_add _ _).symm) (by decide) rfl (fun ls hlv => ?_)
          refine lv_goto (tgt := 9) hx hb dX3_bestNext_54 (by decide) ?_
          exact ih9 q5 (u1.2.1 0) z_8 H locs ls (by omega) (by omega) (by first | exact hq1_1 | omega) (by omega)  (hP.sub [0, 1, 2, 3] rfl) (hD.sub [0, 1, 2, 3] (by decide) rfl) hS (lv_sub hlv [0, 2, 1, 4, 5, 6] rfl)
def vs_o_first : List Cond := .code yX3_findFirst cX3_findFirst 6 none :: (([.fieldLink RX3 11 "KerbSplash$Orders" "best" "[I", .constant RX3 29 (iI 1000000), .fieldLink RX3 30 "KerbSplash$Orders" "late" "I", .fieldLink RX3 33 "KerbSplash$Orders" "least" "I", .fieldLink RX3 36 "KerbSplash$Orders" "order" "I", .methodLink RX3 39 Lib.Math.max.name, .static Lib.Math.max.name, .initialized "java/lang/Math", .code Lib.Math.max.name Lib.Math.max.code 2 (some .int)] : List Cond) ++ ((wsX40) ++ ((wsX30) ++ ((wsV RX3 21 RX3 yX3_bestNext vs_o_bestNext) ++ ((wsV RX3 25 RX3 yX3_weigh vs_o_weigh) ++ ([]))))))
theorem gd_o_first : vs_o_first.all goodWord = true := gd_C (by decide +kernel) (gd_A (by decide +kernel) (gd_A (by decide +kernel) (gd_A (by decide +kernel) (gd_A (gd_V gd_o_bestNext (by decide +kernel)) (gd_A (gd_V gd_o_weigh (by decide +kernel)) rfl)))))
set_option maxHeartbeats 4000000 in
set_option maxRecDepth 100000 in
theorem o_first (l : Launch) (hl : l.stackTraces = false) (D : va_G) (cy : Nat → ClassId) (sa : Nat → Nat) (or_ be : Nat) (late lea ord : Int) (bf : Nat → Int32) (pa pt pd ps : Nat) (cars dips : Int) (df : Nat → Int32) (sz : Nat) (hr_late : (-2147483648) ≤ late ∧ late ≤ 2147483647) (hr_lea : (-2147483648) ≤ lea ∧ lea ≤ 2147483647) (hr_ord : (-2147483648) ≤ ord ∧ ord ≤ 2147483647) (hr_cars : 0 ≤ cars ∧ cars ≤ 20) (hr_dips : 0 ≤ dips ∧ dips ≤ 9) : mV9 l yX3_findFirst vs_o_first ({ frames := 2, cells := 0, slots := 0, locals := 53 }) D cy sa sz [vR or_, vR pa] [zO or_ 3 [vI late, vI lea, vI ord, vR be], zI be (cy 0) 512 bf, zO pa 4 [vI cars, vR pt, vI dips, vR pd, vR ps], zI pd (cy 0) 27 df] (fun u : SV => ((-2147483648) ≤ u.2.1 0 ∧ u.2.1 0 ≤ 2147483647) ∧ ((-2147483648) ≤ u.2.1 1 ∧ u.2.1 1 ≤ 2147483647) ∧ ((-2147483648) ≤ u.2.1 2 ∧ u.2.1 2 ≤ 2147483647)) (fun u : SV => [zO or_ 3 [vI (u.2.1 0), vI (u.2.1 1), vI (u.2.1 2), vR be], zI be (cy 0) 512 (u.2.2 0), zO pa 4 [vI cars, vR pt, vI dips, vR pd, vR ps], zI pd (cy 0) 27 df]) 0 0 := by
  refine Met.ofW (cc := cX3_findFirst) (maxL := 6) (ret := none) (by decide) rfl ?_
  intro p e s m args below meth c s₁ B hml hv
  obtain ⟨rfl, hsz, hP, hG, hD0, hT⟩ := hv
  have hx := B.exec
  have hb := B.bytes
  have hr := B.returns
  have hts := atoms_spec (ws := vs_o_first) B.pre
  have hown : s.vm.findClass RX3 = some m.cls := findClass_of_methodNamed B.named
  have hlocks := B.notSynchronized
  subst hsz
  have hD := hD0.self (sz := s.heap.size)
  generalize hAe : va_A [zO or_ 3 [vI late, vI lea, vI ord, vR be], zI be (cy 0) 512 bf, zO pa 4 [vI cars, vR pt, vI dips, vR pd, vR ps], zI pd (cy 0) 27 df] s.heap.size = A at hD hT ⊢
  have hA : ∀ q : Nat, s.heap.size ≤ q → A q := fun q h => by rw [← hAe]; exact Or.inr h
  have hS : va_S A s.heap s.heap [] := va_S.rf
  have hl0 := lv_entry ([vR or_, vR pa]) (n := 6) (Nat.le_of_ble_eq_true rfl)
  rw [lg_entry_eq]
  generalize (lg_sl ([vR or_, vR pa]) ++ List.replicate (6 - (lg_sl ([vR or_, vR pa])).length) Slot.unset).toArray = ls at hl0 ⊢
  have hlv : lv_has ls 6 [(0, vR or_), (1, vR pa)] := hl0
  have hi4 : ∀ w ∈ wsX40, w ∈ vs_o_first := fun w h => List.mem_cons_of_mem _ (List.mem_append_right _ (List.mem_append_left _ h))
  have lf11 := hts (.fieldLink RX3 11 "KerbSplash$Orders" "best" "[I") (List.mem_of_getElem? (i := 1) rfl)
  have hi3 : ∀ w ∈ wsX30, w ∈ vs_o_first := fun w h => List.mem_cons_of_mem _ (List.mem_append_right _ (List.mem_append_right _ (List.mem_append_left _ h)))
  have ld29 := hts (.constant RX3 29 (iI 1000000)) (List.mem_of_getElem? (i := 2) rfl)
  have lf30 := hts (.fieldLink RX3 30 "KerbSplash$Orders" "late" "I") (List.mem_of_getElem? (i := 3) rfl)
  have lf33 := hts (.fieldLink RX3 33 "KerbSplash$Orders" "least" "I") (List.mem_of_getElem? (i := 4) rfl)
  have lf36 := hts (.fieldLink RX3 36 "KerbSplash$Orders" "order" "I") (List.mem_of_getElem? (i := 5) rfl)
  have gg_2 : GoodIn vs_o_first (wsV RX3 21 RX3 yX3_bestNext vs_o_bestNext) := goodIn_sub (fun w h => List.mem_cons_of_mem _ (List.mem_append_right _ (List.mem_append_right _ (List.mem_append_right _ (List.mem_append_left _ h))))) (gd_V gd_o_bestNext (by decide +kernel))
  have mk39 := hts (.methodLink RX3 39 Lib.Math.max.name) (List.mem_of_getElem? (i := 6) rfl)
  have ms_max := hts (.static Lib.Math.max.name) (List.mem_of_getElem? (i := 7) rfl)
  have mi_ := hts (.initialized "java/lang/Math") (List.mem_of_getElem? (i := 8) rfl)
  have mc_max := hts (.code Lib.Math.max.name Lib.Math.max.code 2 (some .int)) (List.mem_of_getElem? (i := 9) rfl)
  have gg_3 : GoodIn vs_o_first (wsV RX3 25 RX3 yX3_weigh vs_o_weigh) := goodIn_sub (fun w h => List.mem_cons_of_mem _ (List.mem_append_right _ (List.mem_append_right _ (List.mem_append_right _ (List.mem_append_right _ (List.mem_append_left _ h)))))) (gd_V gd_o_weigh (by decide +kernel))
  refine lv_iconst (v := iI 1) hx hb dX3_findFirst_0 (by decide) ?_
  refine lv_aload_n hx hb dX3_findFirst_1 rfl (lv_at hlv 1 rfl) ?_
  refine va_getN (D := D) (ci := 4) (v := vI dips) (C := RX4) (T := TX4) (N := 5) hx hb hts hi4 hown hG.1 hP 2 rfl rfl 2 (by decide) (va_Nw.use rfl (nF_Orders_17 hG.2.1)) (fun _ h9 => h9) rfl dX3_findFirst_2 ?_
  refine lv_ishl hx hb dX3_findFirst_5 ?_
  refine lt_sh2 (n := 9) (M := 512) (by decide) (by decide) (by omega) (fun z_1 ez_1 lz_1 hz_1 => ?_)
  refine lv_iconst (v := iI 1) hx hb dX3_findFirst_6 (by decide) ?_
  refine lv_isub hx hb dX3_findFirst_7 ?_
  refine lt_e (e0 := z_1 - 1) (Int32.ofInt_sub _ _).symm (fun z_2 hz_2 => ?_)
  refine lv_istore_n (lv' := [(2, vI z_2), (0, vR or_), (1, vR pa)]) hx hb dX3_findFirst_8 rfl hlv (by decide) rfl (fun ls hlv => ?_)
  refine lv_aload_n hx hb dX3_findFirst_9 rfl (lv_at hlv 1 rfl) ?_
  refine va_get (D := D) (ci := 3) (v := vR be) (C := RX3) (T := TX3) (N := 4) hx hb hts hi3 hown hG.1 hP 0 rfl rfl 3 (by decide) lf11 (fun _ h9 => h9) rfl dX3_findFirst_10 ?_
  refine lv_iload_n hx hb dX3_findFirst_13 rfl (lv_at hlv 0 rfl) ?_
  refine lv_iconst (v := iI 0) hx hb dX3_findFirst_14 (by decide) ?_
  refine va_iast hx hb hG.1 hP hD hS 1 0 rfl rfl (iI_in (by omega) (by decide)) dX3_findFirst_15 (fun H locs hP hD hS => ?_)
  obtain ⟨f_3, hP, hD⟩ := pe9 (fun f_3 => [zO or_ 3 [vI late, vI lea, vI ord, vR be], zI be (cy 0) 512 f_3, zO pa 4 [vI cars, vR pt, vI dips, vR pd, vR ps], zI pd (cy 0) 27 df]) _ hP hD
  refine lv_iload_n hx hb dX3_findFirst_16 rfl (lv_at hlv 0 rfl) ?_
  refine lv_iconst (v := iI 1) hx hb dX3_findFirst_17 (by decide) ?_
  refine lv_isub hx hb dX3_findFirst_18 ?_
  refine lt_e (e0 := z_2 - 1) (Int32.ofInt_sub _ _).symm (fun z_4 hz_4 => ?_)
  refine lv_istore_n (lv' := [(3, vI z_4), (2, vI z_2), (0, vR or_), (1, vR pa)]) hx hb dX3_findFirst_19 rfl hlv (by decide) rfl (fun ls hlv => ?_)
  refine (?_ : ∀ (fu : Nat) (q3 : Int) (bg : Nat → Int32) (H : Heap) (locs : List Loc) (ls : Array Slot), q3 + 1 < (fu : Int) → ((-1) ≤ q3 ∧ q3 ≤ 511) → va_P D vwCl [zO or_ 3 [vI late, vI lea, vI ord, vR be], zI be (cy 0) 512 bg, zO pa 4 [vI cars, vR pt, vI dips, vR pd, vR ps], zI pd (cy 0) 27 df] H → va_D A [zO or_ 3 [vI late, vI lea, vI ord, vR be], zI be (cy 0) 512 bg, zO pa 4 [vI cars, vR pt, vI dips, vR pd, vR ps], zI pd (cy 0) 27 df] → va_S A s.heap H locs → lv_has ls 6 [(3, vI q3), (2, vI z_2), (0, vR or_), (1, vR pa)] → W p l e _ s m _ below meth c H locs _ _ _ (F0 m 20 ls [])) (((z_4 + 1) + 1 : Int)).toNat z_4 f_3 _ _ _ (by omega) (by omega)  hP hD hS hlv
  clear hP hD hS hlv
  intro fu
  induction fu with
  | zero => intro q3 bg H locs ls hm20 hl20_0  hP hD hS hlv; omega
  | succ fu ih20 =>
    intro q3 bg H locs ls hm20 hl20_0  hP hD hS hlv
    refine lv_iload_n hx hb dX3_findFirst_20 rfl (lv_at hlv 0 rfl) ?_
    refine iz_lt (tgt := 62) hx hb dX3_findFirst_21 (by decide) (by first | exact rgw hl20_0 (by decide) (by decide) | omega) (fun c_5 => ?_) (fun c_5 => ?_)
    · refine lv_aload_n hx hb dX3_findFirst_62 rfl (lv_at hlv 2 rfl) ?_
      refine lv_aload_n hx hb dX3_findFirst_63 rfl (lv_at hlv 2 rfl) ?_
      refine va_get (D := D) (ci := 3) (v := vR be) (C := RX3) (T := TX3) (N := 4) hx hb hts hi3 hown hG.1 hP 0 rfl rfl 3 (by decide) lf11 (fun _ h9 => h9) rfl dX3_findFirst_64 ?_
      refine lv_iconst (v := iI 0) hx hb dX3_findFirst_67 (by decide) ?_
      refine va_iald hx hb hG.1 hP 1 0 rfl rfl (iI_in (by omega) (by decide)) dX3_findFirst_68 ?_
      refine lt_z (fun z_6 ez_6 lz_6 hz_6 => ?_)
      refine lv_ldc (v := iI 1000000) hx hb hown ld29 dX3_findFirst_69 ?_
      refine lv_idiv hx hb dX3_findFirst_71 (fun q => absurd ((iI_eq (a := 1000000) (b := 0) (by omega) (by omega)).mp q) (by omega)) ?_
      refine lt_z (fun z_7 ez_7 lz_7 hz_7 => ?_)
      refine va_put (D := D) (ci := 3) (v := vI z_7) (ty := .int) (C := RX3) (T := TX3) (N := 4) hx hb hts hi3 tyX3 tyX3_ok nmX3 hown hG.1 hP hD hS 0 rfl rfl 0 (by decide) lf30 (fun _ h9 => h9) rfl (by decide +kernel) rfl rfl (Nat.le_of_ble_eq_true rfl) dX3_findFirst_72 (fun H locs hP hD hS => ?_)
      obtain ⟨hP, hD⟩ := pw9 [zO or_ 3 [vI z_7, vI lea, vI ord, vR be], zI be (cy 0) 512 bg, zO pa 4 [vI cars, vR pt, vI dips, vR pd, vR ps], zI pd (cy 0) 27 df] hP hD
      refine lv_aload_n hx hb dX3_findFirst_75 rfl (lv_at hlv 2 rfl) ?_
      refine lv_aload_n hx hb dX3_findFirst_76 rfl (lv_at hlv 2 rfl) ?_
      refine va_get (D := D) (ci := 3) (v := vR be) (C := RX3) (T := TX3) (N := 4) hx hb hts hi3 hown hG.1 hP 0 rfl rfl 3 (by decide) lf11 (fun _ h9 => h9) rfl dX3_findFirst_77 ?_
      refine lv_iconst (v := iI 0) hx hb dX3_findFirst_80 (by decide) ?_
      refine va_iald hx hb hG.1 hP 1 0 rfl rfl (iI_in (by omega) (by decide)) dX3_findFirst_81 ?_
      refine lt_i (y := iI z_6) ez_6 ?_
      refine lv_ldc (v := iI 1000000) hx hb hown ld29 dX3_findFirst_82 ?_
      refine lv_irem hx hb dX3_findFirst_84 (fun q => absurd ((iI_eq (a := 1000000) (b := 0) (by omega) (by omega)).mp q) (by omega)) ?_
      refine lt_z (fun z_8 ez_8 lz_8 hz_8 => ?_)
      refine va_put (D := D) (ci := 3) (v := vI z_8) (ty := .int) (C := RX3) (T := TX3) (N := 4) hx hb hts hi3 tyX3 tyX3_ok nmX3 hown hG.1 hP hD hS 0 rfl rfl 1 (by decide) lf33 (fun _ h9 => h9) rfl (by decide +kernel) rfl rfl (Nat.le_of_ble_eq_true rfl) dX3_findFirst_85 (fun H locs hP hD hS => ?_)
      obtain ⟨hP, hD⟩ := pw9 [zO or_ 3 [vI z_7, vI z_8, vI ord, vR be], zI be (cy 0) 512 bg, zO pa 4 [vI cars, vR pt, vI dips, vR pd, vR ps], zI pd (cy 0) 27 df] hP hD
      refine lv_aload_n hx hb dX3_findFirst_88 rfl (lv_at hlv 2 rfl) ?_
      refine lv_iconst (v := iI 0) hx hb dX3_findFirst_89 (by decide) ?_
      refine va_put (D := D) (ci := 3) (v := vI 0) (ty := .int) (C := RX3) (T := TX3) (N := 4) hx hb hts hi3 tyX3 tyX3_ok nmX3 hown hG.1 hP hD hS 0 rfl rfl 2 (by decide) lf36 (fun _ h9 => h9) rfl (by decide +kernel) rfl rfl (Nat.le_of_ble_eq_true rfl) dX3_findFirst_90 (fun H locs hP hD hS => ?_)
      obtain ⟨hP, hD⟩ := pw9 [zO or_ 3 [vI z_7, vI z_8, vI 0, vR be], zI be (cy 0) 512 bg, zO pa 4 [vI cars, vR pt, vI dips, vR pd, vR ps], zI pd (cy 0) 27 df] hP hD
      refine lv_iconst (v := iI 0) hx hb dX3_findFirst_93 (by decide) ?_
      refine lv_istore_n (lv' := [(3, vI 0), (2, vI z_2), (0, vR or_), (1, vR pa)]) hx hb dX3_findFirst_94 rfl hlv (by decide) rfl (fun ls hlv => ?_)
      refine lv_iconst (v := iI 0) hx hb dX3_findFirst_95 (by decide) ?_
      refine lv_istore (lv' := [(4, vI 0), (3, vI 0), (2, vI z_2), (0, vR or_), (1, vR pa)]) hx hb dX3_findFirst_96 hlv (by decide) rfl (fun ls hlv => ?_)
      refine (?_ : ∀ (fu : Nat) (r3 : Int) (r4 : Int) (ro4 : Int) (H : Heap) (locs : List Loc) (ls : Array Slot), 9 - r4 < (fu : Int) → (0 ≤ r3 ∧ r3 ≤ 511) → (0 ≤ r4 ∧ r4 ≤ 9) → ((-2147483648) ≤ ro4 ∧ ro4 ≤ 2147483647) → va_P D vwCl [zO or_ 3 [vI z_7, vI z_8, vI ro4, vR be], zI be (cy 0) 512 bg, zO pa 4 [vI cars, vR pt, vI dips, vR pd, vR ps], zI pd (cy 0) 27 df] H → va_D A [zO or_ 3 [vI z_7, vI z_8, vI ro4, vR be], zI be (cy 0) 512 bg, zO pa 4 [vI cars, vR pt, vI dips, vR pd, vR ps], zI pd (cy 0) 27 df] → va_S A s.heap H locs → lv_has ls 6 [(4, vI r4), (3, vI r3), (2, vI z_2), (0, vR or_), (1, vR pa)] → W p l e _ s m _ below meth c H locs _ _ _ (F0 m 98 ls [])) (((9 - 0) + 1 : Int)).toNat 0 0 0 _ _ _ (by omega) (by show (0 : Int) ≤ 0 ∧ (0 : Int) ≤ 511; decide) (by show (0 : Int) ≤ 0 ∧ (0 : Int) ≤ 9; decide) (by show ((-2147483648) : Int) ≤ 0 ∧ (0 : Int) ≤ 2147483647; decide)  hP hD hS hlv
      clear hP hD hS hlv
      intro fu
      induction fu with
      | zero => intro r3 r4 ro4 H locs ls hm98 hl98_0 hl98_1 hl98_2  hP hD hS hlv; omega
      | succ fu ih98 =>
        intro r3 r4 ro4 H locs ls hm98 hl98_0 hl98_1 hl98_2  hP hD hS hlv
        refine lv_iload hx hb dX3_findFirst_98 (lv_at hlv 0 rfl) ?_
        refine lv_aload_n hx hb dX3_findFirst_100 rfl (lv_at hlv 4 rfl) ?_
        refine va_getN (D := D) (ci := 4) (v := vI dips) (C := RX4) (T := TX4) (N := 5) hx hb hts hi4 hown hG.1 hP 2 rfl rfl 2 (by decide) (va_Nw.use rfl (nF_Orders_17 hG.2.1)) (fun _ h9 => h9) rfl dX3_findFirst_101 ?_
        refine ir_ge (tgt := 146) hx hb dX3_findFirst_104 (by decide) (by first | exact rgw hl98_1 (by decide) (by decide) | omega) (by first | exact rgw hr_dips (by decide) (by decide) | omega) (fun c_9 => ?_) (fun c_9 => ?_)
        · refine W.widen (k := 0) (n := 0) (Nat.le_of_ble_eq_true rfl) (Nat.le_of_ble_eq_true rfl) ?_
          exact W.vret hx hb hr (fun t ht hW => ⟨⟨((fun k => ([] : List Nat).getD k 0), (fun k => ([z_7, z_8, ro4] : List Int).getD k 0), (fun k => ([bg] : List (Nat → Int32)).getD k (fun _ => 0))), rfl, ⟨(by show ((-2147483648) ≤ z_7 ∧ z_7 ≤ 2147483647); omega), (by show ((-2147483648) ≤ z_8 ∧ z_8 ≤ 2147483647); omega), (by show ((-2147483648) ≤ ro4 ∧ ro4 ≤ 2147483647); first | exact hl98_2 | omega)⟩, at9 ht hP hD [0, 1, 2, 3] (by decide +kernel) rfl⟩, hS.F ht⟩) hS.2.2 dX3_findFirst_146
        · refine lv_aload_n hx hb dX3_findFirst_107 rfl (lv_at hlv 3 rfl) ?_
          refine lv_aload_n hx hb dX3_findFirst_108 rfl (lv_at hlv 4 rfl) ?_
          refine lv_iload_n hx hb dX3_findFirst_109 rfl (lv_at hlv 1 rfl) ?_
          refine cjr_i [false, false, false, false] (fun pre9 => (va_runV (As := [vR pa, vI r3]) (rest := []) ⟨hx, hb, hml, hown, hts⟩ (o_bestNext l hl D cy sa or_ be z_7 z_8 ro4 bg pa pt pd ps cars dips df r3 H.size (by omega) (by omega) (by first | exact hl98_2 | omega) (by first | exact hr_cars | omega) (by first | exact hr_dips | omega) (by first | exact hl98_0 | omega)) (cwV 2 hts gg_2 rfl rfl rfl (by decide +kernel) ⟨Nat.le_of_ble_eq_true rfl, Nat.le_of_ble_eq_true rfl⟩) ⟨pcW.blind, (va_recv hG.1 hP (ci := 3) (q0 := 0) rfl rfl), pre9⟩ rfl rfl hlv.1 rfl (lv_room (Nat.le_of_ble_eq_true rfl)) dX3_findFirst_110 ⟨Nat.le_of_ble_eq_true rfl, Nat.le_of_ble_eq_true rfl⟩)) hP hD hS hA hG hT [0, 1, 2, 3] rfl (by decide +kernel) (fun r1 u1 H locs hw1 hq9 hS => ?_)
          obtain ⟨rfl, hq1_1⟩ := hw1
          obtain ⟨hP, hD⟩ := pd9 [zO or_ 3 [vI z_7, vI z_8, vI ro4, vR be], zI be (cy 0) 512 bg, zO pa 4 [vI cars, vR pt, vI dips, vR pd, vR ps], zI pd (cy 0) 27 df] hq9
          refine lv_iconst (v := iI 0) hx hb dX3_findFirst_113 (by decide) ?_
          refine va_mmax hx hb (hml.trans hlv.1.symm) hown mk39 ms_max mi_ mc_max (Nat.le_of_ble_eq_true rfl) (Nat.le_of_ble_eq_true rfl) (Nat.le_of_ble_eq_true rfl) (Nat.le_of_ble_eq_true rfl) dX3_findFirst_114 ?_
          refine lt_mx (by omega) (by omega) (fun z_10 hz_10 => ?_)
          refine lv_istore (lv' := [(5, vI z_10), (4, vI r4), (3, vI r3), (2, vI z_2), (0, vR or_), (1, vR pa)]) hx hb dX3_findFirst_117 hlv (by decide) rfl (fun ls hlv => ?_)
          refine lv_aload_n hx hb dX3_findFirst_119 rfl (lv_at hlv 4 rfl) ?_
          refine lv_aload_n hx hb dX3_findFirst_120 rfl (lv_at hlv 4 rfl) ?_
          refine va_get (D := D) (ci := 3) (v := vI ro4) (C := RX3) (T := TX3) (N := 4) hx hb hts hi3 hown hG.1 hP 0 rfl rfl 2 (by decide) lf36 (fun _ h9 => h9) rfl dX3_findFirst_121 ?_
          refine lv_bipush (v := iI 10) hx hb dX3_findFirst_124 (by decide) ?_
          refine lv_imul hx hb dX3_findFirst_126 ?_
          refine lt_z (fun z_11 ez_11 lz_11 hz_11 => ?_)
          refine lv_iload hx hb dX3_findFirst_127 (lv_at hlv 0 rfl) ?_
          refine lv_iadd hx hb dX3_findFirst_129 ?_
          refine lt_z (fun z_12 ez_12 lz_12 hz_12 => ?_)
          refine va_put (D := D) (ci := 3) (v := vI z_12) (ty := .int) (C := RX3) (T := TX3) (N := 4) hx hb hts hi3 tyX3 tyX3_ok nmX3 hown hG.1 hP hD hS 0 rfl rfl 2 (by decide) lf36 (fun _ h9 => h9) rfl (by decide +kernel) rfl rfl (Nat.le_of_ble_eq_true rfl) dX3_findFirst_130 (fun H locs hP hD hS => ?_)
          obtain ⟨hP, hD⟩ := pw9 [zO or_ 3 [vI z_7, vI z_8, vI z_12, vR be], zI be (cy 0) 512 bg, zO pa 4 [vI cars, vR pt, vI dips, vR pd, vR ps], zI pd (cy 0) 27 df] hP hD
          refine lv_iload_n hx hb dX3_findFirst_133 rfl (lv_at hlv 2 rfl) ?_
          refine lv_iconst (v := iI 1) hx hb dX3_findFirst_134 (by decide) ?_
          refine lv_iload hx hb dX3_findFirst_135 (lv_at hlv 0 rfl) ?_
          refine lv_ishl hx hb dX3_findFirst_137 ?_
          refine lt_sh2 (n := 8) (M := 256) (by decide) (by decide) (by omega) (fun z_13 ez_13 lz_13 hz_13 => ?_)
          refine lv_ior hx hb dX3_findFirst_138 ?_
          refine lt_o2 9 (M := 511) (by decide) (by omega) (by omega) (fun z_14 lz_14 hz_14 => ?_)
          refine lv_istore_n (lv' := [(3, vI z_14), (5, vI z_10), (4, vI r4), (2, vI z_2), (0, vR or_), (1, vR pa)]) hx hb dX3_findFirst_139 rfl hlv (by decide) rfl (fun ls hlv => ?_)
          obtain ⟨z_15, hz_15⟩ : ∃ z : Int, z = r4 + 1 := ⟨_, rfl⟩
          refine lv_iinc (v := iI z_15) (lv' := [(4, vI z_15), (3, vI z_14), (5, vI z_10), (2, vI z_2), (0, vR or_), (1, vR pa)]) hx hb dX3_findFirst_140 hlv (k := 2) rfl (by rw [hz_15]; exact (Int32.ofInt_add _ _).symm) (by decide) rfl (fun ls hlv => ?_)
          refine lv_goto (tgt := 98) hx hb dX3_findFirst_143 (by decide) ?_
          exact ih98 z_14 z_15 z_12 H locs ls (by omega) (by omega) (by omega) (by omega)  (hP.sub [0, 1, 2, 3] rfl) (hD.sub [0, 1, 2, 3] (by decide) rfl) hS (lv_sub hlv [0, 1, 3, 4, 5] rfl)
    · refine lv_aload_n hx hb dX3_findFirst_24 rfl (lv_at hlv 2 rfl) ?_
      refine lv_aload_n hx hb dX3_findFirst_25 rfl (lv_at hlv 3 rfl) ?_
      refine lv_iload_n hx hb dX3_findFirst_26 rfl (lv_at hlv 0 rfl) ?_
      refine cjr_i [false, false, false, false] (fun pre9 => (va_runV (As := [vR pa, vI q3]) (rest := []) ⟨hx, hb, hml, hown, hts⟩ (o_bestNext l hl D cy sa or_ be late lea ord bg pa pt pd ps cars dips df q3 H.size (by first | exact hr_late | omega) (by first | exact hr_lea | omega) (by first | exact hr_ord | omega) (by first | exact hr_cars | omega) (by first | exact hr_dips | omega) (by omega)) (cwV 2 hts gg_2 rfl rfl rfl (by decide +kernel) ⟨Nat.le_of_ble_eq_true rfl, Nat.le_of_ble_eq_true rfl⟩) ⟨pcW.blind, (va_recv hG.1 hP (ci := 3) (q0 := 0) rfl rfl), pre9⟩ rfl rfl hlv.1 rfl (lv_room (Nat.le_of_ble_eq_true rfl)) dX3_findFirst_27 ⟨Nat.le_of_ble_eq_true rfl, Nat.le_of_ble_eq_true rfl⟩)) hP hD hS hA hG hT [0, 1, 2, 3] rfl (by decide +kernel) (fun r2 u2 H locs hw2 hq9 hS => ?_)
      obtain ⟨rfl, hq2_1⟩ := hw2
      obtain ⟨hP, hD⟩ := pd9 [zO or_ 3 [vI late, vI lea, vI ord, vR be], zI be (cy 0) 512 bg, zO pa 4 [vI cars, vR pt, vI dips, vR pd, vR ps], zI pd (cy 0) 27 df] hq9
      refine lv_istore (lv' := [(4, vI (u2.2.1 0)), (3, vI q3), (2, vI z_2), (0, vR or_), (1, vR pa)]) hx hb dX3_findFirst_30 hlv (by decide) rfl (fun ls hlv => ?_)
      refine lv_aload_n hx hb dX3_findFirst_32 rfl (lv_at hlv 3 rfl) ?_
      refine va_get (D := D) (ci := 3) (v := vR be) (C := RX3) (T := TX3) (N := 4) hx hb hts hi3 hown hG.1 hP 0 rfl rfl 3 (by decide) lf11 (fun _ h9 => h9) rfl dX3_findFirst_33 ?_
      refine lv_iload_n hx hb dX3_findFirst_36 rfl (lv_at hlv 1 rfl) ?_
      refine lv_iload hx hb dX3_findFirst_37 (lv_at hlv 0 rfl) ?_
      refine lv_iconst (v := iI (-1)) hx hb dX3_findFirst_39 (by decide) ?_
      refine ir_ne (tgt := 47) hx hb dX3_findFirst_40 (by decide) (by first | exact rgw hq2_1 (by decide) (by decide) | omega) (by show ((-2147483648) : Int) ≤ (-1) ∧ ((-1) : Int) ≤ 2147483647; decide) (fun c_16 => ?_) (fun c_16 => ?_)
      · refine lv_aload_n hx hb dX3_findFirst_47 rfl (lv_at hlv 3 rfl) ?_
        refine lv_aload_n hx hb dX3_findFirst_48 rfl (lv_at hlv 4 rfl) ?_
        refine lv_iload_n hx hb dX3_findFirst_49 rfl (lv_at hlv 1 rfl) ?_
        refine lv_iload hx hb dX3_findFirst_50 (lv_at hlv 0 rfl) ?_
        refine cjr_i [false, false, false, false] (fun pre9 => (va_runV (As := [vR pa, vI q3, vI (u2.2.1 0)]) (rest := [vI q3, vR be]) ⟨hx, hb, hml, hown, hts⟩ (o_weigh l hl D cy sa or_ be late lea ord bg pa pt pd ps cars dips df q3 (u2.2.1 0) H.size (by first | exact hr_late | omega) (by first | exact hr_lea | omega) (by first | exact hr_ord | omega) (by first | exact hr_cars | omega) (by first | exact hr_dips | omega) (by omega) (by omega)) (cwV 3 hts gg_3 rfl rfl rfl (by decide +kernel) ⟨Nat.le_of_ble_eq_true rfl, Nat.le_of_ble_eq_true rfl⟩) ⟨pcW.blind, (va_recv hG.1 hP (ci := 3) (q0 := 0) rfl rfl), pre9⟩ rfl rfl hlv.1 rfl (lv_room (Nat.le_of_ble_eq_true rfl)) dX3_findFirst_52 ⟨Nat.le_of_ble_eq_true rfl, Nat.le_of_ble_eq_true rfl⟩)) hP hD hS hA hG hT [0, 1, 2, 3] rfl (by decide +kernel) (fun r3 u3 H locs hw3 hq9 hS => ?_)
        obtain ⟨rfl, hq3_1⟩ := hw3
        obtain ⟨hP, hD⟩ := pd9 [zO or_ 3 [vI late, vI lea, vI ord, vR be], zI be (cy 0) 512 bg, zO pa 4 [vI cars, vR pt, vI dips, vR pd, vR ps], zI pd (cy 0) 27 df] hq9
        refine va_iast hx hb hG.1 hP hD hS 1 0 rfl rfl (iI_in (by omega) (by decide)) dX3_findFirst_55 (fun H locs hP hD hS => ?_)
        obtain ⟨f_17, hP, hD⟩ := pe9 (fun f_17 => [zO or_ 3 [vI late, vI lea, vI ord, vR be], zI be (cy 0) 512 f_17, zO pa 4 [vI cars, vR pt, vI dips, vR pd, vR ps], zI pd (cy 0) 27 df]) _ hP hD
        obtain ⟨z_18, hz_18⟩ : ∃ z : Int, z = q3 + (-1) := ⟨_, rfl⟩
        refine lv_iinc (v := iI z_18) (lv' := [(3, vI z_18), (4, vI (u2.2.1 0)), (2, vI z_2), (0, vR or_), (1, vR pa)]) hx hb dX3_findFirst_56 hlv (k := 1) rfl (by rw [hz_18]; exact (Int32.ofInt_add _ _).symm) (by decide) rfl (fun ls hlv => ?_)
        refine lv_goto (tgt := 20) hx hb dX3_findFirst_59 (by decide) ?_
        exact ih20 z_18 f_17 H locs ls (by omega) (by omega)  (hP.sub [0, 1, 2, 3] rfl) (hD.sub [0, 1, 2, 3] (by decide) rfl) hS (lv_sub hlv [0, 2, 3, 4] rfl)
      · refine lv_iconst (v := iI 0) hx hb dX3_findFirst_43 (by decide) ?_
        refine lv_goto (tgt := 55) hx hb dX3_findFirst_44 (by decide) ?_
        refine va_iast hx hb hG.1 hP hD hS 1 0 rfl rfl (iI_in (by omega) (by decide)) dX3_findFirst_55 (fun H locs hP hD hS => ?_)
        obtain ⟨f_19, hP, hD⟩ := pe9 (fun f_19 => [zO or_ 3 [vI late, vI lea, vI ord, vR be], zI be (cy 0) 512 f_19, zO pa 4 [vI cars, vR pt, vI dips, vR pd, vR ps], zI pd (cy 0) 27 df]) _ hP hD
        obtain ⟨z_20, hz_20⟩ : ∃ z : Int, z = q3 + (-1) := ⟨_, rfl⟩
        refine lv_iinc (v := iI z_20) (lv' := [(3, vI z_20), (4, vI (u2.2.1 0)), (2, vI z_2), (0, vR or_), (1, vR pa)]) hx hb dX3_findFirst_56 hlv (k := 1) rfl (by rw [hz_20]; exact (Int32.ofInt_add _ _).symm) (by decide) rfl (fun ls hlv => ?_)
        refine lv_goto (tgt := 20) hx hb dX3_findFirst_59 (by decide) ?_
        exact ih20 z_20 f_19 H locs ls (by omega) (by omega)  (hP.sub [0, 1, 2, 3] rfl) (hD.sub [0, 1, 2, 3] (by decide) rfl) hS (lv_sub hlv [0, 2, 3, 4] rfl)
def vs_o_of0 : List Cond := .code yX3_of cX3_of 3 (some .int) :: (([] : List Cond) ++ ((wsX60) ++ ([])))
theorem gd_o_of0 : vs_o_of0.all goodWord = true := gd_C (by decide +kernel) (gd_A (by decide +kernel) (gd_A (by decide +kernel) rfl))
set_option maxHeartbeats 4000000 in
set_option maxRecDepth 100000 in
theorem o_of0 (l : Launch) (hl : l.stackTraces = false) (D : va_G) (cy : Nat → ClassId) (sa : Nat → Nat) (sA s2 s3 s6 s8 s11 s13 : Nat) (wi ro dr dt pe gu sh wo dn mi fl tk go : Int) (df : Nat → Int32) (n : Int) (sz : Nat) (hr_wi : 0 ≤ wi ∧ wi ≤ 16) (hr_ro : 0 ≤ ro ∧ ro ≤ 6) (hr_dr : 0 ≤ dr ∧ dr ≤ 14) (hr_dt : 0 ≤ dt ∧ dt ≤ 6) (hr_pe : 0 ≤ pe ∧ pe ≤ 8) (hr_gu : 0 ≤ gu ∧ gu ≤ 20) (hr_sh : 0 ≤ sh ∧ sh ≤ 2) (hr_wo : 0 ≤ wo ∧ wo ≤ 8) (hr_dn : (-2147483648) ≤ dn ∧ dn ≤ 2147483647) (hr_mi : 0 ≤ mi ∧ mi ≤ 600) (hr_fl : (-2147483648) ≤ fl ∧ fl ≤ 2147483647) (hr_tk : (-2147483648) ≤ tk ∧ tk ≤ 2147483647) (hr_go : (-2147483648) ≤ go ∧ go ≤ 2147483647) (hr_n : (-1) ≤ n ∧ n ≤ 13) (hdf : tab_ 4 14 [0, 0, 0, 0] [15, 5, 99, 16] df) : mI9 l yX3_of vs_o_of0 ({ frames := 0, cells := 0, slots := 0, locals := 0 }) D cy sa sz [vR sA, vI n, vI 0] [zO sA 6 [vI wi, vI ro, vR s2, vR s3, vI dr, vI dt, vR s6, vI pe, vR s8, vI gu, vI sh, vR s11, vI wo, vR s13, vI dn, vI mi, vI fl, vI tk, vI go], zI s6 (cy 0) 56 df] (fun (r : Int32) (u : SV) => r = iI (u.2.1 0) ∧ (0 ≤ u.2.1 0 ∧ u.2.1 0 ≤ 15) ∧ tab_ 4 14 [0, 0, 0, 0] [15, 5, 99, 16] df) (fun u : SV => [zO sA 6 [vI wi, vI ro, vR s2, vR s3, vI dr, vI dt, vR s6, vI pe, vR s8, vI gu, vI sh, vR s11, vI wo, vR s13, vI dn, vI mi, vI fl, vI tk, vI go], zI s6 (cy 0) 56 df]) 0 0 := by
  refine Met.ofW (cc := cX3_of) (maxL := 3) (ret := (some .int)) (by decide) rfl ?_
  intro p e s m args below meth c s₁ B hml hv
  obtain ⟨rfl, hsz, hP, hG, hD0, hT⟩ := hv
  have hx := B.exec
  have hb := B.bytes
  have hr := B.returns
  have hts := atoms_spec (ws := vs_o_of0) B.pre
  have hown : s.vm.findClass RX3 = some m.cls := findClass_of_methodNamed B.named
  have hlocks := B.notSynchronized
  subst hsz
  have hD := hD0.self (sz := s.heap.size)
  generalize hAe : va_A [zO sA 6 [vI wi, vI ro, vR s2, vR s3, vI dr, vI dt, vR s6, vI pe, vR s8, vI gu, vI sh, vR s11, vI wo, vR s13, vI dn, vI mi, vI fl, vI tk, vI go], zI s6 (cy 0) 56 df] s.heap.size = A at hD hT ⊢
  have hA : ∀ q : Nat, s.heap.size ≤ q → A q := fun q h => by rw [← hAe]; exact Or.inr h
  have hS : va_S A s.heap s.heap [] := va_S.rf
  have hl0 := lv_entry ([vR sA, vI n, vI 0]) (n := 3) (Nat.le_of_ble_eq_true rfl)
  rw [lg_entry_eq]
  generalize (lg_sl ([vR sA, vI n, vI 0]) ++ List.replicate (3 - (lg_sl ([vR sA, vI n, vI 0])).length) Slot.unset).toArray = ls at hl0 ⊢
  have hlv : lv_has ls 3 [(0, vR sA), (1, vI n), (2, vI 0)] := hl0
  have hi6 : ∀ w ∈ wsX60, w ∈ vs_o_of0 := fun w h => List.mem_cons_of_mem _ (List.mem_append_right _ (List.mem_append_left _ h))
  refine lv_iload_n hx hb dX3_of_0 rfl (lv_at hlv 1 rfl) ?_
  refine lv_iconst (v := iI (-1)) hx hb dX3_of_1 (by decide) ?_
  refine ir_ne (tgt := 9) hx hb dX3_of_2 (by decide) (by first | exact rgw hr_n (by decide) (by decide) | omega) (by show ((-2147483648) : Int) ≤ (-1) ∧ ((-1) : Int) ≤ 2147483647; decide) (fun c_1 => ?_) (fun c_1 => ?_)
  · refine lv_aload_n hx hb dX3_of_9 rfl (lv_at hlv 0 rfl) ?_
    refine va_getN (D := D) (ci := 6) (v := vR s6) (C := RX6) (T := TX6) (N := 19) hx hb hts hi6 hown hG.1 hP 0 rfl rfl 6 (by decide) (va_Nw.use rfl (nF_Orders_56 hG.2.1)) (fun _ h9 => h9) rfl dX3_of_10 ?_
    refine lv_iconst (v := iI 4) hx hb dX3_of_13 (by decide) ?_
    refine lv_iload_n hx hb dX3_of_14 rfl (lv_at hlv 1 rfl) ?_
    refine lv_imul hx hb dX3_of_15 ?_
    refine lt_e (e0 := 4 * n) (Int32.ofInt_mul _ _).symm (fun z_2 hz_2 => ?_)
    refine lv_iload_n hx hb dX3_of_16 rfl (lv_at hlv 2 rfl) ?_
    refine lv_iadd hx hb dX3_of_17 ?_
    refine lt_e (e0 := z_2 + 0) (Int32.ofInt_add _ _).symm (fun z_3 hz_3 => ?_)
    refine va_iald hx hb hG.1 hP 1 0 rfl rfl (iI_in (by omega) (by decide)) dX3_of_18 ?_
    obtain ⟨z_4, ez_4, hz_4, lz_4⟩ := tab_rd hdf (e := z_3) (k := n) (c := 0) (a := 0) (b := 15) (by omega) (by omega) (by decide) (by omega) rfl rfl
    refine lt_i (y := iI z_4) ez_4 ?_
    refine W.widen (k := 0) (n := 0) (Nat.le_of_ble_eq_true rfl) (Nat.le_of_ble_eq_true rfl) ?_
    exact W.iret (v := iI z_4) hx hb hr (fun t ht hW => ⟨⟨iI z_4, ((fun k => ([] : List Nat).getD k 0), (fun k => ([z_4] : List Int).getD k 0), (fun k => ([] : List (Nat → Int32)).getD k (fun _ => 0))), rfl, ⟨rfl, (by show (0 ≤ z_4 ∧ z_4 ≤ 15); first | exact lz_4 | omega), hdf⟩, at9 ht hP hD [0, 1] (by decide +kernel) rfl⟩, hS.F ht⟩) hS.2.2 dX3_of_19
  · refine lv_iconst (v := iI 0) hx hb dX3_of_5 (by decide) ?_
    refine lv_goto (tgt := 19) hx hb dX3_of_6 (by decide) ?_
    refine W.widen (k := 0) (n := 0) (Nat.le_of_ble_eq_true rfl) (Nat.le_of_ble_eq_true rfl) ?_
    exact W.iret (v := iI 0) hx hb hr (fun t ht hW => ⟨⟨iI 0, ((fun k => ([] : List Nat).getD k 0), (fun k => ([0] : List Int).getD k 0), (fun k => ([] : List (Nat → Int32)).getD k (fun _ => 0))), rfl, ⟨rfl, (by show (0 ≤ 0 ∧ 0 ≤ 15); show (0 : Int) ≤ 0 ∧ (0 : Int) ≤ 15; decide), hdf⟩, at9 ht hP hD [0, 1] (by decide +kernel) rfl⟩, hS.F ht⟩) hS.2.2 dX3_of_19
def vs_o_of1 : List Cond := .code yX3_of cX3_of 3 (some .int) :: (([] : List Cond) ++ ((wsX60) ++ ([])))
theorem gd_o_of1 : vs_o_of1.all goodWord = true := gd_C (by decide +kernel) (gd_A (by decide +kernel) (gd_A (by decide +kernel) rfl))
set_option maxHeartbeats 4000000 in
set_option maxRecDepth 100000 in
theorem o_of1 (l : Launch) (hl : l.stackTraces = false) (D : va_G) (cy : Nat → ClassId) (sa : Nat → Nat) (sA s2 s3 s6 s8 s11 s13 : Nat) (wi ro dr dt pe gu sh wo dn mi fl tk go : Int) (df : Nat → Int32) (n : Int) (sz : Nat) (hr_wi : 0 ≤ wi ∧ wi ≤ 16) (hr_ro : 0 ≤ ro ∧ ro ≤ 6) (hr_dr : 0 ≤ dr ∧ dr ≤ 14) (hr_dt : 0 ≤ dt ∧ dt ≤ 6) (hr_pe : 0 ≤ pe ∧ pe ≤ 8) (hr_gu : 0 ≤ gu ∧ gu ≤ 20) (hr_sh : 0 ≤ sh ∧ sh ≤ 2) (hr_wo : 0 ≤ wo ∧ wo ≤ 8) (hr_dn : (-2147483648) ≤ dn ∧ dn ≤ 2147483647) (hr_mi : 0 ≤ mi ∧ mi ≤ 600) (hr_fl : (-2147483648) ≤ fl ∧ fl ≤ 2147483647) (hr_tk : (-2147483648) ≤ tk ∧ tk ≤ 2147483647) (hr_go : (-2147483648) ≤ go ∧ go ≤ 2147483647) (hr_n : (-1) ≤ n ∧ n ≤ 13) (hdf : tab_ 4 14 [0, 0, 0, 0] [15, 5, 99, 16] df) : mI9 l yX3_of vs_o_of1 ({ frames := 0, cells := 0, slots := 0, locals := 0 }) D cy sa sz [vR sA, vI n, vI 1] [zO sA 6 [vI wi, vI ro, vR s2, vR s3, vI dr, vI dt, vR s6, vI pe, vR s8, vI gu, vI sh, vR s11, vI wo, vR s13, vI dn, vI mi, vI fl, vI tk, vI go], zI s6 (cy 0) 56 df] (fun (r : Int32) (u : SV) => r = iI (u.2.1 0) ∧ (0 ≤ u.2.1 0 ∧ u.2.1 0 ≤ 15) ∧ tab_ 4 14 [0, 0, 0, 0] [15, 5, 99, 16] df) (fun u : SV => [zO sA 6 [vI wi, vI ro, vR s2, vR s3, vI dr, vI dt, vR s6, vI pe, vR s8, vI gu, vI sh, vR s11, vI wo, vR s13, vI dn, vI mi, vI fl, vI tk, vI go], zI s6 (cy 0) 56 df]) 0 0 := by
  refine Met.ofW (cc := cX3_of) (maxL := 3) (ret := (some .int)) (by decide) rfl ?_
  intro p e s m args below meth c s₁ B hml hv
  obtain ⟨rfl, hsz, hP, hG, hD0, hT⟩ := hv
  have hx := B.exec
  have hb := B.bytes
  have hr := B.returns
  have hts := atoms_spec (ws := vs_o_of1) B.pre
  have hown : s.vm.findClass RX3 = some m.cls := findClass_of_methodNamed B.named
  have hlocks := B.notSynchronized
  subst hsz
  have hD := hD0.self (sz := s.heap.size)
  generalize hAe : va_A [zO sA 6 [vI wi, vI ro, vR s2, vR s3, vI dr, vI dt, vR s6, vI pe, vR s8, vI gu, vI sh, vR s11, vI wo, vR s13, vI dn, vI mi, vI fl, vI tk, vI go], zI s6 (cy 0) 56 df] s.heap.size = A at hD hT ⊢
  have hA : ∀ q : Nat, s.heap.size ≤ q → A q := fun q h => by rw [← hAe]; exact Or.inr h
  have hS : va_S A s.heap s.heap [] := va_S.rf
  have hl0 := lv_entry ([vR sA, vI n, vI 1]) (n := 3) (Nat.le_of_ble_eq_true rfl)
  rw [lg_entry_eq]
  generalize (lg_sl ([vR sA, vI n, vI 1]) ++ List.replicate (3 - (lg_sl ([vR sA, vI n, vI 1])).length) Slot.unset).toArray = ls at hl0 ⊢
  have hlv : lv_has ls 3 [(0, vR sA), (1, vI n), (2, vI 1)] := hl0
  have hi6 : ∀ w ∈ wsX60, w ∈ vs_o_of1 := fun w h => List.mem_cons_of_mem _ (List.mem_append_right _ (List.mem_append_left _ h))
  refine lv_iload_n hx hb dX3_of_0 rfl (lv_at hlv 1 rfl) ?_
  refine lv_iconst (v := iI (-1)) hx hb dX3_of_1 (by decide) ?_
  refine ir_ne (tgt := 9) hx hb dX3_of_2 (by decide) (by first | exact rgw hr_n (by decide) (by decide) | omega) (by show ((-2147483648) : Int) ≤ (-1) ∧ ((-1) : Int) ≤ 2147483647; decide) (fun c_1 => ?_) (fun c_1 => ?_)
  · refine lv_aload_n hx hb dX3_of_9 rfl (lv_at hlv 0 rfl) ?_
    refine va_getN (D := D) (ci := 6) (v := vR s6) (C := RX6) (T := TX6) (N := 19) hx hb hts hi6 hown hG.1 hP 0 rfl rfl 6 (by decide) (va_Nw.use rfl (nF_Orders_56 hG.2.1)) (fun _ h9 => h9) rfl dX3_of_10 ?_
    refine lv_iconst (v := iI 4) hx hb dX3_of_13 (by decide) ?_
    refine lv_iload_n hx hb dX3_of_14 rfl (lv_at hlv 1 rfl) ?_
    refine lv_imul hx hb dX3_of_15 ?_
    refine lt_e (e0 := 4 * n) (Int32.ofInt_mul _ _).symm (fun z_2 hz_2 => ?_)
    refine lv_iload_n hx hb dX3_of_16 rfl (lv_at hlv 2 rfl) ?_
    refine lv_iadd hx hb dX3_of_17 ?_
    refine lt_e (e0 := z_2 + 1) (Int32.ofInt_add _ _).symm (fun z_3 hz_3 => ?_)
    refine va_iald hx hb hG.1 hP 1 0 rfl rfl (iI_in (by omega) (by decide)) dX3_of_18 ?_
    obtain ⟨z_4, ez_4, hz_4, lz_4⟩ := tab_rd hdf (e := z_3) (k := n) (c := 1) (a := 0) (b := 5) (by omega) (by omega) (by decide) (by omega) rfl rfl
    refine lt_i (y := iI z_4) ez_4 ?_
    refine W.widen (k := 0) (n := 0) (Nat.le_of_ble_eq_true rfl) (Nat.le_of_ble_eq_true rfl) ?_
    exact W.iret (v := iI z_4) hx hb hr (fun t ht hW => ⟨⟨iI z_4, ((fun k => ([] : List Nat).getD k 0), (fun k => ([z_4] : List Int).getD k 0), (fun k => ([] : List (Nat → Int32)).getD k (fun _ => 0))), rfl, ⟨rfl, (by show (0 ≤ z_4 ∧ z_4 ≤ 15); first | exact rgw lz_4 (by decide) (by decide) | omega), hdf⟩, at9 ht hP hD [0, 1] (by decide +kernel) rfl⟩, hS.F ht⟩) hS.2.2 dX3_of_19
  · refine lv_iconst (v := iI 0) hx hb dX3_of_5 (by decide) ?_
    refine lv_goto (tgt := 19) hx hb dX3_of_6 (by decide) ?_
    refine W.widen (k := 0) (n := 0) (Nat.le_of_ble_eq_true rfl) (Nat.le_of_ble_eq_true rfl) ?_
    exact W.iret (v := iI 0) hx hb hr (fun t ht hW => ⟨⟨iI 0, ((fun k => ([] : List Nat).getD k 0), (fun k => ([0] : List Int).getD k 0), (fun k => ([] : List (Nat → Int32)).getD k (fun _ => 0))), rfl, ⟨rfl, (by show (0 ≤ 0 ∧ 0 ≤ 15); show (0 : Int) ≤ 0 ∧ (0 : Int) ≤ 15; decide), hdf⟩, at9 ht hP hD [0, 1] (by decide +kernel) rfl⟩, hS.F ht⟩) hS.2.2 dX3_of_19
def vs_o_steps : List Cond := .code yX3_steps cX3_steps 5 (some .int) :: (([.methodLink RX3 70 Lib.Math.abs.name, .static Lib.Math.abs.name, .initialized "java/lang/Math", .code Lib.Math.abs.name Lib.Math.abs.code 1 (some .int)] : List Cond) ++ ((va_wsS RX3 67 yX3_of vs_o_of0) ++ ((va_wsS RX3 67 yX3_of vs_o_of1) ++ ([]))))
theorem gd_o_steps : vs_o_steps.all goodWord = true := gd_C (by decide +kernel) (gd_A (by decide +kernel) (gd_A (gd_S gd_o_of0 (by decide +kernel)) (gd_A (gd_S gd_o_of1 (by decide +kernel)) rfl)))
set_option maxHeartbeats 4000000 in
set_option maxRecDepth 100000 in
theorem o_steps (l : Launch) (hl : l.stackTraces = false) (D : va_G) (cy : Nat → ClassId) (sa : Nat → Nat) (sA s2 s3 s6 s8 s11 s13 : Nat) (wi ro dr dt pe gu sh wo dn mi fl tk go : Int) (df : Nat → Int32) (n k : Int) (sz : Nat) (hr_wi : 0 ≤ wi ∧ wi ≤ 16) (hr_ro : 0 ≤ ro ∧ ro ≤ 6) (hr_dr : 0 ≤ dr ∧ dr ≤ 14) (hr_dt : 0 ≤ dt ∧ dt ≤ 6) (hr_pe : 0 ≤ pe ∧ pe ≤ 8) (hr_gu : 0 ≤ gu ∧ gu ≤ 20) (hr_sh : 0 ≤ sh ∧ sh ≤ 2) (hr_wo : 0 ≤ wo ∧ wo ≤ 8) (hr_dn : (-2147483648) ≤ dn ∧ dn ≤ 2147483647) (hr_mi : 0 ≤ mi ∧ mi ≤ 600) (hr_fl : (-2147483648) ≤ fl ∧ fl ≤ 2147483647) (hr_tk : (-2147483648) ≤ tk ∧ tk ≤ 2147483647) (hr_go : (-2147483648) ≤ go ∧ go ≤ 2147483647) (hr_n : (-1) ≤ n ∧ n ≤ 13) (hr_k : (-1) ≤ k ∧ k ≤ 13) (hdf : tab_ 4 14 [0, 0, 0, 0] [15, 5, 99, 16] df) : mI9 l yX3_steps vs_o_steps ({ frames := 1, cells := 0, slots := 0, locals := 30 }) D cy sa sz [vR sA, vI n, vI k] [zO sA 6 [vI wi, vI ro, vR s2, vR s3, vI dr, vI dt, vR s6, vI pe, vR s8, vI gu, vI sh, vR s11, vI wo, vR s13, vI dn, vI mi, vI fl, vI tk, vI go], zI s6 (cy 0) 56 df] (fun (r : Int32) (u : SV) => r = iI (u.2.1 0) ∧ (0 ≤ u.2.1 0 ∧ u.2.1 0 ≤ 60) ∧ tab_ 4 14 [0, 0, 0, 0] [15, 5, 99, 16] df) (fun u : SV => [zO sA 6 [vI wi, vI ro, vR s2, vR s3, vI dr, vI dt, vR s6, vI pe, vR s8, vI gu, vI sh, vR s11, vI wo, vR s13, vI dn, vI mi, vI fl, vI tk, vI go], zI s6 (cy 0) 56 df]) 0 0 := by
  refine Met.ofW (cc := cX3_steps) (maxL := 5) (ret := (some .int)) (by decide) rfl ?_
  intro p e s m args below meth c s₁ B hml hv
  obtain ⟨rfl, hsz, hP, hG, hD0, hT⟩ := hv
  have hx := B.exec
  have hb := B.bytes
  have hr := B.returns
  have hts := atoms_spec (ws := vs_o_steps) B.pre
  have hown : s.vm.findClass RX3 = some m.cls := findClass_of_methodNamed B.named
  have hlocks := B.notSynchronized
  subst hsz
  have hD := hD0.self (sz := s.heap.size)
  generalize hAe : va_A [zO sA 6 [vI wi, vI ro, vR s2, vR s3, vI dr, vI dt, vR s6, vI pe, vR s8, vI gu, vI sh, vR s11, vI wo, vR s13, vI dn, vI mi, vI fl, vI tk, vI go], zI s6 (cy 0) 56 df] s.heap.size = A at hD hT ⊢
  have hA : ∀ q : Nat, s.heap.size ≤ q → A q := fun q h => by rw [← hAe]; exact Or.inr h
  have hS : va_S A s.heap s.heap [] := va_S.rf
  have hl0 := lv_entry ([vR sA, vI n, vI k]) (n := 5) (Nat.le_of_ble_eq_true rfl)
  rw [lg_entry_eq]
  generalize (lg_sl ([vR sA, vI n, vI k]) ++ List.replicate (5 - (lg_sl ([vR sA, vI n, vI k])).length) Slot.unset).toArray = ls at hl0 ⊢
  have hlv : lv_has ls 5 [(0, vR sA), (1, vI n), (2, vI k)] := hl0
  have gg_0 : GoodIn vs_o_steps (va_wsS RX3 67 yX3_of vs_o_of0) := goodIn_sub (fun w h => List.mem_cons_of_mem _ (List.mem_append_right _ (List.mem_append_left _ h))) (gd_S gd_o_of0 (by decide +kernel))
  have gg_1 : GoodIn vs_o_steps (va_wsS RX3 67 yX3_of vs_o_of1) := goodIn_sub (fun w h => List.mem_cons_of_mem _ (List.mem_append_right _ (List.mem_append_right _ (List.mem_append_left _ h)))) (gd_S gd_o_of1 (by decide +kernel))
  have mk70 := hts (.methodLink RX3 70 Lib.Math.abs.name) (List.mem_of_getElem? (i := 1) rfl)
  have ms_abs := hts (.static Lib.Math.abs.name) (List.mem_of_getElem? (i := 2) rfl)
  have mi_ := hts (.initialized "java/lang/Math") (List.mem_of_getElem? (i := 3) rfl)
  have mc_abs := hts (.code Lib.Math.abs.name Lib.Math.abs.code 1 (some .int)) (List.mem_of_getElem? (i := 4) rfl)
  refine lv_aload_n hx hb dX3_steps_0 rfl (lv_at hlv 0 rfl) ?_
  refine lv_iload_n hx hb dX3_steps_1 rfl (lv_at hlv 1 rfl) ?_
  refine lv_iconst (v := iI 0) hx hb dX3_steps_2 (by decide) ?_
  refine cjr_i [false, false] (fun pre9 => (va_runS (As := [vR sA, vI n, vI 0]) (rest := []) ⟨hx, hb, hml, hown, hts⟩ (o_of0 l hl D cy sa sA s2 s3 s6 s8 s11 s13 wi ro dr dt pe gu sh wo dn mi fl tk go df n s.heap.size (by first | exact hr_wi | omega) (by first | exact hr_ro | omega) (by first | exact hr_dr | omega) (by first | exact hr_dt | omega) (by first | exact hr_pe | omega) (by first | exact hr_gu | omega) (by first | exact hr_sh | omega) (by first | exact hr_wo | omega) (by first | exact hr_dn | omega) (by first | exact hr_mi | omega) (by first | exact hr_fl | omega) (by first | exact hr_tk | omega) (by first | exact hr_go | omega) (by first | exact hr_n | omega) hdf) (va_cwS 3 hts gg_0 rfl rfl rfl (by decide +kernel) ⟨Nat.le_of_ble_eq_true rfl, Nat.le_of_ble_eq_true rfl⟩) ⟨pcW.blind, pre9⟩ rfl rfl hlv.1 rfl (lv_room (Nat.le_of_ble_eq_true rfl)) dX3_steps_3 ⟨Nat.le_of_ble_eq_true rfl, Nat.le_of_ble_eq_true rfl⟩)) hP hD hS hA hG hT [0, 1] rfl (by decide +kernel) (fun r1 u1 H locs hw1 hq9 hS => ?_)
  obtain ⟨rfl, hq1_1, hq1_2⟩ := hw1
  obtain ⟨hP, hD⟩ := pd9 [zO sA 6 [vI wi, vI ro, vR s2, vR s3, vI dr, vI dt, vR s6, vI pe, vR s8, vI gu, vI sh, vR s11, vI wo, vR s13, vI dn, vI mi, vI fl, vI tk, vI go], zI s6 (cy 0) 56 df] hq9
  refine lv_aload_n hx hb dX3_steps_6 rfl (lv_at hlv 0 rfl) ?_
  refine lv_iload_n hx hb dX3_steps_7 rfl (lv_at hlv 2 rfl) ?_
  refine lv_iconst (v := iI 0) hx hb dX3_steps_8 (by decide) ?_
  refine cjr_i [false, false] (fun pre9 => (va_runS (As := [vR sA, vI k, vI 0]) (rest := [vI (u1.2.1 0)]) ⟨hx, hb, hml, hown, hts⟩ (o_of0 l hl D cy sa sA s2 s3 s6 s8 s11 s13 wi ro dr dt pe gu sh wo dn mi fl tk go df k H.size (by first | exact hr_wi | omega) (by first | exact hr_ro | omega) (by first | exact hr_dr | omega) (by first | exact hr_dt | omega) (by first | exact hr_pe | omega) (by first | exact hr_gu | omega) (by first | exact hr_sh | omega) (by first | exact hr_wo | omega) (by first | exact hr_dn | omega) (by first | exact hr_mi | omega) (by first | exact hr_fl | omega) (by first | exact hr_tk | omega) (by first | exact hr_go | omega) (by first | exact hr_k | omega) hq1_2) (va_cwS 3 hts gg_0 rfl rfl rfl (by decide +kernel) ⟨Nat.le_of_ble_eq_true rfl, Nat.le_of_ble_eq_true rfl⟩) ⟨pcW.blind, pre9⟩ rfl rfl hlv.1 rfl (lv_room (Nat.le_of_ble_eq_true rfl)) dX3_steps_9 ⟨Nat.le_of_ble_eq_true rfl, Nat.le_of_ble_eq_true rfl⟩)) hP hD hS hA hG hT [0, 1] rfl (by decide +kernel) (fun r2 u2 H locs hw2 hq9 hS => ?_)
  obtain ⟨rfl, hq2_1, hq2_2⟩ := hw2
  obtain ⟨hP, hD⟩ := pd9 [zO sA 6 [vI wi, vI ro, vR s2, vR s3, vI dr, vI dt, vR s6, vI pe, vR s8, vI gu, vI sh, vR s11, vI wo, vR s13, vI dn, vI mi, vI fl, vI tk, vI go], zI s6 (cy 0) 56 df] hq9
  refine lv_isub hx hb dX3_steps_12 ?_
  refine lt_e (e0 := (u1.2.1 0) - (u2.2.1 0)) (Int32.ofInt_sub _ _).symm (fun z_1 hz_1 => ?_)
  refine lv_istore_n (lv' := [(3, vI z_1), (0, vR sA), (1, vI n), (2, vI k)]) hx hb dX3_steps_13 rfl hlv (by decide) rfl (fun ls hlv => ?_)
  refine lv_aload_n hx hb dX3_steps_14 rfl (lv_at hlv 1 rfl) ?_
  refine lv_iload_n hx hb dX3_steps_15 rfl (lv_at hlv 2 rfl) ?_
  refine lv_iconst (v := iI 1) hx hb dX3_steps_16 (by decide) ?_
  refine cjr_i [false, false] (fun pre9 => (va_runS (As := [vR sA, vI n, vI 1]) (rest := []) ⟨hx, hb, hml, hown, hts⟩ (o_of1 l hl D cy sa sA s2 s3 s6 s8 s11 s13 wi ro dr dt pe gu sh wo dn mi fl tk go df n H.size (by first | exact hr_wi | omega) (by first | exact hr_ro | omega) (by first | exact hr_dr | omega) (by first | exact hr_dt | omega) (by first | exact hr_pe | omega) (by first | exact hr_gu | omega) (by first | exact hr_sh | omega) (by first | exact hr_wo | omega) (by first | exact hr_dn | omega) (by first | exact hr_mi | omega) (by first | exact hr_fl | omega) (by first | exact hr_tk | omega) (by first | exact hr_go | omega) (by first | exact hr_n | omega) hq2_2) (va_cwS 3 hts gg_1 rfl rfl rfl (by decide +kernel) ⟨Nat.le_of_ble_eq_true rfl, Nat.le_of_ble_eq_true rfl⟩) ⟨pcW.blind, pre9⟩ rfl rfl hlv.1 rfl (lv_room (Nat.le_of_ble_eq_true rfl)) dX3_steps_17 ⟨Nat.le_of_ble_eq_true rfl, Nat.le_of_ble_eq_true rfl⟩)) hP hD hS hA hG hT [0, 1] rfl (by decide +kernel) (fun r3 u3 H locs hw3 hq9 hS => ?_)
  obtain ⟨rfl, hq3_1, hq3_2⟩ := hw3
  obtain ⟨hP, hD⟩ := pd9 [zO sA 6 [vI wi, vI ro, vR s2, vR s3, vI dr, vI dt, vR s6, vI pe, vR s8, vI gu, vI sh, vR s11, vI wo, vR s13, vI dn, vI mi, vI fl, vI tk, vI go], zI s6 (cy 0) 56 df] hq9
  refine lv_aload_n hx hb dX3_steps_20 rfl (lv_at hlv 1 rfl) ?_
  refine lv_iload_n hx hb dX3_steps_21 rfl (lv_at hlv 3 rfl) ?_
  refine lv_iconst (v := iI 1) hx hb dX3_steps_22 (by decide) ?_
  refine cjr_i [false, false] (fun pre9 => (va_runS (As := [vR sA, vI k, vI 1]) (rest := [vI (u3.2.1 0)]) ⟨hx, hb, hml, hown, hts⟩ (o_of1 l hl D cy sa sA s2 s3 s6 s8 s11 s13 wi ro dr dt pe gu sh wo dn mi fl tk go df k H.size (by first | exact hr_wi | omega) (by first | exact hr_ro | omega) (by first | exact hr_dr | omega) (by first | exact hr_dt | omega) (by first | exact hr_pe | omega) (by first | exact hr_gu | omega) (by first | exact hr_sh | omega) (by first | exact hr_wo | omega) (by first | exact hr_dn | omega) (by first | exact hr_mi | omega) (by first | exact hr_fl | omega) (by first | exact hr_tk | omega) (by first | exact hr_go | omega) (by first | exact hr_k | omega) hq3_2) (va_cwS 3 hts gg_1 rfl rfl rfl (by decide +kernel) ⟨Nat.le_of_ble_eq_true rfl, Nat.le_of_ble_eq_true rfl⟩) ⟨pcW.blind, pre9⟩ rfl rfl hlv.1 rfl (lv_room (Nat.le_of_ble_eq_true rfl)) dX3_steps_23 ⟨Nat.le_of_ble_eq_true rfl, Nat.le_of_ble_eq_true rfl⟩)) hP hD hS hA hG hT [0, 1] rfl (by decide +kernel) (fun r4 u4 H locs hw4 hq9 hS => ?_)
  obtain ⟨rfl, hq4_1, hq4_2⟩ := hw4
  obtain ⟨hP, hD⟩ := pd9 [zO sA 6 [vI wi, vI ro, vR s2, vR s3, vI dr, vI dt, vR s6, vI pe, vR s8, vI gu, vI sh, vR s11, vI wo, vR s13, vI dn, vI mi, vI fl, vI tk, vI go], zI s6 (cy 0) 56 df] hq9
  refine lv_isub hx hb dX3_steps_26 ?_
  refine lt_e (e0 := (u3.2.1 0) - (u4.2.1 0)) (Int32.ofInt_sub _ _).symm (fun z_2 hz_2 => ?_)
  refine lv_istore (lv' := [(4, vI z_2), (3, vI z_1), (0, vR sA), (1, vI n), (2, vI k)]) hx hb dX3_steps_27 hlv (by decide) rfl (fun ls hlv => ?_)
  refine lv_iload_n hx hb dX3_steps_29 rfl (lv_at hlv 1 rfl) ?_
  refine va_mabs hx hb (hml.trans hlv.1.symm) hown mk70 ms_abs mi_ mc_abs (Nat.le_of_ble_eq_true rfl) (Nat.le_of_ble_eq_true rfl) (Nat.le_of_ble_eq_true rfl) (Nat.le_of_ble_eq_true rfl) dX3_steps_30 ?_
  refine lt_ab (by omega) (fun z_3 hz_3 => ?_)
  refine lv_iload hx hb dX3_steps_33 (lv_at hlv 0 rfl) ?_
  refine va_mabs hx hb (hml.trans hlv.1.symm) hown mk70 ms_abs mi_ mc_abs (Nat.le_of_ble_eq_true rfl) (Nat.le_of_ble_eq_true rfl) (Nat.le_of_ble_eq_true rfl) (Nat.le_of_ble_eq_true rfl) dX3_steps_35 ?_
  refine lt_ab (by omega) (fun z_4 hz_4 => ?_)
  refine lv_iadd hx hb dX3_steps_38 ?_
  refine lt_e (e0 := z_3 + z_4) (Int32.ofInt_add _ _).symm (fun z_5 hz_5 => ?_)
  refine W.widen (k := 0) (n := 0) (Nat.le_of_ble_eq_true rfl) (Nat.le_of_ble_eq_true rfl) ?_
  exact W.iret (v := iI z_5) hx hb hr (fun t ht hW => ⟨⟨iI z_5, ((fun k => ([] : List Nat).getD k 0), (fun k => ([z_5] : List Int).getD k 0), (fun k => ([] : List (Nat → Int32)).getD k (fun _ => 0))), rfl, ⟨rfl, (by show (0 ≤ z_5 ∧ z_5 ≤ 60); omega), hq4_2⟩, at9 ht hP hD [0, 1] (by decide +kernel) rfl⟩, hS.F ht⟩) hS.2.2 dX3_steps_39
end
section
theorem dX3_findSweeping_0 : decode cX3_findSweeping 0 = .ok (.iconst 0, 1) := by decide +kernel
theorem dX3_findSweeping_1 : decode cX3_findSweeping 1 = .ok (.istore_n 2, 1) := by decide +kernel
theorem dX3_findSweeping_12 : decode cX3_findSweeping 12 = .ok (.aload_n 1, 1) := by decide +kernel
theorem dX3_findSweeping_13 : decode cX3_findSweeping 13 = .ok (.getfield 56, 3) := by decide +kernel
theorem dX3_findSweeping_16 : decode cX3_findSweeping 16 = .ok (.iconst 4, 1) := by decide +kernel
theorem dX3_findSweeping_17 : decode cX3_findSweeping 17 = .ok (.iload_n 3, 1) := by decide +kernel
theorem dX3_findSweeping_18 : decode cX3_findSweeping 18 = .ok (.imul, 1) := by decide +kernel
theorem dX3_findSweeping_19 : decode cX3_findSweeping 19 = .ok (.iconst 3, 1) := by decide +kernel
theorem dX3_findSweeping_2 : decode cX3_findSweeping 2 = .ok (.iconst 0, 1) := by decide +kernel
theorem dX3_findSweeping_20 : decode cX3_findSweeping 20 = .ok (.iadd, 1) := by decide +kernel
theorem dX3_findSweeping_21 : decode cX3_findSweeping 21 = .ok (.iaload, 1) := by decide +kernel
theorem dX3_findSweeping_22 : decode cX3_findSweeping 22 = .ok (.ifCond .le 9, 3) := by decide +kernel
theorem dX3_findSweeping_25 : decode cX3_findSweeping 25 = .ok (.iload_n 2, 1) := by decide +kernel
theorem dX3_findSweeping_26 : decode cX3_findSweeping 26 = .ok (.iconst 1, 1) := by decide +kernel
theorem dX3_findSweeping_27 : decode cX3_findSweeping 27 = .ok (.iload_n 3, 1) := by decide +kernel
theorem dX3_findSweeping_28 : decode cX3_findSweeping 28 = .ok (.ishl, 1) := by decide +kernel
theorem dX3_findSweeping_29 : decode cX3_findSweeping 29 = .ok (.ior, 1) := by decide +kernel
theorem dX3_findSweeping_3 : decode cX3_findSweeping 3 = .ok (.istore_n 3, 1) := by decide +kernel
theorem dX3_findSweeping_30 : decode cX3_findSweeping 30 = .ok (.istore_n 2, 1) := by decide +kernel
theorem dX3_findSweeping_31 : decode cX3_findSweeping 31 = .ok (.iinc 3 1, 3) := by decide +kernel
theorem dX3_findSweeping_34 : decode cX3_findSweeping 34 = .ok (.goto (-30), 3) := by decide +kernel
theorem dX3_findSweeping_37 : decode cX3_findSweeping 37 = .ok (.aload_n 0, 1) := by decide +kernel
theorem dX3_findSweeping_38 : decode cX3_findSweeping 38 = .ok (.iload_n 2, 1) := by decide +kernel
theorem dX3_findSweeping_39 : decode cX3_findSweeping 39 = .ok (.ifCond .ne 7, 3) := by decide +kernel
theorem dX3_findSweeping_4 : decode cX3_findSweeping 4 = .ok (.iload_n 3, 1) := by decide +kernel
theorem dX3_findSweeping_42 : decode cX3_findSweeping 42 = .ok (.iconst 0, 1) := by decide +kernel
theorem dX3_findSweeping_43 : decode cX3_findSweeping 43 = .ok (.goto 5, 3) := by decide +kernel
theorem dX3_findSweeping_46 : decode cX3_findSweeping 46 = .ok (.ldc 47, 2) := by decide +kernel
theorem dX3_findSweeping_48 : decode cX3_findSweeping 48 = .ok (.putfield 33, 3) := by decide +kernel
theorem dX3_findSweeping_5 : decode cX3_findSweeping 5 = .ok (.aload_n 1, 1) := by decide +kernel
theorem dX3_findSweeping_51 : decode cX3_findSweeping 51 = .ok (.aload_n 0, 1) := by decide +kernel
theorem dX3_findSweeping_52 : decode cX3_findSweeping 52 = .ok (.iconst 0, 1) := by decide +kernel
theorem dX3_findSweeping_53 : decode cX3_findSweeping 53 = .ok (.putfield 36, 3) := by decide +kernel
theorem dX3_findSweeping_56 : decode cX3_findSweeping 56 = .ok (.iload_n 2, 1) := by decide +kernel
theorem dX3_findSweeping_57 : decode cX3_findSweeping 57 = .ok (.ifCond .eq 12, 3) := by decide +kernel
theorem dX3_findSweeping_6 : decode cX3_findSweeping 6 = .ok (.getfield 51, 3) := by decide +kernel
theorem dX3_findSweeping_60 : decode cX3_findSweeping 60 = .ok (.aload_n 0, 1) := by decide +kernel
theorem dX3_findSweeping_61 : decode cX3_findSweeping 61 = .ok (.aload_n 1, 1) := by decide +kernel
theorem dX3_findSweeping_62 : decode cX3_findSweeping 62 = .ok (.iload_n 2, 1) := by decide +kernel
theorem dX3_findSweeping_63 : decode cX3_findSweeping 63 = .ok (.iconst (-1), 1) := by decide +kernel
theorem dX3_findSweeping_64 : decode cX3_findSweeping 64 = .ok (.iconst 0, 1) := by decide +kernel
theorem dX3_findSweeping_65 : decode cX3_findSweeping 65 = .ok (.iconst 0, 1) := by decide +kernel
theorem dX3_findSweeping_66 : decode cX3_findSweeping 66 = .ok (.invokevirtual 59, 3) := by decide +kernel
theorem dX3_findSweeping_69 : decode cX3_findSweeping 69 = .ok (.return_, 1) := by decide +kernel
theorem dX3_findSweeping_9 : decode cX3_findSweeping 9 = .ok (.if_icmp .ge 28, 3) := by decide +kernel
theorem dX3_goOn_0 : decode cX3_goOn 0 = .ok (.iload_n 2, 1) := by decide +kernel
theorem dX3_goOn_1 : decode cX3_goOn 1 = .ok (.ifCond .ne 36, 3) := by decide +kernel
theorem dX3_goOn_12 : decode cX3_goOn 12 = .ok (.iadd, 1) := by decide +kernel
theorem dX3_goOn_13 : decode cX3_goOn 13 = .ok (.istore 6, 2) := by decide +kernel
theorem dX3_goOn_15 : decode cX3_goOn 15 = .ok (.iload 6, 2) := by decide +kernel
theorem dX3_goOn_17 : decode cX3_goOn 17 = .ok (.aload_n 0, 1) := by decide +kernel
theorem dX3_goOn_18 : decode cX3_goOn 18 = .ok (.getfield 33, 3) := by decide +kernel
theorem dX3_goOn_21 : decode cX3_goOn 21 = .ok (.if_icmp .ge 15, 3) := by decide +kernel
theorem dX3_goOn_24 : decode cX3_goOn 24 = .ok (.aload_n 0, 1) := by decide +kernel
theorem dX3_goOn_25 : decode cX3_goOn 25 = .ok (.iload 6, 2) := by decide +kernel
theorem dX3_goOn_27 : decode cX3_goOn 27 = .ok (.putfield 33, 3) := by decide +kernel
theorem dX3_goOn_30 : decode cX3_goOn 30 = .ok (.aload_n 0, 1) := by decide +kernel
theorem dX3_goOn_31 : decode cX3_goOn 31 = .ok (.iload 5, 2) := by decide +kernel
theorem dX3_goOn_33 : decode cX3_goOn 33 = .ok (.putfield 36, 3) := by decide +kernel
theorem dX3_goOn_36 : decode cX3_goOn 36 = .ok (.return_, 1) := by decide +kernel
theorem dX3_goOn_37 : decode cX3_goOn 37 = .ok (.iconst 0, 1) := by decide +kernel
theorem dX3_goOn_38 : decode cX3_goOn 38 = .ok (.istore 6, 2) := by decide +kernel
theorem dX3_goOn_4 : decode cX3_goOn 4 = .ok (.iload 4, 2) := by decide +kernel
theorem dX3_goOn_40 : decode cX3_goOn 40 = .ok (.iload 6, 2) := by decide +kernel
theorem dX3_goOn_42 : decode cX3_goOn 42 = .ok (.aload_n 1, 1) := by decide +kernel
theorem dX3_goOn_43 : decode cX3_goOn 43 = .ok (.getfield 51, 3) := by decide +kernel
theorem dX3_goOn_46 : decode cX3_goOn 46 = .ok (.if_icmp .ge 51, 3) := by decide +kernel
theorem dX3_goOn_49 : decode cX3_goOn 49 = .ok (.iload_n 2, 1) := by decide +kernel
theorem dX3_goOn_50 : decode cX3_goOn 50 = .ok (.iload 6, 2) := by decide +kernel
theorem dX3_goOn_52 : decode cX3_goOn 52 = .ok (.ishr, 1) := by decide +kernel
theorem dX3_goOn_53 : decode cX3_goOn 53 = .ok (.iconst 1, 1) := by decide +kernel
theorem dX3_goOn_54 : decode cX3_goOn 54 = .ok (.iand, 1) := by decide +kernel
theorem dX3_goOn_55 : decode cX3_goOn 55 = .ok (.ifCond .eq 36, 3) := by decide +kernel
theorem dX3_goOn_58 : decode cX3_goOn 58 = .ok (.aload_n 0, 1) := by decide +kernel
theorem dX3_goOn_59 : decode cX3_goOn 59 = .ok (.aload_n 1, 1) := by decide +kernel
theorem dX3_goOn_6 : decode cX3_goOn 6 = .ok (.aload_n 1, 1) := by decide +kernel
theorem dX3_goOn_60 : decode cX3_goOn 60 = .ok (.iload_n 2, 1) := by decide +kernel
theorem dX3_goOn_61 : decode cX3_goOn 61 = .ok (.iconst 1, 1) := by decide +kernel
theorem dX3_goOn_62 : decode cX3_goOn 62 = .ok (.iload 6, 2) := by decide +kernel
theorem dX3_goOn_64 : decode cX3_goOn 64 = .ok (.ishl, 1) := by decide +kernel
theorem dX3_goOn_65 : decode cX3_goOn 65 = .ok (.iconst (-1), 1) := by decide +kernel
theorem dX3_goOn_66 : decode cX3_goOn 66 = .ok (.ixor, 1) := by decide +kernel
theorem dX3_goOn_67 : decode cX3_goOn 67 = .ok (.iand, 1) := by decide +kernel
theorem dX3_goOn_68 : decode cX3_goOn 68 = .ok (.iload 6, 2) := by decide +kernel
theorem dX3_goOn_7 : decode cX3_goOn 7 = .ok (.iload_n 3, 1) := by decide +kernel
theorem dX3_goOn_70 : decode cX3_goOn 70 = .ok (.iload 4, 2) := by decide +kernel
theorem dX3_goOn_72 : decode cX3_goOn 72 = .ok (.aload_n 1, 1) := by decide +kernel
theorem dX3_goOn_73 : decode cX3_goOn 73 = .ok (.iload_n 3, 1) := by decide +kernel
theorem dX3_goOn_74 : decode cX3_goOn 74 = .ok (.iload 6, 2) := by decide +kernel
theorem dX3_goOn_76 : decode cX3_goOn 76 = .ok (.invokestatic 63, 3) := by decide +kernel
theorem dX3_goOn_79 : decode cX3_goOn 79 = .ok (.iadd, 1) := by decide +kernel
theorem dX3_goOn_8 : decode cX3_goOn 8 = .ok (.iconst (-1), 1) := by decide +kernel
theorem dX3_goOn_80 : decode cX3_goOn 80 = .ok (.iload 5, 2) := by decide +kernel
theorem dX3_goOn_82 : decode cX3_goOn 82 = .ok (.bipush 10, 2) := by decide +kernel
theorem dX3_goOn_84 : decode cX3_goOn 84 = .ok (.imul, 1) := by decide +kernel
theorem dX3_goOn_85 : decode cX3_goOn 85 = .ok (.iload 6, 2) := by decide +kernel
theorem dX3_goOn_87 : decode cX3_goOn 87 = .ok (.iadd, 1) := by decide +kernel
theorem dX3_goOn_88 : decode cX3_goOn 88 = .ok (.invokevirtual 59, 3) := by decide +kernel
theorem dX3_goOn_9 : decode cX3_goOn 9 = .ok (.invokestatic 63, 3) := by decide +kernel
theorem dX3_goOn_91 : decode cX3_goOn 91 = .ok (.iinc 6 1, 3) := by decide +kernel
theorem dX3_goOn_94 : decode cX3_goOn 94 = .ok (.goto (-54), 3) := by decide +kernel
theorem dX3_goOn_97 : decode cX3_goOn 97 = .ok (.return_, 1) := by decide +kernel
def GOC : List Cond := ([.methodLink RX3 59 yX3_goOn, .instanceMethod yX3_goOn, .selects RX3 yX3_goOn yX3_goOn, .initialized RX3, .code yX3_goOn cX3_goOn 7 none, .fieldLink RX3 33 "KerbSplash$Orders" "least" "I", .fieldLink RX3 36 "KerbSplash$Orders" "order" "I"] : List Cond) ++ ((wsX60) ++ ((va_wsS RX3 63 yX3_steps vs_o_steps) ++ ((wsX30) ++ ([]))))
theorem gd_GOC : GOC.all goodWord = true := gd_A (by decide +kernel) (gd_A (by decide +kernel) (gd_A (gd_S gd_o_steps (by decide +kernel)) (gd_A (by decide +kernel) rfl)))
def vs_o_goOn : List Cond := .code yX3_goOn cX3_goOn 7 none :: GOC
theorem gd_o_goOn : vs_o_goOn.all goodWord = true := gd_C (by decide +kernel) gd_GOC
def GO (l : Launch) (D : va_G) (cy : Nat → ClassId) (sa : Nat → Nat) (d : Nat) : Prop := (∀ (or_ be : Nat) (late lea ord : Int) (sA s2 s3 s6 s8 s11 s13 : Nat) (wi ro dr dt pe gu sh wo dn mi fl tk go : Int) (df : Nat → Int32) (lf ls_ fa gn : Int) (sz : Nat) (hr_late : (-2147483648) ≤ late ∧ late ≤ 2147483647) (hr_lea : (-2147483648) ≤ lea ∧ lea ≤ 2147483647) (hr_ord : (-2147483648) ≤ ord ∧ ord ≤ 2147483647) (hr_wi : 0 ≤ wi ∧ wi ≤ 16) (hr_ro : 0 ≤ ro ∧ ro ≤ 6) (hr_dr : 0 ≤ dr ∧ dr ≤ 14) (hr_dt : 0 ≤ dt ∧ dt ≤ 6) (hr_pe : 0 ≤ pe ∧ pe ≤ 8) (hr_gu : 0 ≤ gu ∧ gu ≤ 20) (hr_sh : 0 ≤ sh ∧ sh ≤ 2) (hr_wo : 0 ≤ wo ∧ wo ≤ 8) (hr_dn : (-2147483648) ≤ dn ∧ dn ≤ 2147483647) (hr_mi : 0 ≤ mi ∧ mi ≤ 600) (hr_fl : (-2147483648) ≤ fl ∧ fl ≤ 2147483647) (hr_tk : (-2147483648) ≤ tk ∧ tk ≤ 2147483647) (hr_go : (-2147483648) ≤ go ∧ go ≤ 2147483647) (hr_lf : 0 ≤ lf ∧ lf ≤ 63) (hr_ls_ : (-1) ≤ ls_ ∧ ls_ ≤ 13) (hr_fa : (-2147483648) ≤ fa ∧ fa ≤ 2147483647) (hr_gn : (-2147483648) ≤ gn ∧ gn ≤ 2147483647) (hdf : tab_ 4 14 [0, 0, 0, 0] [15, 5, 99, 16] df) (hlev : lf < ((d : Nat) : Int)), mV9 l yX3_goOn vs_o_goOn ({ frames := 3 * (d) + 0, cells := 0, slots := 0, locals := 150 * (d) + 0 }) D cy sa sz [vR or_, vR sA, vI lf, vI ls_, vI fa, vI gn] [zO or_ 3 [vI late, vI lea, vI ord, vR be], zO sA 6 [vI wi, vI ro, vR s2, vR s3, vI dr, vI dt, vR s6, vI pe, vR s8, vI gu, vI sh, vR s11, vI wo, vR s13, vI dn, vI mi, vI fl, vI tk, vI go], zI s6 (cy 0) 56 df] (fun u : SV => ((-2147483648) ≤ u.2.1 0 ∧ u.2.1 0 ≤ 2147483647) ∧ ((-2147483648) ≤ u.2.1 1 ∧ u.2.1 1 ≤ 2147483647) ∧ tab_ 4 14 [0, 0, 0, 0] [15, 5, 99, 16] df) (fun u : SV => [zO or_ 3 [vI late, vI (u.2.1 0), vI (u.2.1 1), vR be], zO sA 6 [vI wi, vI ro, vR s2, vR s3, vI dr, vI dt, vR s6, vI pe, vR s8, vI gu, vI sh, vR s11, vI wo, vR s13, vI dn, vI mi, vI fl, vI tk, vI go], zI s6 (cy 0) 56 df]) 0 0)
set_option maxHeartbeats 4000000 in
set_option maxRecDepth 100000 in
theorem o_goOn_step (l : Launch) (hl : l.stackTraces = false) (D : va_G) (cy : Nat → ClassId) (sa : Nat → Nat) (d : Nat) (IH : GO l D cy sa d) (or_ be : Nat) (late lea ord : Int) (sA s2 s3 s6 s8 s11 s13 : Nat) (wi ro dr dt pe gu sh wo dn mi fl tk go : Int) (df : Nat → Int32) (lf ls_ fa gn : Int) (sz : Nat) (hr_late : (-2147483648) ≤ late ∧ late ≤ 2147483647) (hr_lea : (-2147483648) ≤ lea ∧ lea ≤ 2147483647) (hr_ord : (-2147483648) ≤ ord ∧ ord ≤ 2147483647) (hr_wi : 0 ≤ wi ∧ wi ≤ 16) (hr_ro : 0 ≤ ro ∧ ro ≤ 6) (hr_dr : 0 ≤ dr ∧ dr ≤ 14) (hr_dt : 0 ≤ dt ∧ dt ≤ 6) (hr_pe : 0 ≤ pe ∧ pe ≤ 8) (hr_gu : 0 ≤ gu ∧ gu ≤ 20) (hr_sh : 0 ≤ sh ∧ sh ≤ 2) (hr_wo : 0 ≤ wo ∧ wo ≤ 8) (hr_dn : (-2147483648) ≤ dn ∧ dn ≤ 2147483647) (hr_mi : 0 ≤ mi ∧ mi ≤ 600) (hr_fl : (-2147483648) ≤ fl ∧ fl ≤ 2147483647) (hr_tk : (-2147483648) ≤ tk ∧ tk ≤ 2147483647) (hr_go : (-2147483648) ≤ go ∧ go ≤ 2147483647) (hr_lf : 0 ≤ lf ∧ lf ≤ 63) (hr_ls_ : (-1) ≤ ls_ ∧ ls_ ≤ 13) (hr_fa : (-2147483648) ≤ fa ∧ fa ≤ 2147483647) (hr_gn : (-2147483648) ≤ gn ∧ gn ≤ 2147483647) (hdf : tab_ 4 14 [0, 0, 0, 0] [15, 5, 99, 16] df) (hlev : lf < ((d + 1 : Nat) : Int)) : mV9 l yX3_goOn vs_o_goOn ({ frames := 3 * (d + 1) + 0, cells := 0, slots := 0, locals := 150 * (d + 1) + 0 }) D cy sa sz [vR or_, vR sA, vI lf, vI ls_, vI fa, vI gn] [zO or_ 3 [vI late, vI lea, vI ord, vR be], zO sA 6 [vI wi, vI ro, vR s2, vR s3, vI dr, vI dt, vR s6, vI pe, vR s8, vI gu, vI sh, vR s11, vI wo, vR s13, vI dn, vI mi, vI fl, vI tk, vI go], zI s6 (cy 0) 56 df] (fun u : SV => ((-2147483648) ≤ u.2.1 0 ∧ u.2.1 0 ≤ 2147483647) ∧ ((-2147483648) ≤ u.2.1 1 ∧ u.2.1 1 ≤ 2147483647) ∧ tab_ 4 14 [0, 0, 0, 0] [15, 5, 99, 16] df) (fun u : SV => [zO or_ 3 [vI late, vI (u.2.1 0), vI (u.2.1 1), vR be], zO sA 6 [vI wi, vI ro, vR s2, vR s3, vI dr, vI dt, vR s6, vI pe, vR s8, vI gu, vI sh, vR s11, vI wo, vR s13, vI dn, vI mi, vI fl, vI tk, vI go], zI s6 (cy 0) 56 df]) 0 0 := by
  refine Met.ofW (cc := cX3_goOn) (maxL := 7) (ret := none) (by decide) rfl ?_
  intro p e s m args below meth c s₁ B hml hv
  obtain ⟨rfl, hsz, hP, hG, hD0, hT⟩ := hv
  have hx := B.exec
  have hb := B.bytes
  have hr := B.returns
  have hts := atoms_spec (ws := vs_o_goOn) B.pre
  have hown : s.vm.findClass RX3 = some m.cls := findClass_of_methodNamed B.named
  have hlocks := B.notSynchronized
  subst hsz
  have hD := hD0.self (sz := s.heap.size)
  generalize hAe : va_A [zO or_ 3 [vI late, vI lea, vI ord, vR be], zO sA 6 [vI wi, vI ro, vR s2, vR s3, vI dr, vI dt, vR s6, vI pe, vR s8, vI gu, vI sh, vR s11, vI wo, vR s13, vI dn, vI mi, vI fl, vI tk, vI go], zI s6 (cy 0) 56 df] s.heap.size = A at hD hT ⊢
  have hA : ∀ q : Nat, s.heap.size ≤ q → A q := fun q h => by rw [← hAe]; exact Or.inr h
  have hS : va_S A s.heap s.heap [] := va_S.rf
  have hl0 := lv_entry ([vR or_, vR sA, vI lf, vI ls_, vI fa, vI gn]) (n := 7) (Nat.le_of_ble_eq_true rfl)
  rw [lg_entry_eq]
  generalize (lg_sl ([vR or_, vR sA, vI lf, vI ls_, vI fa, vI gn]) ++ List.replicate (7 - (lg_sl ([vR or_, vR sA, vI lf, vI ls_, vI fa, vI gn])).length) Slot.unset).toArray = ls at hl0 ⊢
  have hlv : lv_has ls 7 [(0, vR or_), (1, vR sA), (2, vI lf), (3, vI ls_), (4, vI fa), (5, vI gn)] := hl0
  have hi6 : ∀ w ∈ wsX60, w ∈ vs_o_goOn := fun w h => List.mem_cons_of_mem _ (List.mem_append_right _ (List.mem_append_left _ h))
  have gg_1 : GoodIn vs_o_goOn (va_wsS RX3 63 yX3_steps vs_o_steps) := goodIn_sub (fun w h => List.mem_cons_of_mem _ (List.mem_append_right _ (List.mem_append_right _ (List.mem_append_left _ h)))) (gd_S gd_o_steps (by decide +kernel))
  have gh_X3_goOn_59 : GoodIn vs_o_goOn (wsV RX3 59 RX3 yX3_goOn vs_o_goOn) := goodIn_sub (gsub_V (List.mem_append_left _ (List.mem_of_getElem? (i := 0) rfl)) (List.mem_append_left _ (List.mem_of_getElem? (i := 1) rfl)) (List.mem_append_left _ (List.mem_of_getElem? (i := 2) rfl)) (List.mem_append_left _ (List.mem_of_getElem? (i := 3) rfl)) (List.mem_append_left _ (List.mem_of_getElem? (i := 4) rfl))) (gd_V (gd_C (by decide +kernel) gd_GOC) (by decide +kernel))
  have lf33 := hts (.fieldLink RX3 33 "KerbSplash$Orders" "least" "I") (List.mem_of_getElem? (i := 6) rfl)
  have hi3 : ∀ w ∈ wsX30, w ∈ vs_o_goOn := fun w h => List.mem_cons_of_mem _ (List.mem_append_right _ (List.mem_append_right _ (List.mem_append_right _ (List.mem_append_left _ h))))
  have lf36 := hts (.fieldLink RX3 36 "KerbSplash$Orders" "order" "I") (List.mem_of_getElem? (i := 7) rfl)
  refine lv_iload_n hx hb dX3_goOn_0 rfl (lv_at hlv 2 rfl) ?_
  refine iz_ne (tgt := 37) hx hb dX3_goOn_1 (by decide) (by first | exact rgw hr_lf (by decide) (by decide) | omega) (fun c_1 => ?_) (fun c_1 => ?_)
  · refine lv_iconst (v := iI 0) hx hb dX3_goOn_37 (by decide) ?_
    refine lv_istore (lv' := [(6, vI 0), (0, vR or_), (1, vR sA), (2, vI lf), (3, vI ls_), (4, vI fa), (5, vI gn)]) hx hb dX3_goOn_38 hlv (by decide) rfl (fun ls hlv => ?_)
    refine (?_ : ∀ (fu : Nat) (q6 : Int) (ql : Int) (qo : Int) (H : Heap) (locs : List Loc) (ls : Array Slot), 6 - q6 < (fu : Int) → (0 ≤ q6 ∧ q6 ≤ 6) → ((-2147483648) ≤ ql ∧ ql ≤ 2147483647) → ((-2147483648) ≤ qo ∧ qo ≤ 2147483647) → va_P D vwCl [zO or_ 3 [vI late, vI ql, vI qo, vR be], zO sA 6 [vI wi, vI ro, vR s2, vR s3, vI dr, vI dt, vR s6, vI pe, vR s8, vI gu, vI sh, vR s11, vI wo, vR s13, vI dn, vI mi, vI fl, vI tk, vI go], zI s6 (cy 0) 56 df] H → va_D A [zO or_ 3 [vI late, vI ql, vI qo, vR be], zO sA 6 [vI wi, vI ro, vR s2, vR s3, vI dr, vI dt, vR s6, vI pe, vR s8, vI gu, vI sh, vR s11, vI wo, vR s13, vI dn, vI mi, vI fl, vI tk, vI go], zI s6 (cy 0) 56 df] → va_S A s.heap H locs → lv_has ls 7 [(6, vI q6), (0, vR or_), (1, vR sA), (2, vI lf), (3, vI ls_), (4, vI fa), (5, vI gn)] → W p l e _ s m _ below meth c H locs _ _ _ (F0 m 40 ls [])) (((6 - 0) + 1 : Int)).toNat 0 lea ord _ _ _ (by omega) (by show (0 : Int) ≤ 0 ∧ (0 : Int) ≤ 6; decide) (by first | exact hr_lea | omega) (by first | exact hr_ord | omega)  hP hD hS hlv
    clear hP hD hS hlv
    intro fu
    induction fu with
    | zero => intro q6 ql qo H locs ls hm40 hl40_0 hl40_1 hl40_2  hP hD hS hlv; omega
    | succ fu ih40 =>
      intro q6 ql qo H locs ls hm40 hl40_0 hl40_1 hl40_2  hP hD hS hlv
      refine lv_iload hx hb dX3_goOn_40 (lv_at hlv 0 rfl) ?_
      refine lv_aload_n hx hb dX3_goOn_42 rfl (lv_at hlv 2 rfl) ?_
      refine va_getN (D := D) (ci := 6) (v := vI dt) (C := RX6) (T := TX6) (N := 19) hx hb hts hi6 hown hG.1 hP 1 rfl rfl 5 (by decide) (va_Nw.use rfl (nF_Orders_51 hG.2.1)) (fun _ h9 => h9) rfl dX3_goOn_43 ?_
      refine ir_ge (tgt := 97) hx hb dX3_goOn_46 (by decide) (by first | exact rgw hl40_0 (by decide) (by decide) | omega) (by first | exact rgw hr_dt (by decide) (by decide) | omega) (fun c_2 => ?_) (fun c_2 => ?_)
      · refine W.widen (k := 0) (n := 0) (Nat.le_of_ble_eq_true rfl) (Nat.le_of_ble_eq_true rfl) ?_
        exact W.vret hx hb hr (fun t ht hW => ⟨⟨((fun k => ([] : List Nat).getD k 0), (fun k => ([ql, qo] : List Int).getD k 0), (fun k => ([] : List (Nat → Int32)).getD k (fun _ => 0))), rfl, ⟨(by show ((-2147483648) ≤ ql ∧ ql ≤ 2147483647); first | exact hl40_1 | omega), (by show ((-2147483648) ≤ qo ∧ qo ≤ 2147483647); first | exact hl40_2 | omega), hdf⟩, at9 ht hP hD [0, 1, 2] (by decide +kernel) rfl⟩, hS.F ht⟩) hS.2.2 dX3_goOn_97
      · refine lv_iload_n hx hb dX3_goOn_49 rfl (lv_at hlv 3 rfl) ?_
        refine lv_iload hx hb dX3_goOn_50 (lv_at hlv 0 rfl) ?_
        refine lv_ishr hx hb dX3_goOn_52 ?_
        refine lt_z (fun z_3 ez_3 lz_3 hz_3 => ?_)
        refine lv_iconst (v := iI 1) hx hb dX3_goOn_53 (by decide) ?_
        refine lv_iand hx hb dX3_goOn_54 ?_
        refine lt_aE 1 (by decide) (by decide) (hi := 1) (by decide) (fun z_4 ez_4 lz_4 hz_4 => ?_)
        refine iz_eq (tgt := 91) hx hb dX3_goOn_55 (by decide) (by omega) (fun c_5 => ?_) (fun c_5 => ?_)
        · obtain ⟨z_6, hz_6⟩ : ∃ z : Int, z = q6 + 1 := ⟨_, rfl⟩
          refine lv_iinc (v := iI z_6) (lv' := [(6, vI z_6), (0, vR or_), (1, vR sA), (2, vI lf), (3, vI ls_), (4, vI fa), (5, vI gn)]) hx hb dX3_goOn_91 hlv (k := 0) rfl (by rw [hz_6]; exact (Int32.ofInt_add _ _).symm) (by decide) rfl (fun ls hlv => ?_)
          refine lv_goto (tgt := 40) hx hb dX3_goOn_94 (by decide) ?_
          exact ih40 z_6 ql qo H locs ls (by omega) (by omega) (by first | exact hl40_1 | omega) (by first | exact hl40_2 | omega)  (hP.sub [0, 1, 2] rfl) (hD.sub [0, 1, 2] (by decide) rfl) hS (lv_sub hlv [0, 1, 2, 3, 4, 5, 6] rfl)
        · refine lv_aload_n hx hb dX3_goOn_58 rfl (lv_at hlv 1 rfl) ?_
          refine lv_aload_n hx hb dX3_goOn_59 rfl (lv_at hlv 2 rfl) ?_
          refine lv_iload_n hx hb dX3_goOn_60 rfl (lv_at hlv 3 rfl) ?_
          refine lv_iconst (v := iI 1) hx hb dX3_goOn_61 (by decide) ?_
          refine lv_iload hx hb dX3_goOn_62 (lv_at hlv 0 rfl) ?_
          refine lv_ishl hx hb dX3_goOn_64 ?_
          refine lt_sh2 (n := 5) (M := 32) (by decide) (by decide) (by omega) (fun z_7 ez_7 lz_7 hz_7 => ?_)
          refine lv_iconst (v := iI (-1)) hx hb dX3_goOn_65 (by decide) ?_
          refine lv_ixor hx hb dX3_goOn_66 ?_
          refine lt_z (fun z_8 ez_8 lz_8 hz_8 => ?_)
          refine lv_iand hx hb dX3_goOn_67 ?_
          obtain ⟨z_9, ez_9, lz_9, hz_9⟩ := go_dec2 (a := lf) (k := q6) (by omega) (by omega) ez_7 ez_8 ez_3 ez_4 (by omega) (by omega)
          refine lt_i (y := iI z_9) ez_9 ?_
          refine lv_iload hx hb dX3_goOn_68 (lv_at hlv 0 rfl) ?_
          refine lv_iload hx hb dX3_goOn_70 (lv_at hlv 5 rfl) ?_
          refine lv_aload_n hx hb dX3_goOn_72 rfl (lv_at hlv 2 rfl) ?_
          refine lv_iload_n hx hb dX3_goOn_73 rfl (lv_at hlv 4 rfl) ?_
          refine lv_iload hx hb dX3_goOn_74 (lv_at hlv 0 rfl) ?_
          refine cjr_i [true, false, false] (fun pre9 => (va_runS (As := [vR sA, vI ls_, vI q6]) (rest := [vI fa, vI q6, vI z_9, vR sA, vR or_]) ⟨hx, hb, hml, hown, hts⟩ (o_steps l hl D cy sa sA s2 s3 s6 s8 s11 s13 wi ro dr dt pe gu sh wo dn mi fl tk go df ls_ q6 H.size (by first | exact hr_wi | omega) (by first | exact hr_ro | omega) (by first | exact hr_dr | omega) (by first | exact hr_dt | omega) (by first | exact hr_pe | omega) (by first | exact hr_gu | omega) (by first | exact hr_sh | omega) (by first | exact hr_wo | omega) (by first | exact hr_dn | omega) (by first | exact hr_mi | omega) (by first | exact hr_fl | omega) (by first | exact hr_tk | omega) (by first | exact hr_go | omega) (by first | exact hr_ls_ | omega) (by first | exact rgw hl40_0 (by decide) (by decide) | omega) hdf) (va_cwS 3 hts gg_1 rfl rfl rfl (by decide +kernel) ⟨by dsimp only [headSpec]; omega, by dsimp only [headSpec]; omega⟩) ⟨pcW.blind, pre9⟩ rfl rfl hlv.1 rfl (lv_room (Nat.le_of_ble_eq_true rfl)) dX3_goOn_76 ⟨Nat.le_of_ble_eq_true rfl, Nat.le_of_ble_eq_true rfl⟩)) hP hD hS hA hG hT [1, 2] rfl (by decide +kernel) (fun r1 u1 H locs hw1 hq9 hS => ?_)
          obtain ⟨rfl, hq1_1, hq1_2⟩ := hw1
          obtain ⟨hP, hD⟩ := pd9 [zO or_ 3 [vI late, vI ql, vI qo, vR be], zO sA 6 [vI wi, vI ro, vR s2, vR s3, vI dr, vI dt, vR s6, vI pe, vR s8, vI gu, vI sh, vR s11, vI wo, vR s13, vI dn, vI mi, vI fl, vI tk, vI go], zI s6 (cy 0) 56 df] hq9
          refine lv_iadd hx hb dX3_goOn_79 ?_
          refine lt_z (fun z_10 ez_10 lz_10 hz_10 => ?_)
          refine lv_iload hx hb dX3_goOn_80 (lv_at hlv 6 rfl) ?_
          refine lv_bipush (v := iI 10) hx hb dX3_goOn_82 (by decide) ?_
          refine lv_imul hx hb dX3_goOn_84 ?_
          refine lt_z (fun z_11 ez_11 lz_11 hz_11 => ?_)
          refine lv_iload hx hb dX3_goOn_85 (lv_at hlv 0 rfl) ?_
          refine lv_iadd hx hb dX3_goOn_87 ?_
          refine lt_z (fun z_12 ez_12 lz_12 hz_12 => ?_)
          refine cjr_v [false, false, false] (fun pre9 => (va_runV (As := [vR sA, vI z_9, vI q6, vI z_10, vI z_12]) (rest := []) ⟨hx, hb, hml, hown, hts⟩ (IH or_ be late ql qo sA s2 s3 s6 s8 s11 s13 wi ro dr dt pe gu sh wo dn mi fl tk go df z_9 q6 z_10 z_12 H.size (by first | exact hr_late | omega) (by first | exact hl40_1 | omega) (by first | exact hl40_2 | omega) (by first | exact hr_wi | omega) (by first | exact hr_ro | omega) (by first | exact hr_dr | omega) (by first | exact hr_dt | omega) (by first | exact hr_pe | omega) (by first | exact hr_gu | omega) (by first | exact hr_sh | omega) (by first | exact hr_wo | omega) (by first | exact hr_dn | omega) (by first | exact hr_mi | omega) (by first | exact hr_fl | omega) (by first | exact hr_tk | omega) (by first | exact hr_go | omega) (by omega) (by first | exact rgw hl40_0 (by decide) (by decide) | omega) (by omega) (by omega) hq1_2 (by omega)) (cwV 5 hts gh_X3_goOn_59 rfl rfl rfl (by decide +kernel) ⟨by dsimp only [headSpec]; omega, by dsimp only [headSpec]; omega⟩) ⟨pcW.blind, (va_recv hG.1 hP (ci := 3) (q0 := 0) rfl rfl), pre9⟩ rfl rfl hlv.1 rfl (lv_room (Nat.le_of_ble_eq_true rfl)) dX3_goOn_88 ⟨Nat.le_of_ble_eq_true rfl, Nat.le_of_ble_eq_true rfl⟩)) hP hD hS hA hG hT [0, 1, 2] rfl (by decide +kernel) (fun u2 H locs hw2 hq9 hS => ?_)
          obtain ⟨hq2_0, hq2_1, hq2_2⟩ := hw2
          obtain ⟨hP, hD⟩ := pd9 [zO or_ 3 [vI late, vI (u2.2.1 0), vI (u2.2.1 1), vR be], zO sA 6 [vI wi, vI ro, vR s2, vR s3, vI dr, vI dt, vR s6, vI pe, vR s8, vI gu, vI sh, vR s11, vI wo, vR s13, vI dn, vI mi, vI fl, vI tk, vI go], zI s6 (cy 0) 56 df] hq9
          obtain ⟨z_13, hz_13⟩ : ∃ z : Int, z = q6 + 1 := ⟨_, rfl⟩
          refine lv_iinc (v := iI z_13) (lv' := [(6, vI z_13), (0, vR or_), (1, vR sA), (2, vI lf), (3, vI ls_), (4, vI fa), (5, vI gn)]) hx hb dX3_goOn_91 hlv (k := 0) rfl (by rw [hz_13]; exact (Int32.ofInt_add _ _).symm) (by decide) rfl (fun ls hlv => ?_)
          refine lv_goto (tgt := 40) hx hb dX3_goOn_94 (by decide) ?_
          exact ih40 z_13 (u2.2.1 0) (u2.2.1 1) H locs ls (by omega) (by omega) (by first | exact hq2_0 | omega) (by first | exact hq2_1 | omega)  (hP.sub [0, 1, 2] rfl) (hD.sub [0, 1, 2] (by decide) rfl) hS (lv_sub hlv [0, 1, 2, 3, 4, 5, 6] rfl)
  · refine lv_iload hx hb dX3_goOn_4 (lv_at hlv 4 rfl) ?_
    refine lv_aload_n hx hb dX3_goOn_6 rfl (lv_at hlv 1 rfl) ?_
    refine lv_iload_n hx hb dX3_goOn_7 rfl (lv_at hlv 3 rfl) ?_
    refine lv_iconst (v := iI (-1)) hx hb dX3_goOn_8 (by decide) ?_
    refine cjr_i [true, false, false] (fun pre9 => (va_runS (As := [vR sA, vI ls_, vI (-1)]) (rest := [vI fa]) ⟨hx, hb, hml, hown, hts⟩ (o_steps l hl D cy sa sA s2 s3 s6 s8 s11 s13 wi ro dr dt pe gu sh wo dn mi fl tk go df ls_ (-1) s.heap.size (by first | exact hr_wi | omega) (by first | exact hr_ro | omega) (by first | exact hr_dr | omega) (by first | exact hr_dt | omega) (by first | exact hr_pe | omega) (by first | exact hr_gu | omega) (by first | exact hr_sh | omega) (by first | exact hr_wo | omega) (by first | exact hr_dn | omega) (by first | exact hr_mi | omega) (by first | exact hr_fl | omega) (by first | exact hr_tk | omega) (by first | exact hr_go | omega) (by first | exact hr_ls_ | omega) (by show ((-1) : Int) ≤ (-1) ∧ ((-1) : Int) ≤ 13; decide) hdf) (va_cwS 3 hts gg_1 rfl rfl rfl (by decide +kernel) ⟨by dsimp only [headSpec]; omega, by dsimp only [headSpec]; omega⟩) ⟨pcW.blind, pre9⟩ rfl rfl hlv.1 rfl (lv_room (Nat.le_of_ble_eq_true rfl)) dX3_goOn_9 ⟨Nat.le_of_ble_eq_true rfl, Nat.le_of_ble_eq_true rfl⟩)) hP hD hS hA hG hT [1, 2] rfl (by decide +kernel) (fun r3 u3 H locs hw3 hq9 hS => ?_)
    obtain ⟨rfl, hq3_1, hq3_2⟩ := hw3
    obtain ⟨hP, hD⟩ := pd9 [zO or_ 3 [vI late, vI lea, vI ord, vR be], zO sA 6 [vI wi, vI ro, vR s2, vR s3, vI dr, vI dt, vR s6, vI pe, vR s8, vI gu, vI sh, vR s11, vI wo, vR s13, vI dn, vI mi, vI fl, vI tk, vI go], zI s6 (cy 0) 56 df] hq9
    refine lv_iadd hx hb dX3_goOn_12 ?_
    refine lt_z (fun z_14 ez_14 lz_14 hz_14 => ?_)
    refine lv_istore (lv' := [(6, vI z_14), (0, vR or_), (1, vR sA), (2, vI lf), (3, vI ls_), (4, vI fa), (5, vI gn)]) hx hb dX3_goOn_13 hlv (by decide) rfl (fun ls hlv => ?_)
    refine lv_iload hx hb dX3_goOn_15 (lv_at hlv 0 rfl) ?_
    refine lv_aload_n hx hb dX3_goOn_17 rfl (lv_at hlv 1 rfl) ?_
    refine va_get (D := D) (ci := 3) (v := vI lea) (C := RX3) (T := TX3) (N := 4) hx hb hts hi3 hown hG.1 hP 0 rfl rfl 1 (by decide) lf33 (fun _ h9 => h9) rfl dX3_goOn_18 ?_
    refine ir_ge (tgt := 36) hx hb dX3_goOn_21 (by decide) (by omega) (by first | exact hr_lea | omega) (fun c_15 => ?_) (fun c_15 => ?_)
    · refine W.widen (k := 0) (n := 0) (Nat.le_of_ble_eq_true rfl) (Nat.le_of_ble_eq_true rfl) ?_
      exact W.vret hx hb hr (fun t ht hW => ⟨⟨((fun k => ([] : List Nat).getD k 0), (fun k => ([lea, ord] : List Int).getD k 0), (fun k => ([] : List (Nat → Int32)).getD k (fun _ => 0))), rfl, ⟨(by show ((-2147483648) ≤ lea ∧ lea ≤ 2147483647); first | exact hr_lea | omega), (by show ((-2147483648) ≤ ord ∧ ord ≤ 2147483647); first | exact hr_ord | omega), hq3_2⟩, at9 ht hP hD [0, 1, 2] (by decide +kernel) rfl⟩, hS.F ht⟩) hS.2.2 dX3_goOn_36
    · refine lv_aload_n hx hb dX3_goOn_24 rfl (lv_at hlv 1 rfl) ?_
      refine lv_iload hx hb dX3_goOn_25 (lv_at hlv 0 rfl) ?_
      refine va_put (D := D) (ci := 3) (v := vI z_14) (ty := .int) (C := RX3) (T := TX3) (N := 4) hx hb hts hi3 tyX3 tyX3_ok nmX3 hown hG.1 hP hD hS 0 rfl rfl 1 (by decide) lf33 (fun _ h9 => h9) rfl (by decide +kernel) rfl rfl (Nat.le_of_ble_eq_true rfl) dX3_goOn_27 (fun H locs hP hD hS => ?_)
      obtain ⟨hP, hD⟩ := pw9 [zO or_ 3 [vI late, vI z_14, vI ord, vR be], zO sA 6 [vI wi, vI ro, vR s2, vR s3, vI dr, vI dt, vR s6, vI pe, vR s8, vI gu, vI sh, vR s11, vI wo, vR s13, vI dn, vI mi, vI fl, vI tk, vI go], zI s6 (cy 0) 56 df] hP hD
      refine lv_aload_n hx hb dX3_goOn_30 rfl (lv_at hlv 1 rfl) ?_
      refine lv_iload hx hb dX3_goOn_31 (lv_at hlv 6 rfl) ?_
      refine va_put (D := D) (ci := 3) (v := vI gn) (ty := .int) (C := RX3) (T := TX3) (N := 4) hx hb hts hi3 tyX3 tyX3_ok nmX3 hown hG.1 hP hD hS 0 rfl rfl 2 (by decide) lf36 (fun _ h9 => h9) rfl (by decide +kernel) rfl rfl (Nat.le_of_ble_eq_true rfl) dX3_goOn_33 (fun H locs hP hD hS => ?_)
      obtain ⟨hP, hD⟩ := pw9 [zO or_ 3 [vI late, vI z_14, vI gn, vR be], zO sA 6 [vI wi, vI ro, vR s2, vR s3, vI dr, vI dt, vR s6, vI pe, vR s8, vI gu, vI sh, vR s11, vI wo, vR s13, vI dn, vI mi, vI fl, vI tk, vI go], zI s6 (cy 0) 56 df] hP hD
      refine W.widen (k := 0) (n := 0) (Nat.le_of_ble_eq_true rfl) (Nat.le_of_ble_eq_true rfl) ?_
      exact W.vret hx hb hr (fun t ht hW => ⟨⟨((fun k => ([] : List Nat).getD k 0), (fun k => ([z_14, gn] : List Int).getD k 0), (fun k => ([] : List (Nat → Int32)).getD k (fun _ => 0))), rfl, ⟨(by show ((-2147483648) ≤ z_14 ∧ z_14 ≤ 2147483647); omega), (by show ((-2147483648) ≤ gn ∧ gn ≤ 2147483647); first | exact hr_gn | omega), hq3_2⟩, at9 ht hP hD [0, 1, 2] (by decide +kernel) rfl⟩, hS.F ht⟩) hS.2.2 dX3_goOn_36
theorem GO_all (l : Launch) (hl : l.stackTraces = false) (D : va_G) (cy : Nat → ClassId) (sa : Nat → Nat) : ∀ d : Nat, GO l D cy sa d := by
  intro d
  induction d with
  | zero => exact fun or_ be late lea ord sA s2 s3 s6 s8 s11 s13 wi ro dr dt pe gu sh wo dn mi fl tk go df lf ls_ fa gn sz hr_late hr_lea hr_ord hr_wi hr_ro hr_dr hr_dt hr_pe hr_gu hr_sh hr_wo hr_dn hr_mi hr_fl hr_tk hr_go hr_lf hr_ls_ hr_fa hr_gn hdf hlev => by exfalso; omega
  | succ d ih => exact fun or_ be late lea ord sA s2 s3 s6 s8 s11 s13 wi ro dr dt pe gu sh wo dn mi fl tk go df lf ls_ fa gn sz hr_late hr_lea hr_ord hr_wi hr_ro hr_dr hr_dt hr_pe hr_gu hr_sh hr_wo hr_dn hr_mi hr_fl hr_tk hr_go hr_lf hr_ls_ hr_fa hr_gn hdf hlev => o_goOn_step l hl D cy sa d ih or_ be late lea ord sA s2 s3 s6 s8 s11 s13 wi ro dr dt pe gu sh wo dn mi fl tk go df lf ls_ fa gn sz hr_late hr_lea hr_ord hr_wi hr_ro hr_dr hr_dt hr_pe hr_gu hr_sh hr_wo hr_dn hr_mi hr_fl hr_tk hr_go hr_lf hr_ls_ hr_fa hr_gn hdf hlev
theorem o_goOn (l : Launch) (hl : l.stackTraces = false) (D : va_G) (cy : Nat → ClassId) (sa : Nat → Nat) (or_ be : Nat) (late lea ord : Int) (sA s2 s3 s6 s8 s11 s13 : Nat) (wi ro dr dt pe gu sh wo dn mi fl tk go : Int) (df : Nat → Int32) (lf ls_ fa gn : Int) (sz : Nat) (hr_late : (-2147483648) ≤ late ∧ late ≤ 2147483647) (hr_lea : (-2147483648) ≤ lea ∧ lea ≤ 2147483647) (hr_ord : (-2147483648) ≤ ord ∧ ord ≤ 2147483647) (hr_wi : 0 ≤ wi ∧ wi ≤ 16) (hr_ro : 0 ≤ ro ∧ ro ≤ 6) (hr_dr : 0 ≤ dr ∧ dr ≤ 14) (hr_dt : 0 ≤ dt ∧ dt ≤ 6) (hr_pe : 0 ≤ pe ∧ pe ≤ 8) (hr_gu : 0 ≤ gu ∧ gu ≤ 20) (hr_sh : 0 ≤ sh ∧ sh ≤ 2) (hr_wo : 0 ≤ wo ∧ wo ≤ 8) (hr_dn : (-2147483648) ≤ dn ∧ dn ≤ 2147483647) (hr_mi : 0 ≤ mi ∧ mi ≤ 600) (hr_fl : (-2147483648) ≤ fl ∧ fl ≤ 2147483647) (hr_tk : (-2147483648) ≤ tk ∧ tk ≤ 2147483647) (hr_go : (-2147483648) ≤ go ∧ go ≤ 2147483647) (hr_lf : 0 ≤ lf ∧ lf ≤ 63) (hr_ls_ : (-1) ≤ ls_ ∧ ls_ ≤ 13) (hr_fa : (-2147483648) ≤ fa ∧ fa ≤ 2147483647) (hr_gn : (-2147483648) ≤ gn ∧ gn ≤ 2147483647) (hdf : tab_ 4 14 [0, 0, 0, 0] [15, 5, 99, 16] df) : mV9 l yX3_goOn vs_o_goOn ({ frames := 192, cells := 0, slots := 0, locals := 9600 }) D cy sa sz [vR or_, vR sA, vI lf, vI ls_, vI fa, vI gn] [zO or_ 3 [vI late, vI lea, vI ord, vR be], zO sA 6 [vI wi, vI ro, vR s2, vR s3, vI dr, vI dt, vR s6, vI pe, vR s8, vI gu, vI sh, vR s11, vI wo, vR s13, vI dn, vI mi, vI fl, vI tk, vI go], zI s6 (cy 0) 56 df] (fun u : SV => ((-2147483648) ≤ u.2.1 0 ∧ u.2.1 0 ≤ 2147483647) ∧ ((-2147483648) ≤ u.2.1 1 ∧ u.2.1 1 ≤ 2147483647) ∧ tab_ 4 14 [0, 0, 0, 0] [15, 5, 99, 16] df) (fun u : SV => [zO or_ 3 [vI late, vI (u.2.1 0), vI (u.2.1 1), vR be], zO sA 6 [vI wi, vI ro, vR s2, vR s3, vI dr, vI dt, vR s6, vI pe, vR s8, vI gu, vI sh, vR s11, vI wo, vR s13, vI dn, vI mi, vI fl, vI tk, vI go], zI s6 (cy 0) 56 df]) 0 0 :=
  (GO_all l hl D cy sa 64) or_ be late lea ord sA s2 s3 s6 s8 s11 s13 wi ro dr dt pe gu sh wo dn mi fl tk go df lf ls_ fa gn sz hr_late hr_lea hr_ord hr_wi hr_ro hr_dr hr_dt hr_pe hr_gu hr_sh hr_wo hr_dn hr_mi hr_fl hr_tk hr_go hr_lf hr_ls_ hr_fa hr_gn hdf (by omega)
def vs_o_sweep : List Cond := .code yX3_findSweeping cX3_findSweeping 4 none :: (([.constant RX3 47 (iI 2147483647), .fieldLink RX3 33 "KerbSplash$Orders" "least" "I", .fieldLink RX3 36 "KerbSplash$Orders" "order" "I"] : List Cond) ++ ((wsX60) ++ ((wsX30) ++ ((wsV RX3 59 RX3 yX3_goOn vs_o_goOn) ++ ([])))))
theorem gd_o_sweep : vs_o_sweep.all goodWord = true := gd_C (by decide +kernel) (gd_A (by decide +kernel) (gd_A (by decide +kernel) (gd_A (by decide +kernel) (gd_A (gd_V gd_o_goOn (by decide +kernel)) rfl))))
set_option maxHeartbeats 4000000 in
set_option maxRecDepth 100000 in
theorem o_sweep (l : Launch) (hl : l.stackTraces = false) (D : va_G) (cy : Nat → ClassId) (sa : Nat → Nat) (or_ be : Nat) (late lea ord : Int) (sA s2 s3 s6 s8 s11 s13 : Nat) (wi ro dr dt pe gu sh wo dn mi fl tk go : Int) (df : Nat → Int32) (sz : Nat) (hr_late : (-2147483648) ≤ late ∧ late ≤ 2147483647) (hr_lea : (-2147483648) ≤ lea ∧ lea ≤ 2147483647) (hr_ord : (-2147483648) ≤ ord ∧ ord ≤ 2147483647) (hr_wi : 0 ≤ wi ∧ wi ≤ 16) (hr_ro : 0 ≤ ro ∧ ro ≤ 6) (hr_dr : 0 ≤ dr ∧ dr ≤ 14) (hr_dt : 0 ≤ dt ∧ dt ≤ 6) (hr_pe : 0 ≤ pe ∧ pe ≤ 8) (hr_gu : 0 ≤ gu ∧ gu ≤ 20) (hr_sh : 0 ≤ sh ∧ sh ≤ 2) (hr_wo : 0 ≤ wo ∧ wo ≤ 8) (hr_dn : (-2147483648) ≤ dn ∧ dn ≤ 2147483647) (hr_mi : 0 ≤ mi ∧ mi ≤ 600) (hr_fl : (-2147483648) ≤ fl ∧ fl ≤ 2147483647) (hr_tk : (-2147483648) ≤ tk ∧ tk ≤ 2147483647) (hr_go : (-2147483648) ≤ go ∧ go ≤ 2147483647) (hdf : tab_ 4 14 [0, 0, 0, 0] [15, 5, 99, 16] df) : mV9 l yX3_findSweeping vs_o_sweep ({ frames := 193, cells := 0, slots := 0, locals := 9626 }) D cy sa sz [vR or_, vR sA] [zO or_ 3 [vI late, vI lea, vI ord, vR be], zO sA 6 [vI wi, vI ro, vR s2, vR s3, vI dr, vI dt, vR s6, vI pe, vR s8, vI gu, vI sh, vR s11, vI wo, vR s13, vI dn, vI mi, vI fl, vI tk, vI go], zI s6 (cy 0) 56 df] (fun u : SV => ((-2147483648) ≤ u.2.1 0 ∧ u.2.1 0 ≤ 2147483647) ∧ ((-2147483648) ≤ u.2.1 1 ∧ u.2.1 1 ≤ 2147483647) ∧ tab_ 4 14 [0, 0, 0, 0] [15, 5, 99, 16] df) (fun u : SV => [zO or_ 3 [vI late, vI (u.2.1 0), vI (u.2.1 1), vR be], zO sA 6 [vI wi, vI ro, vR s2, vR s3, vI dr, vI dt, vR s6, vI pe, vR s8, vI gu, vI sh, vR s11, vI wo, vR s13, vI dn, vI mi, vI fl, vI tk, vI go], zI s6 (cy 0) 56 df]) 0 0 := by
  refine Met.ofW (cc := cX3_findSweeping) (maxL := 4) (ret := none) (by decide) rfl ?_
  intro p e s m args below meth c s₁ B hml hv
  obtain ⟨rfl, hsz, hP, hG, hD0, hT⟩ := hv
  have hx := B.exec
  have hb := B.bytes
  have hr := B.returns
  have hts := atoms_spec (ws := vs_o_sweep) B.pre
  have hown : s.vm.findClass RX3 = some m.cls := findClass_of_methodNamed B.named
  have hlocks := B.notSynchronized
  subst hsz
  have hD := hD0.self (sz := s.heap.size)
  generalize hAe : va_A [zO or_ 3 [vI late, vI lea, vI ord, vR be], zO sA 6 [vI wi, vI ro, vR s2, vR s3, vI dr, vI dt, vR s6, vI pe, vR s8, vI gu, vI sh, vR s11, vI wo, vR s13, vI dn, vI mi, vI fl, vI tk, vI go], zI s6 (cy 0) 56 df] s.heap.size = A at hD hT ⊢
  have hA : ∀ q : Nat, s.heap.size ≤ q → A q := fun q h => by rw [← hAe]; exact Or.inr h
  have hS : va_S A s.heap s.heap [] := va_S.rf
  have hl0 := lv_entry ([vR or_, vR sA]) (n := 4) (Nat.le_of_ble_eq_true rfl)
  rw [lg_entry_eq]
  generalize (lg_sl ([vR or_, vR sA]) ++ List.replicate (4 - (lg_sl ([vR or_, vR sA])).length) Slot.unset).toArray = ls at hl0 ⊢
  have hlv : lv_has ls 4 [(0, vR or_), (1, vR sA)] := hl0
  have hi6 : ∀ w ∈ wsX60, w ∈ vs_o_sweep := fun w h => List.mem_cons_of_mem _ (List.mem_append_right _ (List.mem_append_left _ h))
  have ld47 := hts (.constant RX3 47 (iI 2147483647)) (List.mem_of_getElem? (i := 1) rfl)
  have lf33 := hts (.fieldLink RX3 33 "KerbSplash$Orders" "least" "I") (List.mem_of_getElem? (i := 2) rfl)
  have hi3 : ∀ w ∈ wsX30, w ∈ vs_o_sweep := fun w h => List.mem_cons_of_mem _ (List.mem_append_right _ (List.mem_append_right _ (List.mem_append_left _ h)))
  have lf36 := hts (.fieldLink RX3 36 "KerbSplash$Orders" "order" "I") (List.mem_of_getElem? (i := 3) rfl)
  have gg_2 : GoodIn vs_o_sweep (wsV RX3 59 RX3 yX3_goOn vs_o_goOn) := goodIn_sub (fun w h => List.mem_cons_of_mem _ (List.mem_append_right _ (List.mem_append_right _ (List.mem_append_right _ (List.mem_append_left _ h))))) (gd_V gd_o_goOn (by decide +kernel))
  refine lv_iconst (v := iI 0) hx hb dX3_findSweeping_0 (by decide) ?_
  refine lv_istore_n (lv' := [(2, vI 0), (0, vR or_), (1, vR sA)]) hx hb dX3_findSweeping_1 rfl hlv (by decide) rfl (fun ls hlv => ?_)
  refine lv_iconst (v := iI 0) hx hb dX3_findSweeping_2 (by decide) ?_
  refine lv_istore_n (lv' := [(3, vI 0), (2, vI 0), (0, vR or_), (1, vR sA)]) hx hb dX3_findSweeping_3 rfl hlv (by decide) rfl (fun ls hlv => ?_)
  refine (?_ : ∀ (fu : Nat) (q2 : Int) (q3 : Int) (H : Heap) (locs : List Loc) (ls : Array Slot), 6 - q3 < (fu : Int) → (0 ≤ q2 ∧ q2 ≤ 63) → (0 ≤ q3 ∧ q3 ≤ 6) → va_P D vwCl [zO or_ 3 [vI late, vI lea, vI ord, vR be], zO sA 6 [vI wi, vI ro, vR s2, vR s3, vI dr, vI dt, vR s6, vI pe, vR s8, vI gu, vI sh, vR s11, vI wo, vR s13, vI dn, vI mi, vI fl, vI tk, vI go], zI s6 (cy 0) 56 df] H → va_D A [zO or_ 3 [vI late, vI lea, vI ord, vR be], zO sA 6 [vI wi, vI ro, vR s2, vR s3, vI dr, vI dt, vR s6, vI pe, vR s8, vI gu, vI sh, vR s11, vI wo, vR s13, vI dn, vI mi, vI fl, vI tk, vI go], zI s6 (cy 0) 56 df] → va_S A s.heap H locs → lv_has ls 4 [(3, vI q3), (2, vI q2), (0, vR or_), (1, vR sA)] → W p l e _ s m _ below meth c H locs _ _ _ (F0 m 4 ls [])) (((6 - 0) + 1 : Int)).toNat 0 0 _ _ _ (by omega) (by show (0 : Int) ≤ 0 ∧ (0 : Int) ≤ 63; decide) (by show (0 : Int) ≤ 0 ∧ (0 : Int) ≤ 6; decide)  hP hD hS hlv
  clear hP hD hS hlv
  intro fu
  induction fu with
  | zero => intro q2 q3 H locs ls hm4 hl4_0 hl4_1  hP hD hS hlv; omega
  | succ fu ih4 =>
    intro q2 q3 H locs ls hm4 hl4_0 hl4_1  hP hD hS hlv
    refine lv_iload_n hx hb dX3_findSweeping_4 rfl (lv_at hlv 0 rfl) ?_
    refine lv_aload_n hx hb dX3_findSweeping_5 rfl (lv_at hlv 3 rfl) ?_
    refine va_getN (D := D) (ci := 6) (v := vI dt) (C := RX6) (T := TX6) (N := 19) hx hb hts hi6 hown hG.1 hP 1 rfl rfl 5 (by decide) (va_Nw.use rfl (nF_Orders_51 hG.2.1)) (fun _ h9 => h9) rfl dX3_findSweeping_6 ?_
    refine ir_ge (tgt := 37) hx hb dX3_findSweeping_9 (by decide) (by first | exact rgw hl4_1 (by decide) (by decide) | omega) (by first | exact rgw hr_dt (by decide) (by decide) | omega) (fun c_1 => ?_) (fun c_1 => ?_)
    · refine lv_aload_n hx hb dX3_findSweeping_37 rfl (lv_at hlv 2 rfl) ?_
      refine lv_iload_n hx hb dX3_findSweeping_38 rfl (lv_at hlv 1 rfl) ?_
      refine iz_ne (tgt := 46) hx hb dX3_findSweeping_39 (by decide) (by first | exact rgw hl4_0 (by decide) (by decide) | omega) (fun c_2 => ?_) (fun c_2 => ?_)
      · refine lv_ldc (v := iI 2147483647) hx hb hown ld47 dX3_findSweeping_46 ?_
        refine va_put (D := D) (ci := 3) (v := vI 2147483647) (ty := .int) (C := RX3) (T := TX3) (N := 4) hx hb hts hi3 tyX3 tyX3_ok nmX3 hown hG.1 hP hD hS 0 rfl rfl 1 (by decide) lf33 (fun _ h9 => h9) rfl (by decide +kernel) rfl rfl (Nat.le_of_ble_eq_true rfl) dX3_findSweeping_48 (fun H locs hP hD hS => ?_)
        obtain ⟨hP, hD⟩ := pw9 [zO or_ 3 [vI late, vI 2147483647, vI ord, vR be], zO sA 6 [vI wi, vI ro, vR s2, vR s3, vI dr, vI dt, vR s6, vI pe, vR s8, vI gu, vI sh, vR s11, vI wo, vR s13, vI dn, vI mi, vI fl, vI tk, vI go], zI s6 (cy 0) 56 df] hP hD
        refine lv_aload_n hx hb dX3_findSweeping_51 rfl (lv_at hlv 2 rfl) ?_
        refine lv_iconst (v := iI 0) hx hb dX3_findSweeping_52 (by decide) ?_
        refine va_put (D := D) (ci := 3) (v := vI 0) (ty := .int) (C := RX3) (T := TX3) (N := 4) hx hb hts hi3 tyX3 tyX3_ok nmX3 hown hG.1 hP hD hS 0 rfl rfl 2 (by decide) lf36 (fun _ h9 => h9) rfl (by decide +kernel) rfl rfl (Nat.le_of_ble_eq_true rfl) dX3_findSweeping_53 (fun H locs hP hD hS => ?_)
        obtain ⟨hP, hD⟩ := pw9 [zO or_ 3 [vI late, vI 2147483647, vI 0, vR be], zO sA 6 [vI wi, vI ro, vR s2, vR s3, vI dr, vI dt, vR s6, vI pe, vR s8, vI gu, vI sh, vR s11, vI wo, vR s13, vI dn, vI mi, vI fl, vI tk, vI go], zI s6 (cy 0) 56 df] hP hD
        refine lv_iload_n hx hb dX3_findSweeping_56 rfl (lv_at hlv 1 rfl) ?_
        refine iz_eq (tgt := 69) hx hb dX3_findSweeping_57 (by decide) (by first | exact rgw hl4_0 (by decide) (by decide) | omega) (fun c_3 => by exfalso; omega) (fun c_3 => ?_)
        refine lv_aload_n hx hb dX3_findSweeping_60 rfl (lv_at hlv 2 rfl) ?_
        refine lv_aload_n hx hb dX3_findSweeping_61 rfl (lv_at hlv 3 rfl) ?_
        refine lv_iload_n hx hb dX3_findSweeping_62 rfl (lv_at hlv 1 rfl) ?_
        refine lv_iconst (v := iI (-1)) hx hb dX3_findSweeping_63 (by decide) ?_
        refine lv_iconst (v := iI 0) hx hb dX3_findSweeping_64 (by decide) ?_
        refine lv_iconst (v := iI 0) hx hb dX3_findSweeping_65 (by decide) ?_
        refine cjr_v [false, false, false] (fun pre9 => (va_runV (As := [vR sA, vI q2, vI (-1), vI 0, vI 0]) (rest := []) ⟨hx, hb, hml, hown, hts⟩ (o_goOn l hl D cy sa or_ be late 2147483647 0 sA s2 s3 s6 s8 s11 s13 wi ro dr dt pe gu sh wo dn mi fl tk go df q2 (-1) 0 0 H.size (by first | exact hr_late | omega) (by show ((-2147483648) : Int) ≤ 2147483647 ∧ (2147483647 : Int) ≤ 2147483647; decide) (by show ((-2147483648) : Int) ≤ 0 ∧ (0 : Int) ≤ 2147483647; decide) (by first | exact hr_wi | omega) (by first | exact hr_ro | omega) (by first | exact hr_dr | omega) (by first | exact hr_dt | omega) (by first | exact hr_pe | omega) (by first | exact hr_gu | omega) (by first | exact hr_sh | omega) (by first | exact hr_wo | omega) (by first | exact hr_dn | omega) (by first | exact hr_mi | omega) (by first | exact hr_fl | omega) (by first | exact hr_tk | omega) (by first | exact hr_go | omega) (by first | exact hl4_0 | omega) (by show ((-1) : Int) ≤ (-1) ∧ ((-1) : Int) ≤ 13; decide) (by show ((-2147483648) : Int) ≤ 0 ∧ (0 : Int) ≤ 2147483647; decide) (by show ((-2147483648) : Int) ≤ 0 ∧ (0 : Int) ≤ 2147483647; decide) hdf) (cwV 5 hts gg_2 rfl rfl rfl (by decide +kernel) ⟨Nat.le_of_ble_eq_true rfl, Nat.le_of_ble_eq_true rfl⟩) ⟨pcW.blind, (va_recv hG.1 hP (ci := 3) (q0 := 0) rfl rfl), pre9⟩ rfl rfl hlv.1 rfl (lv_room (Nat.le_of_ble_eq_true rfl)) dX3_findSweeping_66 ⟨Nat.le_of_ble_eq_true rfl, Nat.le_of_ble_eq_true rfl⟩)) hP hD hS hA hG hT [0, 1, 2] rfl (by decide +kernel) (fun u1 H locs hw1 hq9 hS => ?_)
        obtain ⟨hq1_0, hq1_1, hq1_2⟩ := hw1
        obtain ⟨hP, hD⟩ := pd9 [zO or_ 3 [vI late, vI (u1.2.1 0), vI (u1.2.1 1), vR be], zO sA 6 [vI wi, vI ro, vR s2, vR s3, vI dr, vI dt, vR s6, vI pe, vR s8, vI gu, vI sh, vR s11, vI wo, vR s13, vI dn, vI mi, vI fl, vI tk, vI go], zI s6 (cy 0) 56 df] hq9
        refine W.widen (k := 0) (n := 0) (Nat.le_of_ble_eq_true rfl) (Nat.le_of_ble_eq_true rfl) ?_
        exact W.vret hx hb hr (fun t ht hW => ⟨⟨((fun k => ([] : List Nat).getD k 0), (fun k => ([(u1.2.1 0), (u1.2.1 1)] : List Int).getD k 0), (fun k => ([] : List (Nat → Int32)).getD k (fun _ => 0))), rfl, ⟨(by show ((-2147483648) ≤ (u1.2.1 0) ∧ (u1.2.1 0) ≤ 2147483647); first | exact hq1_0 | omega), (by show ((-2147483648) ≤ (u1.2.1 1) ∧ (u1.2.1 1) ≤ 2147483647); first | exact hq1_1 | omega), hq1_2⟩, at9 ht hP hD [0, 1, 2] (by decide +kernel) rfl⟩, hS.F ht⟩) hS.2.2 dX3_findSweeping_69
      · refine lv_iconst (v := iI 0) hx hb dX3_findSweeping_42 (by decide) ?_
        refine lv_goto (tgt := 48) hx hb dX3_findSweeping_43 (by decide) ?_
        refine va_put (D := D) (ci := 3) (v := vI 0) (ty := .int) (C := RX3) (T := TX3) (N := 4) hx hb hts hi3 tyX3 tyX3_ok nmX3 hown hG.1 hP hD hS 0 rfl rfl 1 (by decide) lf33 (fun _ h9 => h9) rfl (by decide +kernel) rfl rfl (Nat.le_of_ble_eq_true rfl) dX3_findSweeping_48 (fun H locs hP hD hS => ?_)
        obtain ⟨hP, hD⟩ := pw9 [zO or_ 3 [vI late, vI 0, vI ord, vR be], zO sA 6 [vI wi, vI ro, vR s2, vR s3, vI dr, vI dt, vR s6, vI pe, vR s8, vI gu, vI sh, vR s11, vI wo, vR s13, vI dn, vI mi, vI fl, vI tk, vI go], zI s6 (cy 0) 56 df] hP hD
        refine lv_aload_n hx hb dX3_findSweeping_51 rfl (lv_at hlv 2 rfl) ?_
        refine lv_iconst (v := iI 0) hx hb dX3_findSweeping_52 (by decide) ?_
        refine va_put (D := D) (ci := 3) (v := vI 0) (ty := .int) (C := RX3) (T := TX3) (N := 4) hx hb hts hi3 tyX3 tyX3_ok nmX3 hown hG.1 hP hD hS 0 rfl rfl 2 (by decide) lf36 (fun _ h9 => h9) rfl (by decide +kernel) rfl rfl (Nat.le_of_ble_eq_true rfl) dX3_findSweeping_53 (fun H locs hP hD hS => ?_)
        obtain ⟨hP, hD⟩ := pw9 [zO or_ 3 [vI late, vI 0, vI 0, vR be], zO sA 6 [vI wi, vI ro, vR s2, vR s3, vI dr, vI dt, vR s6, vI pe, vR s8, vI gu, vI sh, vR s11, vI wo, vR s13, vI dn, vI mi, vI fl, vI tk, vI go], zI s6 (cy 0) 56 df] hP hD
        refine lv_iload_n hx hb dX3_findSweeping_56 rfl (lv_at hlv 1 rfl) ?_
        refine iz_eq (tgt := 69) hx hb dX3_findSweeping_57 (by decide) (by first | exact rgw hl4_0 (by decide) (by decide) | omega) (fun c_4 => ?_) (fun c_4 => by exfalso; omega)
        refine W.widen (k := 0) (n := 0) (Nat.le_of_ble_eq_true rfl) (Nat.le_of_ble_eq_true rfl) ?_
        exact W.vret hx hb hr (fun t ht hW => ⟨⟨((fun k => ([] : List Nat).getD k 0), (fun k => ([0, 0] : List Int).getD k 0), (fun k => ([] : List (Nat → Int32)).getD k (fun _ => 0))), rfl, ⟨(by show ((-2147483648) ≤ 0 ∧ 0 ≤ 2147483647); show ((-2147483648) : Int) ≤ 0 ∧ (0 : Int) ≤ 2147483647; decide), (by show ((-2147483648) ≤ 0 ∧ 0 ≤ 2147483647); show ((-2147483648) : Int) ≤ 0 ∧ (0 : Int) ≤ 2147483647; decide), hdf⟩, at9 ht hP hD [0, 1, 2] (by decide +kernel) rfl⟩, hS.F ht⟩) hS.2.2 dX3_findSweeping_69
    · refine lv_aload_n hx hb dX3_findSweeping_12 rfl (lv_at hlv 3 rfl) ?_
      refine va_getN (D := D) (ci := 6) (v := vR s6) (C := RX6) (T := TX6) (N := 19) hx hb hts hi6 hown hG.1 hP 1 rfl rfl 6 (by decide) (va_Nw.use rfl (nF_Orders_56 hG.2.1)) (fun _ h9 => h9) rfl dX3_findSweeping_13 ?_
      refine lv_iconst (v := iI 4) hx hb dX3_findSweeping_16 (by decide) ?_
      refine lv_iload_n hx hb dX3_findSweeping_17 rfl (lv_at hlv 0 rfl) ?_
      refine lv_imul hx hb dX3_findSweeping_18 ?_
      refine lt_e (e0 := 4 * q3) (Int32.ofInt_mul _ _).symm (fun z_5 hz_5 => ?_)
      refine lv_iconst (v := iI 3) hx hb dX3_findSweeping_19 (by decide) ?_
      refine lv_iadd hx hb dX3_findSweeping_20 ?_
      refine lt_e (e0 := z_5 + 3) (Int32.ofInt_add _ _).symm (fun z_6 hz_6 => ?_)
      refine va_iald hx hb hG.1 hP 2 0 rfl rfl (iI_in (by omega) (by decide)) dX3_findSweeping_21 ?_
      obtain ⟨z_7, ez_7, hz_7, lz_7⟩ := tab_rd hdf (e := z_6) (k := q3) (c := 3) (a := 0) (b := 16) (by omega) (by omega) (by decide) (by omega) rfl rfl
      refine lt_i (y := iI z_7) ez_7 ?_
      refine iz_le (tgt := 31) hx hb dX3_findSweeping_22 (by decide) (by first | exact rgw lz_7 (by decide) (by decide) | omega) (fun c_8 => ?_) (fun c_8 => ?_)
      · obtain ⟨z_9, hz_9⟩ : ∃ z : Int, z = q3 + 1 := ⟨_, rfl⟩
        refine lv_iinc (v := iI z_9) (lv' := [(3, vI z_9), (2, vI q2), (0, vR or_), (1, vR sA)]) hx hb dX3_findSweeping_31 hlv (k := 0) rfl (by rw [hz_9]; exact (Int32.ofInt_add _ _).symm) (by decide) rfl (fun ls hlv => ?_)
        refine lv_goto (tgt := 4) hx hb dX3_findSweeping_34 (by decide) ?_
        exact ih4 q2 z_9 H locs ls (by omega) (by first | exact hl4_0 | omega) (by omega)  (hP.sub [0, 1, 2] rfl) (hD.sub [0, 1, 2] (by decide) rfl) hS (lv_sub hlv [0, 1, 2, 3] rfl)
      · refine lv_iload_n hx hb dX3_findSweeping_25 rfl (lv_at hlv 1 rfl) ?_
        refine lv_iconst (v := iI 1) hx hb dX3_findSweeping_26 (by decide) ?_
        refine lv_iload_n hx hb dX3_findSweeping_27 rfl (lv_at hlv 0 rfl) ?_
        refine lv_ishl hx hb dX3_findSweeping_28 ?_
        refine lt_sh2 (n := 5) (M := 32) (by decide) (by decide) (by omega) (fun z_10 ez_10 lz_10 hz_10 => ?_)
        refine lv_ior hx hb dX3_findSweeping_29 ?_
        refine lt_o2 6 (M := 63) (by decide) (by omega) (by omega) (fun z_11 lz_11 hz_11 => ?_)
        refine lv_istore_n (lv' := [(2, vI z_11), (3, vI q3), (0, vR or_), (1, vR sA)]) hx hb dX3_findSweeping_30 rfl hlv (by decide) rfl (fun ls hlv => ?_)
        obtain ⟨z_12, hz_12⟩ : ∃ z : Int, z = q3 + 1 := ⟨_, rfl⟩
        refine lv_iinc (v := iI z_12) (lv' := [(3, vI z_12), (2, vI z_11), (0, vR or_), (1, vR sA)]) hx hb dX3_findSweeping_31 hlv (k := 1) rfl (by rw [hz_12]; exact (Int32.ofInt_add _ _).symm) (by decide) rfl (fun ls hlv => ?_)
        refine lv_goto (tgt := 4) hx hb dX3_findSweeping_34 (by decide) ?_
        exact ih4 z_11 z_12 H locs ls (by omega) (by omega) (by omega)  (hP.sub [0, 1, 2] rfl) (hD.sub [0, 1, 2] (by decide) rfl) hS (lv_sub hlv [0, 1, 2, 3] rfl)
end
section
def vx_atN (own : String) (ic : Nat) (X : String) (ix : Nat) (rx : ByteArray) (names : List String) : List Cond := (Bundle.ownAtomsX own ic X ix rx names).filter vx_no
set_option maxHeartbeats 4000000 in
theorem ctorThrowN {p : Program} {l : Launch} {e : Env} {R : Room} {s : State} {m₀ : MethodId} {args : Array Value} {below : List Frame} {meth : Method} {c : Code} {W : State} {locs : List Loc} {cells slots : Nat} {ix : Nat} {rx : ByteArray} (x0 : decode rx 0 = .ok (.aload_n 0, 1)) (x1 : decode rx 1 = .ok (.aload_n 1, 1)) (x2 : decode rx 2 = .ok (.invokespecial ix, 3)) (x5 : decode rx 5 = .ok (.return_, 1)) (X : Stand p l e R s m₀ args below meth c W locs cells slots) (hexec : p.tables.exec = Jvm.exec) (htr : e.platform.stackTraces = false) {own cls : String} {names : List String} {ic : Nat}
    (hown : s.vm.findClass own = some m₀.cls) (hcls : Bundle.fit cls = true) (hnames : ∀ n ∈ names, Bundle.fit n = true)
    (h : ∀ a ∈ Bundle.ownAtomsX own ic cls ix rx names, a.before args s = true)
    (hlocs : ∀ x ∈ locs, ∀ cell, s.heap[x.base]? = some cell → cell.vm.isStatics = false)
    {a : Addr} {cX : ClassId} {kX : Class} (hfoundX : s.vm.findClass cls = some cX) (hkX : s.vm.classes[cX]? = some kX) (hcell : W.heap[a]? = some (freshCell cX kX)) (hnew : s.heap.size ≤ a)
    {msg : Value} (hmsg : msg.isRef = true)
    {g : JFrame} (hg : g.method = m₀) (hsize : g.locals.size = c.maxLocals) (hlocked : g.locked = none) (hentered : g.entered = []) {rest : List Value} (hstack : g.stack = msg :: .ref a :: .ref a :: rest)
    (hd6 : decode c.code g.pc = .ok (.invokespecial ic, 3)) (hd9 : decode c.code (g.pc + 3) = .ok (.athrow, 1)) (hout : ∀ x ∈ c.exceptionTable.toList, covers x (g.pc + 3) = false)
    (hRframes : names.length + 3 < R.frames) (hRlocals : 2 * g.monitorRoom + ((Value.ref a :: rest).map fun v => v.category).sum + (13 * (names.length + 1) + 42) ≤ R.locals) (hlocks : meth.locks = false := by first | assumption | exact BodyLoose.notSynchronized (by assumption) | exact Body.notSynchronized (by assumption)) :
    ∃ U : State, Steps p.tables e below (W.setTop g) U ∧ U.status = .running ∧ Ended U below (.threw a) ∧ s.WarmedH U.vm ∧ s.sameButNew ({ U with vm := s.vm } : State) locs cells slots ∧
      ∃ ce, U.heap[a]? = some ce ∧ s.vm.findClass cls = some ce.cls ∧ ce.vm = .none := by
  have howns : e.platform.frameOwnsMonitors = true := by rw [X.admits.platform]
  have hfin : e.platform.finalization = false := by rw [X.admits.platform]
  have hpl : e.platform.magicAccessors = ({} : Platform).magicAccessors := by rw [X.admits.platform]
  have a' : ∀ x, x ∈ Bundle.ownAtomsX own ic cls ix rx names → x.holds args s none s [] = true := fun x hx => h x hx
  obtain ⟨T, Z0, L, -, Y⟩ := ThrowableC.of_atoms (args := args) howns hfin hpl (fun x hx => h x (by simp [Bundle.ownAtomsX, hx]))
  obtain ⟨Z, M, LZ, LM, hnZ⟩ := Init0T.ofS_atoms (args := args) hpl L Y (fun x hx => h x (by simp [Bundle.ownAtomsX, hx]))
  obtain ⟨P1, Ps, hlen, L1, hL, hP1m, hlink1, hlink⟩ := Bundle.chainSX (args := args) hpl hnZ x0 x1 x2 x5 names cls hcls hnames (fun x hx => h x (by simp [Bundle.ownAtomsX, hx]))
  have hfound : s.vm.findClass cls = some P1.m.cls := findClass_of_methodNamed hP1m
  cases Option.some.inj (hfoundX.symm.trans hfound)
  obtain ⟨c1, kX', hc1, hk, hord, -, -, hn6⟩ := Cond.instantiable_spec (a' (.instantiable cls 6) (by simp [Bundle.ownAtomsX]))
  cases Option.some.inj (hc1.symm.trans hfound)
  cases Option.some.inj (hkX.symm.trans hk)
  have hsel0 : selectMethod e.platform s.vm P1.m.cls T.fill0 = .method T.fill0 := by
    obtain ⟨c2, r2, m2, q1, q2, q3, q4, -⟩ := Cond.selects_spec (a' (.selects cls Bundle.tFill0 Bundle.tFill0) (by simp [Bundle.ownAtomsX]))
    cases Option.some.inj (q1.symm.trans hfound)
    cases Option.some.inj (q2.symm.trans (State.methodFound?_of_named Y.fill0 (by decide)))
    cases Option.some.inj (q3.symm.trans Y.fill0)
    rw [Launch.admits_selectMethod X.admits]; exact q4
  have hselF : selectMethod e.platform s.vm P1.m.cls T.fill = .method T.fill := by
    obtain ⟨c2, r2, m2, q1, q2, q3, q4, -⟩ := Cond.selects_spec (a' (.selects cls Bundle.tFill Bundle.tFill) (by simp [Bundle.ownAtomsX]))
    cases Option.some.inj (q1.symm.trans hfound)
    cases Option.some.inj (q2.symm.trans (State.methodFound?_of_named Y.fill (by decide)))
    cases Option.some.inj (q3.symm.trans Y.fill)
    rw [Launch.admits_selectMethod X.admits]; exact q4
  obtain ⟨cellS0, hcS0, hiss⟩ := Y.statics
  obtain ⟨u0, hu0⟩ := Cond.staticRefV Y.unassigned L.unassignedStatic L.statics hcS0 hiss (a' (.isRef (.static Bundle.tN "UNASSIGNED_STACK" Bundle.steD)) (by simp [Bundle.ownAtomsX]))
  obtain ⟨sen, hsen⟩ := Cond.staticRefV Y.sentinel L.sentinelStatic L.statics hcS0 hiss (a' (.isRef (.static Bundle.tN "SUPPRESSED_SENTINEL" Bundle.listD)) (by simp [Bundle.ownAtomsX]))
  obtain ⟨ci198, i198, fB, hk198, hg198, ha198, hsB, -, hnB, htB, hffB⟩ := Cond.ownField (t := .object "java/lang/Object") Y.found L.cls (by decide +kernel) (a' (.fieldLink Bundle.tN 198 Bundle.tN "backtrace" "Ljava/lang/Object;") (by simp [Bundle.ownAtomsX])) (a' (.lays Bundle.tN Bundle.tN "backtrace" "Ljava/lang/Object;") (by simp [Bundle.ownAtomsX])) e.platform hpl
  obtain ⟨cellS, hcS', heS, -, hkeep⟩ := X.same.2.2.2.2.2 T.aS cellS0 hcS0
  have hcellS : W.heap[T.aS]? = some cellS := hcS'
  have hout' : ∀ i, (⟨T.aS, i⟩ : Loc) ∉ locs := fun i hmem => by
    have := hlocs _ hmem cellS0 hcS0
    rw [hiss] at this; cases this
  have hknownS : cellS.vm ≠ .unknown := by
    rw [heS]; intro hu
    rw [show cellS0.vm = .unknown from hu] at hiss
    cases hiss
  have hneS : T.aS ≠ a := Nat.ne_of_lt (Nat.lt_of_lt_of_le (Array.getElem?_eq_some_iff.mp hcS0).1 hnew)
  obtain ⟨iM, hffM⟩ := Y.msg
  obtain ⟨tyC, dC, hdC, hdnC⟩ := Cond.laysAt hfound hk Y.cause (a' (.lays cls Bundle.tN "cause" "Ljava/lang/Throwable;") (by simp [Bundle.ownAtomsX]))
  obtain ⟨tyS, dS, hdS, hdnS⟩ := Cond.laysAt hfound hk Y.stack (a' (.lays cls Bundle.tN "stackTrace" Bundle.steD) (by simp [Bundle.ownAtomsX]))
  obtain ⟨tyP, dP, hdP, hdnP⟩ := Cond.laysAt hfound hk Y.supp (a' (.lays cls Bundle.tN "suppressedExceptions" Bundle.listD) (by simp [Bundle.ownAtomsX]))
  obtain ⟨tyM, dM, hdM, hdnM⟩ := Cond.laysAt hfound hk hffM (a' (.lays cls Bundle.tN "detailMessage" "Ljava/lang/String;") (by simp [Bundle.ownAtomsX]))
  obtain ⟨tyB, dB, hdB, hdnB⟩ := Cond.laysAt hfound hk hffB (a' (.lays cls Bundle.tN "backtrace" "Ljava/lang/Object;") (by simp [Bundle.ownAtomsX]))
  have bC := Cond.laysApart hdB hdC hdnB hdnC (by rw [hnB, Y.causeName]; decide)
  have bS := Cond.laysApart hdB hdS hdnB hdnS (by rw [hnB, Y.stackName]; decide)
  have bP := Cond.laysApart hdB hdP hdnB hdnP (by rw [hnB, Y.suppName]; decide)
  have hskip : SkipFacts T e.platform s (fun u => u) u0 ((preparedCellV T.toThrowableT (freshCell P1.m.cls kX) a u0 sen).withEntry W.cur) :=
    ⟨{ ci198 := ci198, i198 := i198, fBack := fB }, ⟨hk198, hg198, ha198, hsB⟩, by
      have := fresh_default (c := P1.m.cls) tyB
      rw [htB] at this
      simpa [preparedCellV, Cell.setSlot, Cell.withEntry, Array.getElem?_setIfInBounds, bC, bS, bP, bC.symm, bS.symm, bP.symm, defaultValue] using this, fun _ _ => rfl⟩
  obtain ⟨tm, methC, cdC, kC, vm₁, hnC, -, -, -, -, -, -, -, hW₁, st1⟩ := Steps.initColdS (tb := p.tables) (e := e) (below := below) (s := s) (U := W) X.here hexec X.warmed hpl hown (t := Bundle.initS cls) rfl rfl (Bundle.fit_spec hcls).2
    (a' (.methodLink own ic (Bundle.initS cls)) (by simp [Bundle.ownAtomsX])) (h (.instanceMethod (Bundle.initS cls)) (by cases names <;> simp [Bundle.ownAtomsX, Bundle.chainSAtomsX, Bundle.passSAtoms])) (bytes := rx) (maxL := 2) (h (.code (Bundle.initS cls) rx 2 none) (by cases names <;> simp [Bundle.ownAtomsX, Bundle.chainSAtomsX, Bundle.passSAtoms]))
    (f := g) hg (a := a) (msg := msg) (rest := .ref a :: rest) hstack hd6
  cases Option.some.inj (hnC.symm.trans hP1m)
  have X₁ := X.noted hW₁
  obtain ⟨vm₂, X₂, st2⟩ := X₁.ctorMessageOffV hexec (g := { g with stack := .ref a :: rest }) hg hsize T L Z LZ M LM (P1 :: Ps)
    (fun P hP => by rcases List.mem_cons.mp hP with rfl | hP; exact L1; exact hL P hP) ⟨hlink1, hlink⟩ (u0 := u0) (sen := sen) (self := a) hmsg (cell := freshCell P1.m.cls kX) (cellS := cellS)
    hcell (fun _ => by simp) (by simp) rfl rfl hsel0 hselF hcellS hneS hknownS (by rw [hkeep _ (hout' _)]; exact hu0) (by rw [hkeep _ (hout' _)]; exact hsen)
    (Takes.of_laid hk hord tyC (by rw [Y.causeType]; rfl)) (Takes.of_laid hk hord tyS (by rw [Y.stackType]; exact fits_refV_array _ u0)) (Takes.of_laid hk hord tyP (by rw [Y.suppType]; exact fits_refV_object _ sen))
    (Takes.of_laid hk hord tyM (by rw [Y.msgType]; exact fits_refV_object _ ⟨msg, hmsg⟩)) Y.objLocals hskip htr [] hd6
    (by simp only [List.length_cons, hlen]; omega) (by simp only [List.length_cons, hlen]; exact hRlocals)
  obtain ⟨hwalk, hrun, hended, hWU, hsame⟩ := X₂.athrowLeaves hexec (g := { g with stack := .ref a :: rest, pc := g.pc + 3 }) hg hlocked hentered hout (a := a) (rest := rest) rfl hd9
  have hlt : a < ((W.setVm vm₁).setVm vm₂).heap.size := (Array.getElem?_eq_some_iff.mp hcell).1
  have hU := heapAt_setCell_self (s := (W.setVm vm₁).setVm vm₂) (plainBareV T.toThrowableT (freshCell P1.m.cls kX) a u0 sen msg) hlt
  refine ⟨_, st1 _ (fun acts => ?_), hrun, hended, hWU, hsame.weaken (fun y hy hlt' => ?_) (Nat.le_refl _) (Nat.le_refl _), _, hU, ?_⟩
  · rw [doInvoke_state]
    exact st2 _ hwalk
  · rcases List.mem_append.mp hy with h1 | h1
    · exact h1
    · exfalso
      have hb : y.base = a := by
        simp only [List.mem_cons, List.not_mem_nil, or_false] at h1
        rcases h1 with rfl | rfl | rfl | rfl | rfl <;> rfl
      rw [hb] at hlt'
      exact Nat.not_lt.mpr hnew hlt'
  · exact ⟨hfound, rfl⟩
theorem vx_throwSN {p : Program} {l : Launch} {e : Env} {R : Room} {s : State} {m : MethodId} {args : Array Value} {below : List Frame} {meth : Method} {c : Code} {H : Heap} {locs : List Loc} {cells slots : Nat} {ls : Array Slot} {rest : List Value} {Qc : Array Value → State → Outcome → State → Prop} {XC : String → State → State → Prop} {free : Addr → Prop} {ix : Nat} {rx : ByteArray} (x0 : decode rx 0 = .ok (.aload_n 0, 1)) (x1 : decode rx 1 = .ok (.aload_n 1, 1)) (x2 : decode rx 2 = .ok (.invokespecial ix, 3)) (x5 : decode rx 5 = .ok (.return_, 1)) {cc : ByteArray} {pc : Nat} (hexec : p.tables.exec = Jvm.exec) (hb : c.code = cc) (hl : l.stackTraces = false) {own cls text : String} {names : List String} {ik is ic mc ms sa : Nat} {A : Nat → Prop}
    (hown : s.vm.findClass own = some m.cls) (hcls : Bundle.fit cls = true) (hnames : ∀ n ∈ names, Bundle.fit n = true)
    (hk : (Cond.classLink own ik cls).before args s = true) (hini : (Cond.initialized cls).before args s = true) (hstr : vk_R own is text sa s) (hat : ∀ w ∈ vx_atN own ic cls ix rx names, w.before args s = true)
    (hgood : ∀ w ∈ Cond.classLink own ik cls :: Cond.initialized cls :: vx_atN own ic cls ix rx names, vx_ot w = true)
    (hU : vx_Zq Bundle.tN "UNASSIGNED_STACK" Bundle.steD A s s.heap) (hN : vx_Zq Bundle.tN "SUPPRESSED_SENTINEL" Bundle.listD A s s.heap) (hS : va_S A s.heap H locs) (hsize : ls.size = c.maxLocals)
    (d0 : decode cc pc = .ok (.new ik, 3)) (d3 : decode cc (pc + 3) = .ok (.dup, 1)) (d4 : decode cc (pc + 4) = .ok (.ldc_w is, 3)) (d7 : decode cc (pc + 7) = .ok (.invokespecial ic, 3)) (d10 : decode cc (pc + 10) = .ok (.athrow, 1))
    (hout : ∀ x ∈ c.exceptionTable.toList, covers x (pc + 10) = false)
    (hRframes : names.length + 3 < R.frames) (hRlocals : (rest.map fun v => v.category).sum + (13 * (names.length + 1) + 43) ≤ R.locals) (hRcells : cells + 1 ≤ R.cells) (hRslots : slots + 6 ≤ R.slots) (hlocks : meth.locks = false)
    (hx : ∀ t : State, s.vm.Alike t.vm → H.size ≤ t.heap.size → (∀ q : Nat, q < H.size → t.heap[q]? = H[q]?) → XC cls s t)
    (hf : ∀ z ∈ locs, free z.base) (hc : cells + 1 ≤ mc) (hs : slots + 6 ≤ ms) :
    W p l e R s m args below meth c H locs cells slots (vx_MQ below Qc XC args s mc ms free) (F0 m pc ls rest) := by
  intro T hT X
  have htr : e.platform.stackTraces = false := (show e.platform.stackTraces = l.stackTraces by rw [X.admits.platform]).trans hl
  have Y := vx_rebase X (R' := { frames := R.frames, locals := R.locals, cells := 1, slots := 6 }) (Nat.le_refl _) (Nat.le_refl _) hRcells hRslots
  obtain ⟨s', hA⟩ : ∃ z, z = (T.setVm s.vm).setFrames (.invoking m args :: below) := ⟨_, rfl⟩
  rw [← hA] at Y
  have hvm : s'.vm = s.vm := by rw [hA]; rfl
  have hhp : s'.heap = H := by rw [hA]; exact hT
  have hW0 : s.WarmedH s'.vm := by rw [hvm]; exact State.WarmedH.refl s
  have hat' : ∀ w ∈ vx_atN own ic cls ix rx names, w.before args s' = true := fun w hw => vx_ot_at hW0 hvm.symm (hgood w (List.mem_cons_of_mem _ (List.mem_cons_of_mem _ hw))) (hat w hw)
  have hk' : (Cond.classLink own ik cls).before args s' = true := vx_ot_at hW0 hvm.symm (hgood _ List.mem_cons_self) hk
  have hini' : (Cond.initialized cls).before args s' = true := vx_ot_at hW0 hvm.symm (hgood _ (List.mem_cons_of_mem _ List.mem_cons_self)) hini
  have hU' : vx_Zq Bundle.tN "UNASSIGNED_STACK" Bundle.steD A s' s'.heap := by rw [hhp]; exact vx_Zq.moved hW0.alike (hU.kept hS.2.1)
  have hN' : vx_Zq Bundle.tN "SUPPRESSED_SENTINEL" Bundle.listD A s' s'.heap := by rw [hhp]; exact vx_Zq.moved hW0.alike (hN.kept hS.2.1)
  have h : ∀ w ∈ Bundle.ownAtomsX own ic cls ix rx names, w.before args s' = true := vx_own hat' (vx_isRefq hU'.1) (vx_isRefq hN'.1) hU'.2.word hN'.2.word
  have hown' : s'.vm.findClass own = some m.cls := by rw [hvm]; exact hown
  have hins : (Cond.instantiable cls 6).before args s' = true := h _ (by simp [Bundle.ownAtomsX])
  obtain ⟨vm₁, cX, kX, hfX, hkX, -, -, X₁, st1⟩ := Y.newCold hexec (own := own) (C := cls) (index := ik) (n := 6) hown' hk' hins hini'
    (g := F0 m pc ls rest) rfl (by rw [hb]; exact d0) (Nat.le_refl _) (Nat.le_refl _)
  generalize hT1 : (T.setVm vm₁).pushCell { cls := cX, slots := kX.instanceTypes.map defaultValue, vm := .none } = T1 at X₁ st1
  have hcat : (Value.ref T.heap.size).category = 1 := rfl
  have hcellA : T1.heap[T.heap.size]? = some (freshCell cX kX) := by rw [← hT1]; exact State.heap_pushCell_size _ _
  have d3' : decode c.code (pc + 3) = .ok (.dup, 1) := by rw [hb]; exact d3
  have d4' : decode c.code (pc + 4) = .ok (.ldc_w is, 3) := by rw [hb]; exact d4
  have hstr' : vk_R own is text sa s' := vk_R.warm hW0 hstr
  obtain ⟨U, hsteps, hrun, hend, hW, hsame, ce, hce, hO⟩ := ctorThrowN x0 x1 x2 x5 X₁ hexec htr (own := own) (cls := cls) (names := names) (ic := ic) hown' hcls hnames h (fun x hx => nomatch hx) hfX hkX hcellA (by rw [hhp, hT]; exact Nat.le_refl _) (msg := .ref sa) rfl
    (g := { method := m, pc := pc + 7, locals := ls, stack := .ref sa :: .ref T.heap.size :: .ref T.heap.size :: rest, locked := none }) rfl hsize rfl rfl (rest := rest) rfl
    (by rw [hb]; exact d7) (by rw [hb]; exact d10) hout hRframes (by simp only [List.map_cons, List.sum_cons, hcat]; omega) hlocks
  obtain ⟨f1, f2⟩ := vx_frame hsame
  rw [hhp] at f1 f2
  have hWs : s.WarmedH U.vm := State.WarmedH.trans hW0 hW
  have hcl : s.vm.findClass cls = some ce.cls := by
    have h9 := hO.1
    rw [hvm] at h9
    exact h9
  have hall : s.sameButNew ({ U with vm := s.vm } : State) locs mc ms := by
    subst hA
    obtain ⟨e1, e2⟩ := hsame
    rw [State.setFrames_setFrames] at e1
    have h2 : (T.setVm s.vm).sameButNew ({ U with vm := s.vm } : State) [] (0 + 1) (0 + 6) := ⟨e1, e2⟩
    have h3 := X.same.trans h2
    rw [List.append_nil] at h3
    exact h3.mono hc hs
  refine ⟨U, ?_, .threw T.heap.size, hrun, hend, Or.inr ⟨T.heap.size, rfl, cls, ce, locs, hx U hWs.alike f1 (fun q hq => f2 q hq (fun z hz => nomatch hz)), hce, hO.2, hcl, hWs, hall, hf⟩⟩
  refine st1 _ ?_
  show Steps p.tables e below (T1.setTop { method := m, pc := pc + 3, locals := ls, stack := .ref T.heap.size :: rest, locked := none }) _
  jvm_step X₁.here [X₁.here.top, hexec, d3', Value.category]
  exact X₁.ldcStringW hexec (own := own) (text := text) (index := is) (a := sa) hown' hstr'.1 hstr'.2
    (g := { method := m, pc := pc + 4, locals := ls, stack := .ref T.heap.size :: .ref T.heap.size :: rest, locked := none }) rfl d4' _ hsteps
abbrev rx13 : ByteArray := ⟨#[0x2a, 0x2b, 0xb7, 0x00, 0x0d, 0xb1]⟩
theorem rx13_0 : decode rx13 0 = .ok (.aload_n 0, 1) := by decide +kernel
theorem rx13_1 : decode rx13 1 = .ok (.aload_n 1, 1) := by decide +kernel
theorem rx13_2 : decode rx13 2 = .ok (.invokespecial 13, 3) := by decide +kernel
theorem rx13_5 : decode rx13 5 = .ok (.return_, 1) := by decide +kernel
theorem xN1 : ∀ w ∈ (vx_atN RX11 363 "java/util/NoSuchElementException" 13 rx13 ["java/lang/RuntimeException", "java/lang/Exception"]).filter (fun w => !goodWord w), w ∈ xB "java/util/NoSuchElementException" := by decide +kernel
end
section
theorem at_lt {D : va_G} {cl : List vw_C} {q : Nat × va_E} {H : Heap} (h : va_at D cl q H) : q.1 < H.size := by
  obtain ⟨a, e⟩ := q
  cases e with
  | inl x => exact (Array.getElem?_eq_some_iff.mp (show H[a]? = some _ from h)).1
  | inr x =>
    obtain ⟨r, h1, cell, q1, -⟩ := h
    exact (Array.getElem?_eq_some_iff.mp q1).1
theorem px_P {D : va_G} {ws : va_W} {H H1 : Heap} (h : va_P D vwCl ws H) (h2 : ∀ q : Nat, q < H.size → H1[q]? = H[q]?) : va_P D vwCl ws H1 := h.kept (fun k q hk => h2 q.1 (at_lt (h k q hk)))
/-- how a contract that throws says so: the class, and its cells behind it -/
def xcW2 (D : va_G) (PX : String → SV → Prop) (A : Nat → Prop) (wX : SV → va_W) : String → State → State → Prop := vx_X (fun _ : SV => True) (fun E u t => PX E u ∧ atW D A (wX u) t) A
section CJ2
variable {p : Program} {l : Launch} {e : Env} {R : Room} {s : State} {m : MethodId} {args : Array Value} {below : List Frame} {meth : Method} {c : Code} {H : Heap} {locs : List Loc} {cells slots mc ms : Nat} {Q : State → Prop} {pc : Nat} {ls : Array Slot} {st0 rest : List Value} {a : Array Value} {D : va_G} {A : Nat → Prop} {ws wc wr : va_W}
theorem cjx2_i {S : Type} {post : Int32 → S → Prop} {wB : S → va_W} {PX : String → SV → Prop} {wX : SV → va_W} (hr : vx_Run p l e R s m args below meth c H locs cells slots mc ms (F0 m pc ls st0) rest (va_Qi post (fun u t => atW D (va_A wc H.size) (wB u) t) (va_A wc H.size) a) (xcW2 D PX (va_A wc H.size) wX) (va_A wc H.size))
    (hP : va_P D vwCl ws H) (hD : va_D A ws) (hS : va_S A s.heap H locs) (hA : ∀ q, s.heap.size ≤ q → A q) (isC isR : List Nat) (hC : isC.map (fun i => ws[i]?) = wc.map some) (hR : isR.map (fun i => ws[i]?) = wr.map some) (hn : va_nd isR = true) (hdis : ∀ i ∈ isR, i ∉ isC)
    (kx : ∀ (E : String) (u : SV) (ce : Cell) (q9 : Addr) (H1 : Heap) (locs1 : List Loc), PX E u → va_P D vwCl (wr ++ wX u) H1 → va_D A (wr ++ wX u) → va_S A s.heap H1 locs1 → H1[q9]? = some ce → ce.vm = .none → s.vm.findClass E = some ce.cls → vx_W p l e R s m args below meth c H1 locs1 (cells + mc) (slots + ms) Q (F0 m pc ls rest) q9)
    (kk : ∀ (r : Int32) (u : S) (H1 : Heap) (locs1 : List Loc), post r u → va_P D vwCl (wr ++ wB u) H1 → va_D A (wr ++ wB u) → va_S A s.heap H1 locs1 → W p l e R s m args below meth c H1 locs1 (cells + mc) (slots + ms) Q (F0 m (pc + 3) ls (.int r :: rest))) : W p l e R s m args below meth c H locs cells slots Q (F0 m pc ls st0) := by
  have hF := va_free hD hS hA isC hC
  refine vx_calli hr hS (fun q _ h => hF q h) hF (fun q _ h => hF q h) (fun E ce q9 u t H1 locs1 ht hvm hp hB hz hk hS1 h1 h2 h3 => ?_) (fun r u t H1 locs1 ht hvm hw hB hz hk hS1 => ?_)
  · obtain ⟨hpx, hP1, hD1⟩ := hB
    rw [ht] at hP1
    obtain ⟨hP2, hD2⟩ := va_join hP hD isC isR hC hR hn hdis hk hF hP1 hD1
    exact kx E u ce q9 H1 locs1 hpx hP2 hD2 hS1 h1 h2 h3
  · obtain ⟨hP1, hD1⟩ := hB
    rw [ht] at hP1
    obtain ⟨hP2, hD2⟩ := va_join hP hD isC isR hC hR hn hdis hk hF hP1 hD1
    exact kk r u H1 locs1 hw hP2 hD2 hS1
theorem cjx2_v {S : Type} {post : S → Prop} {wB : S → va_W} {PX : String → SV → Prop} {wX : SV → va_W} (hr : vx_Run p l e R s m args below meth c H locs cells slots mc ms (F0 m pc ls st0) rest (va_Qv post (fun u t => atW D (va_A wc H.size) (wB u) t) (va_A wc H.size) a) (xcW2 D PX (va_A wc H.size) wX) (va_A wc H.size))
    (hP : va_P D vwCl ws H) (hD : va_D A ws) (hS : va_S A s.heap H locs) (hA : ∀ q, s.heap.size ≤ q → A q) (isC isR : List Nat) (hC : isC.map (fun i => ws[i]?) = wc.map some) (hR : isR.map (fun i => ws[i]?) = wr.map some) (hn : va_nd isR = true) (hdis : ∀ i ∈ isR, i ∉ isC)
    (kx : ∀ (E : String) (u : SV) (ce : Cell) (q9 : Addr) (H1 : Heap) (locs1 : List Loc), PX E u → va_P D vwCl (wr ++ wX u) H1 → va_D A (wr ++ wX u) → va_S A s.heap H1 locs1 → H1[q9]? = some ce → ce.vm = .none → s.vm.findClass E = some ce.cls → vx_W p l e R s m args below meth c H1 locs1 (cells + mc) (slots + ms) Q (F0 m pc ls rest) q9)
    (kk : ∀ (u : S) (H1 : Heap) (locs1 : List Loc), post u → va_P D vwCl (wr ++ wB u) H1 → va_D A (wr ++ wB u) → va_S A s.heap H1 locs1 → W p l e R s m args below meth c H1 locs1 (cells + mc) (slots + ms) Q (F0 m (pc + 3) ls rest)) : W p l e R s m args below meth c H locs cells slots Q (F0 m pc ls st0) := by
  have hF := va_free hD hS hA isC hC
  refine vx_callv hr hS (fun q _ h => hF q h) hF (fun q _ h => hF q h) (fun E ce q9 u t H1 locs1 ht hvm hp hB hz hk hS1 h1 h2 h3 => ?_) (fun u t H1 locs1 ht hvm hw hB hz hk hS1 => ?_)
  · obtain ⟨hpx, hP1, hD1⟩ := hB
    rw [ht] at hP1
    obtain ⟨hP2, hD2⟩ := va_join hP hD isC isR hC hR hn hdis hk hF hP1 hD1
    exact kx E u ce q9 H1 locs1 hpx hP2 hD2 hS1 h1 h2 h3
  · obtain ⟨hP1, hD1⟩ := hB
    rw [ht] at hP1
    obtain ⟨hP2, hD2⟩ := va_join hP hD isC isR hC hR hn hdis hk hF hP1 hD1
    exact kk u H1 locs1 hw hP2 hD2 hS1
end CJ2
end
section
abbrev xI9 (l : Launch) (y : MethodName) (vs : List Cond) (rm : Room) (D : va_G) (cy : Nat → ClassId) (sa : Nat → Nat) (sz : Nat) (av : List Value) (W : va_W) (post : Int32 → SV → Prop) (PW : SV → va_W) (PX : String → SV → Prop) (XW : SV → va_W) (mc ms : Nat) : Prop := vx_Met l y vs rm (va_Pc av (pcW D cy sa sz W)) (va_Qi post (fun u t => atW D (va_A W sz) (PW u) t) (va_A W sz)) (xcW2 D PX (va_A W sz) XW) mc ms (va_A W sz)
abbrev xV9 (l : Launch) (y : MethodName) (vs : List Cond) (rm : Room) (D : va_G) (cy : Nat → ClassId) (sa : Nat → Nat) (sz : Nat) (av : List Value) (W : va_W) (post : SV → Prop) (PW : SV → va_W) (PX : String → SV → Prop) (XW : SV → va_W) (mc ms : Nat) : Prop := vx_Met l y vs rm (va_Pc av (pcW D cy sa sz W)) (va_Qv post (fun u t => atW D (va_A W sz) (PW u) t) (va_A W sz)) (xcW2 D PX (va_A W sz) XW) mc ms (va_A W sz)
section C9X
variable {p : Program} {l : Launch} {e : Env} {R : Room} {s : State} {m : MethodId} {args : Array Value} {below : List Frame} {meth : Method} {c : Code} {H : Heap} {locs : List Loc} {cells slots mc ms : Nat} {Q : State → Prop} {pc : Nat} {ls : Array Slot} {st0 rest : List Value} {a : Array Value} {D : va_G} {A : Nat → Prop} {ws wc pl : va_W} {cy : Nat → ClassId} {sa : Nat → Nat} {av : List Value}
theorem cjrx_i {S : Type} {post : Int32 → S → Prop} {wB : S → va_W} {PX : String → SV → Prop} {wX : SV → va_W} (bs : List Bool) (hr : (∀ U : State, U.heap = H → s.WarmedH U.vm → va_Pc av (pcW D cy sa H.size wc) av.toArray U) → vx_Run p l e R s m args below meth c H locs cells slots mc ms (F0 m pc ls st0) rest (va_Qi post (fun u t => atW D (va_A wc H.size) (wB u) t) (va_A wc H.size) a) (xcW2 D PX (va_A wc H.size) wX) (va_A wc H.size)) (hP : va_P D vwCl (ws) H) (hD : va_D A (ws)) (hS : va_S A s.heap H locs) (hA : ∀ q, s.heap.size ≤ q → A q) (hG : GC D cy sa s) (hT : TH sa A s s.heap) (isC : List Nat) (hC : isC.map (fun i => ws[i]?) = wc.map some) (hd : dj9 bs isC = true)
    (kx : ∀ (E : String) (u : SV) (ce : Cell) (q9 : Addr) (H1 : Heap) (locs1 : List Loc), PX E u → PD9 D A ((pm9 ws bs ++ wX u)) H1 → va_S A s.heap H1 locs1 → H1[q9]? = some ce → ce.vm = .none → s.vm.findClass E = some ce.cls → vx_W p l e R s m args below meth c H1 locs1 (cells + mc) (slots + ms) Q (F0 m pc ls rest) q9) (kk : ∀ (r : Int32) (u : S) (H1 : Heap) (locs1 : List Loc), post r u → PD9 D A ((pm9 ws bs ++ wB u)) H1 → va_S A s.heap H1 locs1 → W p l e R s m args below meth c H1 locs1 (cells + mc) (slots + ms) Q (F0 m (pc + 3) ls (.int r :: rest))) : W p l e R s m args below meth c H locs cells slots Q (F0 m pc ls st0) :=
  cjx2_i (hr (pcW.mk hP hD hS hA hG hT isC hC (dj9_nd hd))) hP hD hS hA isC (ix9 0 ws bs) hC (ix9_map ws bs []) (ix9_nd ws bs 0) (dj9_dis hd) (fun E u ce q9 H1 locs1 h1 h2 h3 h4 => kx E u ce q9 H1 locs1 h1 ⟨h2, h3⟩ h4) (fun r u H1 locs1 h1 h2 h3 h4 => kk r u H1 locs1 h1 ⟨h2, h3⟩ h4)
theorem cjrx_v {S : Type} {post : S → Prop} {wB : S → va_W} {PX : String → SV → Prop} {wX : SV → va_W} (bs : List Bool) (hr : (∀ U : State, U.heap = H → s.WarmedH U.vm → va_Pc av (pcW D cy sa H.size wc) av.toArray U) → vx_Run p l e R s m args below meth c H locs cells slots mc ms (F0 m pc ls st0) rest (va_Qv post (fun u t => atW D (va_A wc H.size) (wB u) t) (va_A wc H.size) a) (xcW2 D PX (va_A wc H.size) wX) (va_A wc H.size)) (hP : va_P D vwCl (ws) H) (hD : va_D A (ws)) (hS : va_S A s.heap H locs) (hA : ∀ q, s.heap.size ≤ q → A q) (hG : GC D cy sa s) (hT : TH sa A s s.heap) (isC : List Nat) (hC : isC.map (fun i => ws[i]?) = wc.map some) (hd : dj9 bs isC = true)
    (kx : ∀ (E : String) (u : SV) (ce : Cell) (q9 : Addr) (H1 : Heap) (locs1 : List Loc), PX E u → PD9 D A ((pm9 ws bs ++ wX u)) H1 → va_S A s.heap H1 locs1 → H1[q9]? = some ce → ce.vm = .none → s.vm.findClass E = some ce.cls → vx_W p l e R s m args below meth c H1 locs1 (cells + mc) (slots + ms) Q (F0 m pc ls rest) q9) (kk : ∀ (u : S) (H1 : Heap) (locs1 : List Loc), post u → PD9 D A ((pm9 ws bs ++ wB u)) H1 → va_S A s.heap H1 locs1 → W p l e R s m args below meth c H1 locs1 (cells + mc) (slots + ms) Q (F0 m (pc + 3) ls rest)) : W p l e R s m args below meth c H locs cells slots Q (F0 m pc ls st0) :=
  cjx2_v (hr (pcW.mk hP hD hS hA hG hT isC hC (dj9_nd hd))) hP hD hS hA isC (ix9 0 ws bs) hC (ix9_map ws bs []) (ix9_nd ws bs 0) (dj9_dis hd) (fun E u ce q9 H1 locs1 h1 h2 h3 h4 => kx E u ce q9 H1 locs1 h1 ⟨h2, h3⟩ h4) (fun u H1 locs1 h1 h2 h3 h4 => kk u H1 locs1 h1 ⟨h2, h3⟩ h4)
end C9X
end
