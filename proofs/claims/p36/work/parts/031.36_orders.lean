theorem dX3_bestNext_0 : decode cX3_bestNext 0 = .ok (.iconst (-1), 1) := by decide +kernel
theorem dX3_bestNext_1 : decode cX3_bestNext 1 = .ok (.istore_n 3, 1) := by decide +kernel
theorem dX3_bestNext_11 : decode cX3_bestNext 11 = .ok (.aload_n 1, 1) := by decide +kernel
theorem dX3_bestNext_12 : decode cX3_bestNext 12 = .ok (.getfield 17, 3) := by decide +kernel
theorem dX3_bestNext_15 : decode cX3_bestNext 15 = .ok (.if_icmp .ge 42, 3) := by decide +kernel
theorem dX3_bestNext_18 : decode cX3_bestNext 18 = .ok (.iload_n 2, 1) := by decide +kernel
theorem dX3_bestNext_19 : decode cX3_bestNext 19 = .ok (.iload 5, 2) := by decide +kernel
theorem dX3_bestNext_2 : decode cX3_bestNext 2 = .ok (.ldc 47, 2) := by decide +kernel
theorem dX3_bestNext_21 : decode cX3_bestNext 21 = .ok (.ishr, 1) := by decide +kernel
theorem dX3_bestNext_22 : decode cX3_bestNext 22 = .ok (.iconst 1, 1) := by decide +kernel
theorem dX3_bestNext_23 : decode cX3_bestNext 23 = .ok (.iand, 1) := by decide +kernel
theorem dX3_bestNext_24 : decode cX3_bestNext 24 = .ok (.ifCond .ne 27, 3) := by decide +kernel
theorem dX3_bestNext_27 : decode cX3_bestNext 27 = .ok (.aload_n 0, 1) := by decide +kernel
theorem dX3_bestNext_28 : decode cX3_bestNext 28 = .ok (.aload_n 1, 1) := by decide +kernel
theorem dX3_bestNext_29 : decode cX3_bestNext 29 = .ok (.iload_n 2, 1) := by decide +kernel
theorem dX3_bestNext_30 : decode cX3_bestNext 30 = .ok (.iload 5, 2) := by decide +kernel
theorem dX3_bestNext_32 : decode cX3_bestNext 32 = .ok (.invokevirtual 25, 3) := by decide +kernel
theorem dX3_bestNext_35 : decode cX3_bestNext 35 = .ok (.istore 6, 2) := by decide +kernel
theorem dX3_bestNext_37 : decode cX3_bestNext 37 = .ok (.iload 6, 2) := by decide +kernel
theorem dX3_bestNext_39 : decode cX3_bestNext 39 = .ok (.iload 4, 2) := by decide +kernel
theorem dX3_bestNext_4 : decode cX3_bestNext 4 = .ok (.istore 4, 2) := by decide +kernel
theorem dX3_bestNext_41 : decode cX3_bestNext 41 = .ok (.if_icmp .ge 10, 3) := by decide +kernel
theorem dX3_bestNext_44 : decode cX3_bestNext 44 = .ok (.iload 6, 2) := by decide +kernel
theorem dX3_bestNext_46 : decode cX3_bestNext 46 = .ok (.istore 4, 2) := by decide +kernel
theorem dX3_bestNext_48 : decode cX3_bestNext 48 = .ok (.iload 5, 2) := by decide +kernel
theorem dX3_bestNext_50 : decode cX3_bestNext 50 = .ok (.istore_n 3, 1) := by decide +kernel
theorem dX3_bestNext_51 : decode cX3_bestNext 51 = .ok (.iinc 5 1, 3) := by decide +kernel
theorem dX3_bestNext_54 : decode cX3_bestNext 54 = .ok (.goto (-45), 3) := by decide +kernel
theorem dX3_bestNext_57 : decode cX3_bestNext 57 = .ok (.iload_n 3, 1) := by decide +kernel
theorem dX3_bestNext_58 : decode cX3_bestNext 58 = .ok (.ireturn, 1) := by decide +kernel
theorem dX3_bestNext_6 : decode cX3_bestNext 6 = .ok (.iconst 0, 1) := by decide +kernel
theorem dX3_bestNext_7 : decode cX3_bestNext 7 = .ok (.istore 5, 2) := by decide +kernel
theorem dX3_bestNext_9 : decode cX3_bestNext 9 = .ok (.iload 5, 2) := by decide +kernel
theorem dX3_findFirst_0 : decode cX3_findFirst 0 = .ok (.iconst 1, 1) := by decide +kernel
theorem dX3_findFirst_1 : decode cX3_findFirst 1 = .ok (.aload_n 1, 1) := by decide +kernel
theorem dX3_findFirst_10 : decode cX3_findFirst 10 = .ok (.getfield 11, 3) := by decide +kernel
theorem dX3_findFirst_100 : decode cX3_findFirst 100 = .ok (.aload_n 1, 1) := by decide +kernel
theorem dX3_findFirst_101 : decode cX3_findFirst 101 = .ok (.getfield 17, 3) := by decide +kernel
theorem dX3_findFirst_104 : decode cX3_findFirst 104 = .ok (.if_icmp .ge 42, 3) := by decide +kernel
theorem dX3_findFirst_107 : decode cX3_findFirst 107 = .ok (.aload_n 0, 1) := by decide +kernel
theorem dX3_findFirst_108 : decode cX3_findFirst 108 = .ok (.aload_n 1, 1) := by decide +kernel
theorem dX3_findFirst_109 : decode cX3_findFirst 109 = .ok (.iload_n 3, 1) := by decide +kernel
theorem dX3_findFirst_110 : decode cX3_findFirst 110 = .ok (.invokevirtual 21, 3) := by decide +kernel
theorem dX3_findFirst_113 : decode cX3_findFirst 113 = .ok (.iconst 0, 1) := by decide +kernel
theorem dX3_findFirst_114 : decode cX3_findFirst 114 = .ok (.invokestatic 39, 3) := by decide +kernel
theorem dX3_findFirst_117 : decode cX3_findFirst 117 = .ok (.istore 5, 2) := by decide +kernel
theorem dX3_findFirst_119 : decode cX3_findFirst 119 = .ok (.aload_n 0, 1) := by decide +kernel
theorem dX3_findFirst_120 : decode cX3_findFirst 120 = .ok (.aload_n 0, 1) := by decide +kernel
theorem dX3_findFirst_121 : decode cX3_findFirst 121 = .ok (.getfield 36, 3) := by decide +kernel
theorem dX3_findFirst_124 : decode cX3_findFirst 124 = .ok (.bipush 10, 2) := by decide +kernel
theorem dX3_findFirst_126 : decode cX3_findFirst 126 = .ok (.imul, 1) := by decide +kernel
theorem dX3_findFirst_127 : decode cX3_findFirst 127 = .ok (.iload 5, 2) := by decide +kernel
theorem dX3_findFirst_129 : decode cX3_findFirst 129 = .ok (.iadd, 1) := by decide +kernel
theorem dX3_findFirst_13 : decode cX3_findFirst 13 = .ok (.iload_n 2, 1) := by decide +kernel
theorem dX3_findFirst_130 : decode cX3_findFirst 130 = .ok (.putfield 36, 3) := by decide +kernel
theorem dX3_findFirst_133 : decode cX3_findFirst 133 = .ok (.iload_n 3, 1) := by decide +kernel
theorem dX3_findFirst_134 : decode cX3_findFirst 134 = .ok (.iconst 1, 1) := by decide +kernel
theorem dX3_findFirst_135 : decode cX3_findFirst 135 = .ok (.iload 5, 2) := by decide +kernel
theorem dX3_findFirst_137 : decode cX3_findFirst 137 = .ok (.ishl, 1) := by decide +kernel
theorem dX3_findFirst_138 : decode cX3_findFirst 138 = .ok (.ior, 1) := by decide +kernel
theorem dX3_findFirst_139 : decode cX3_findFirst 139 = .ok (.istore_n 3, 1) := by decide +kernel
theorem dX3_findFirst_14 : decode cX3_findFirst 14 = .ok (.iconst 0, 1) := by decide +kernel
theorem dX3_findFirst_140 : decode cX3_findFirst 140 = .ok (.iinc 4 1, 3) := by decide +kernel
theorem dX3_findFirst_143 : decode cX3_findFirst 143 = .ok (.goto (-45), 3) := by decide +kernel
theorem dX3_findFirst_146 : decode cX3_findFirst 146 = .ok (.return_, 1) := by decide +kernel
theorem dX3_findFirst_15 : decode cX3_findFirst 15 = .ok (.iastore, 1) := by decide +kernel
theorem dX3_findFirst_16 : decode cX3_findFirst 16 = .ok (.iload_n 2, 1) := by decide +kernel
theorem dX3_findFirst_17 : decode cX3_findFirst 17 = .ok (.iconst 1, 1) := by decide +kernel
theorem dX3_findFirst_18 : decode cX3_findFirst 18 = .ok (.isub, 1) := by decide +kernel
theorem dX3_findFirst_19 : decode cX3_findFirst 19 = .ok (.istore_n 3, 1) := by decide +kernel
theorem dX3_findFirst_2 : decode cX3_findFirst 2 = .ok (.getfield 17, 3) := by decide +kernel
theorem dX3_findFirst_20 : decode cX3_findFirst 20 = .ok (.iload_n 3, 1) := by decide +kernel
theorem dX3_findFirst_21 : decode cX3_findFirst 21 = .ok (.ifCond .lt 41, 3) := by decide +kernel
theorem dX3_findFirst_24 : decode cX3_findFirst 24 = .ok (.aload_n 0, 1) := by decide +kernel
theorem dX3_findFirst_25 : decode cX3_findFirst 25 = .ok (.aload_n 1, 1) := by decide +kernel
theorem dX3_findFirst_26 : decode cX3_findFirst 26 = .ok (.iload_n 3, 1) := by decide +kernel
theorem dX3_findFirst_27 : decode cX3_findFirst 27 = .ok (.invokevirtual 21, 3) := by decide +kernel
theorem dX3_findFirst_30 : decode cX3_findFirst 30 = .ok (.istore 4, 2) := by decide +kernel
theorem dX3_findFirst_32 : decode cX3_findFirst 32 = .ok (.aload_n 0, 1) := by decide +kernel
theorem dX3_findFirst_33 : decode cX3_findFirst 33 = .ok (.getfield 11, 3) := by decide +kernel
theorem dX3_findFirst_36 : decode cX3_findFirst 36 = .ok (.iload_n 3, 1) := by decide +kernel
theorem dX3_findFirst_37 : decode cX3_findFirst 37 = .ok (.iload 4, 2) := by decide +kernel
theorem dX3_findFirst_39 : decode cX3_findFirst 39 = .ok (.iconst (-1), 1) := by decide +kernel
theorem dX3_findFirst_40 : decode cX3_findFirst 40 = .ok (.if_icmp .ne 7, 3) := by decide +kernel
theorem dX3_findFirst_43 : decode cX3_findFirst 43 = .ok (.iconst 0, 1) := by decide +kernel
theorem dX3_findFirst_44 : decode cX3_findFirst 44 = .ok (.goto 11, 3) := by decide +kernel
theorem dX3_findFirst_47 : decode cX3_findFirst 47 = .ok (.aload_n 0, 1) := by decide +kernel
theorem dX3_findFirst_48 : decode cX3_findFirst 48 = .ok (.aload_n 1, 1) := by decide +kernel
theorem dX3_findFirst_49 : decode cX3_findFirst 49 = .ok (.iload_n 3, 1) := by decide +kernel
theorem dX3_findFirst_5 : decode cX3_findFirst 5 = .ok (.ishl, 1) := by decide +kernel
theorem dX3_findFirst_50 : decode cX3_findFirst 50 = .ok (.iload 4, 2) := by decide +kernel
theorem dX3_findFirst_52 : decode cX3_findFirst 52 = .ok (.invokevirtual 25, 3) := by decide +kernel
theorem dX3_findFirst_55 : decode cX3_findFirst 55 = .ok (.iastore, 1) := by decide +kernel
theorem dX3_findFirst_56 : decode cX3_findFirst 56 = .ok (.iinc 3 (-1), 3) := by decide +kernel
theorem dX3_findFirst_59 : decode cX3_findFirst 59 = .ok (.goto (-39), 3) := by decide +kernel
theorem dX3_findFirst_6 : decode cX3_findFirst 6 = .ok (.iconst 1, 1) := by decide +kernel
theorem dX3_findFirst_62 : decode cX3_findFirst 62 = .ok (.aload_n 0, 1) := by decide +kernel
theorem dX3_findFirst_63 : decode cX3_findFirst 63 = .ok (.aload_n 0, 1) := by decide +kernel
theorem dX3_findFirst_64 : decode cX3_findFirst 64 = .ok (.getfield 11, 3) := by decide +kernel
theorem dX3_findFirst_67 : decode cX3_findFirst 67 = .ok (.iconst 0, 1) := by decide +kernel
theorem dX3_findFirst_68 : decode cX3_findFirst 68 = .ok (.iaload, 1) := by decide +kernel
theorem dX3_findFirst_69 : decode cX3_findFirst 69 = .ok (.ldc 29, 2) := by decide +kernel
theorem dX3_findFirst_7 : decode cX3_findFirst 7 = .ok (.isub, 1) := by decide +kernel
theorem dX3_findFirst_71 : decode cX3_findFirst 71 = .ok (.idiv, 1) := by decide +kernel
theorem dX3_findFirst_72 : decode cX3_findFirst 72 = .ok (.putfield 30, 3) := by decide +kernel
theorem dX3_findFirst_75 : decode cX3_findFirst 75 = .ok (.aload_n 0, 1) := by decide +kernel
theorem dX3_findFirst_76 : decode cX3_findFirst 76 = .ok (.aload_n 0, 1) := by decide +kernel
theorem dX3_findFirst_77 : decode cX3_findFirst 77 = .ok (.getfield 11, 3) := by decide +kernel
theorem dX3_findFirst_8 : decode cX3_findFirst 8 = .ok (.istore_n 2, 1) := by decide +kernel
theorem dX3_findFirst_80 : decode cX3_findFirst 80 = .ok (.iconst 0, 1) := by decide +kernel
theorem dX3_findFirst_81 : decode cX3_findFirst 81 = .ok (.iaload, 1) := by decide +kernel
theorem dX3_findFirst_82 : decode cX3_findFirst 82 = .ok (.ldc 29, 2) := by decide +kernel
theorem dX3_findFirst_84 : decode cX3_findFirst 84 = .ok (.irem, 1) := by decide +kernel
theorem dX3_findFirst_85 : decode cX3_findFirst 85 = .ok (.putfield 33, 3) := by decide +kernel
theorem dX3_findFirst_88 : decode cX3_findFirst 88 = .ok (.aload_n 0, 1) := by decide +kernel
theorem dX3_findFirst_89 : decode cX3_findFirst 89 = .ok (.iconst 0, 1) := by decide +kernel
theorem dX3_findFirst_9 : decode cX3_findFirst 9 = .ok (.aload_n 0, 1) := by decide +kernel
theorem dX3_findFirst_90 : decode cX3_findFirst 90 = .ok (.putfield 36, 3) := by decide +kernel
theorem dX3_findFirst_93 : decode cX3_findFirst 93 = .ok (.iconst 0, 1) := by decide +kernel
theorem dX3_findFirst_94 : decode cX3_findFirst 94 = .ok (.istore_n 3, 1) := by decide +kernel
theorem dX3_findFirst_95 : decode cX3_findFirst 95 = .ok (.iconst 0, 1) := by decide +kernel
theorem dX3_findFirst_96 : decode cX3_findFirst 96 = .ok (.istore 4, 2) := by decide +kernel
theorem dX3_findFirst_98 : decode cX3_findFirst 98 = .ok (.iload 4, 2) := by decide +kernel
theorem dX3_of_0 : decode cX3_of 0 = .ok (.iload_n 1, 1) := by decide +kernel
theorem dX3_of_1 : decode cX3_of 1 = .ok (.iconst (-1), 1) := by decide +kernel
theorem dX3_of_10 : decode cX3_of 10 = .ok (.getfield 56, 3) := by decide +kernel
theorem dX3_of_13 : decode cX3_of 13 = .ok (.iconst 4, 1) := by decide +kernel
theorem dX3_of_14 : decode cX3_of 14 = .ok (.iload_n 1, 1) := by decide +kernel
theorem dX3_of_15 : decode cX3_of 15 = .ok (.imul, 1) := by decide +kernel
theorem dX3_of_16 : decode cX3_of 16 = .ok (.iload_n 2, 1) := by decide +kernel
theorem dX3_of_17 : decode cX3_of 17 = .ok (.iadd, 1) := by decide +kernel
theorem dX3_of_18 : decode cX3_of 18 = .ok (.iaload, 1) := by decide +kernel
theorem dX3_of_19 : decode cX3_of 19 = .ok (.ireturn, 1) := by decide +kernel
theorem dX3_of_2 : decode cX3_of 2 = .ok (.if_icmp .ne 7, 3) := by decide +kernel
theorem dX3_of_5 : decode cX3_of 5 = .ok (.iconst 0, 1) := by decide +kernel
theorem dX3_of_6 : decode cX3_of 6 = .ok (.goto 13, 3) := by decide +kernel
theorem dX3_of_9 : decode cX3_of 9 = .ok (.aload_n 0, 1) := by decide +kernel
theorem dX3_steps_0 : decode cX3_steps 0 = .ok (.aload_n 0, 1) := by decide +kernel
theorem dX3_steps_1 : decode cX3_steps 1 = .ok (.iload_n 1, 1) := by decide +kernel
theorem dX3_steps_12 : decode cX3_steps 12 = .ok (.isub, 1) := by decide +kernel
theorem dX3_steps_13 : decode cX3_steps 13 = .ok (.istore_n 3, 1) := by decide +kernel
theorem dX3_steps_14 : decode cX3_steps 14 = .ok (.aload_n 0, 1) := by decide +kernel
theorem dX3_steps_15 : decode cX3_steps 15 = .ok (.iload_n 1, 1) := by decide +kernel
theorem dX3_steps_16 : decode cX3_steps 16 = .ok (.iconst 1, 1) := by decide +kernel
theorem dX3_steps_17 : decode cX3_steps 17 = .ok (.invokestatic 67, 3) := by decide +kernel
theorem dX3_steps_2 : decode cX3_steps 2 = .ok (.iconst 0, 1) := by decide +kernel
theorem dX3_steps_20 : decode cX3_steps 20 = .ok (.aload_n 0, 1) := by decide +kernel
theorem dX3_steps_21 : decode cX3_steps 21 = .ok (.iload_n 2, 1) := by decide +kernel
theorem dX3_steps_22 : decode cX3_steps 22 = .ok (.iconst 1, 1) := by decide +kernel
theorem dX3_steps_23 : decode cX3_steps 23 = .ok (.invokestatic 67, 3) := by decide +kernel
theorem dX3_steps_26 : decode cX3_steps 26 = .ok (.isub, 1) := by decide +kernel
theorem dX3_steps_27 : decode cX3_steps 27 = .ok (.istore 4, 2) := by decide +kernel
theorem dX3_steps_29 : decode cX3_steps 29 = .ok (.iload_n 3, 1) := by decide +kernel
theorem dX3_steps_3 : decode cX3_steps 3 = .ok (.invokestatic 67, 3) := by decide +kernel
theorem dX3_steps_30 : decode cX3_steps 30 = .ok (.invokestatic 70, 3) := by decide +kernel
theorem dX3_steps_33 : decode cX3_steps 33 = .ok (.iload 4, 2) := by decide +kernel
theorem dX3_steps_35 : decode cX3_steps 35 = .ok (.invokestatic 70, 3) := by decide +kernel
theorem dX3_steps_38 : decode cX3_steps 38 = .ok (.iadd, 1) := by decide +kernel
theorem dX3_steps_39 : decode cX3_steps 39 = .ok (.ireturn, 1) := by decide +kernel
theorem dX3_steps_6 : decode cX3_steps 6 = .ok (.aload_n 0, 1) := by decide +kernel
theorem dX3_steps_7 : decode cX3_steps 7 = .ok (.iload_n 2, 1) := by decide +kernel
theorem dX3_steps_8 : decode cX3_steps 8 = .ok (.iconst 0, 1) := by decide +kernel
theorem dX3_steps_9 : decode cX3_steps 9 = .ok (.invokestatic 67, 3) := by decide +kernel
theorem dX3_weigh_0 : decode cX3_weigh 0 = .ok (.iload_n 2, 1) := by decide +kernel
theorem dX3_weigh_1 : decode cX3_weigh 1 = .ok (.iconst 1, 1) := by decide +kernel
theorem dX3_weigh_10 : decode cX3_weigh 10 = .ok (.iconst 0, 1) := by decide +kernel
theorem dX3_weigh_101 : decode cX3_weigh 101 = .ok (.iload 7, 2) := by decide +kernel
theorem dX3_weigh_103 : decode cX3_weigh 103 = .ok (.ireturn, 1) := by decide +kernel
theorem dX3_weigh_11 : decode cX3_weigh 11 = .ok (.istore 6, 2) := by decide +kernel
theorem dX3_weigh_13 : decode cX3_weigh 13 = .ok (.iload 6, 2) := by decide +kernel
theorem dX3_weigh_15 : decode cX3_weigh 15 = .ok (.aload_n 1, 1) := by decide +kernel
theorem dX3_weigh_16 : decode cX3_weigh 16 = .ok (.getfield 17, 3) := by decide +kernel
theorem dX3_weigh_19 : decode cX3_weigh 19 = .ok (.if_icmp .ge 35, 3) := by decide +kernel
theorem dX3_weigh_2 : decode cX3_weigh 2 = .ok (.iload_n 3, 1) := by decide +kernel
theorem dX3_weigh_22 : decode cX3_weigh 22 = .ok (.iload 4, 2) := by decide +kernel
theorem dX3_weigh_24 : decode cX3_weigh 24 = .ok (.iload 6, 2) := by decide +kernel
theorem dX3_weigh_26 : decode cX3_weigh 26 = .ok (.ishr, 1) := by decide +kernel
theorem dX3_weigh_27 : decode cX3_weigh 27 = .ok (.iconst 1, 1) := by decide +kernel
theorem dX3_weigh_28 : decode cX3_weigh 28 = .ok (.iand, 1) := by decide +kernel
theorem dX3_weigh_29 : decode cX3_weigh 29 = .ok (.ifCond .eq 19, 3) := by decide +kernel
theorem dX3_weigh_3 : decode cX3_weigh 3 = .ok (.ishl, 1) := by decide +kernel
theorem dX3_weigh_32 : decode cX3_weigh 32 = .ok (.iload 5, 2) := by decide +kernel
theorem dX3_weigh_34 : decode cX3_weigh 34 = .ok (.aload_n 1, 1) := by decide +kernel
theorem dX3_weigh_35 : decode cX3_weigh 35 = .ok (.getfield 48, 3) := by decide +kernel
theorem dX3_weigh_38 : decode cX3_weigh 38 = .ok (.iconst 3, 1) := by decide +kernel
theorem dX3_weigh_39 : decode cX3_weigh 39 = .ok (.iload 6, 2) := by decide +kernel
theorem dX3_weigh_4 : decode cX3_weigh 4 = .ok (.ior, 1) := by decide +kernel
theorem dX3_weigh_41 : decode cX3_weigh 41 = .ok (.imul, 1) := by decide +kernel
theorem dX3_weigh_42 : decode cX3_weigh 42 = .ok (.iconst 1, 1) := by decide +kernel
theorem dX3_weigh_43 : decode cX3_weigh 43 = .ok (.iadd, 1) := by decide +kernel
theorem dX3_weigh_44 : decode cX3_weigh 44 = .ok (.iaload, 1) := by decide +kernel
theorem dX3_weigh_45 : decode cX3_weigh 45 = .ok (.iadd, 1) := by decide +kernel
theorem dX3_weigh_46 : decode cX3_weigh 46 = .ok (.istore 5, 2) := by decide +kernel
theorem dX3_weigh_48 : decode cX3_weigh 48 = .ok (.iinc 6 1, 3) := by decide +kernel
theorem dX3_weigh_5 : decode cX3_weigh 5 = .ok (.istore 4, 2) := by decide +kernel
theorem dX3_weigh_51 : decode cX3_weigh 51 = .ok (.goto (-38), 3) := by decide +kernel
theorem dX3_weigh_54 : decode cX3_weigh 54 = .ok (.iconst 3, 1) := by decide +kernel
theorem dX3_weigh_55 : decode cX3_weigh 55 = .ok (.iload_n 3, 1) := by decide +kernel
theorem dX3_weigh_56 : decode cX3_weigh 56 = .ok (.imul, 1) := by decide +kernel
theorem dX3_weigh_57 : decode cX3_weigh 57 = .ok (.istore 6, 2) := by decide +kernel
theorem dX3_weigh_59 : decode cX3_weigh 59 = .ok (.aload_n 1, 1) := by decide +kernel
theorem dX3_weigh_60 : decode cX3_weigh 60 = .ok (.getfield 48, 3) := by decide +kernel
theorem dX3_weigh_63 : decode cX3_weigh 63 = .ok (.iload 6, 2) := by decide +kernel
theorem dX3_weigh_65 : decode cX3_weigh 65 = .ok (.iaload, 1) := by decide +kernel
theorem dX3_weigh_66 : decode cX3_weigh 66 = .ok (.iload 5, 2) := by decide +kernel
theorem dX3_weigh_68 : decode cX3_weigh 68 = .ok (.imul, 1) := by decide +kernel
theorem dX3_weigh_69 : decode cX3_weigh 69 = .ok (.aload_n 0, 1) := by decide +kernel
theorem dX3_weigh_7 : decode cX3_weigh 7 = .ok (.iconst 0, 1) := by decide +kernel
theorem dX3_weigh_70 : decode cX3_weigh 70 = .ok (.getfield 11, 3) := by decide +kernel
theorem dX3_weigh_73 : decode cX3_weigh 73 = .ok (.iload 4, 2) := by decide +kernel
theorem dX3_weigh_75 : decode cX3_weigh 75 = .ok (.iaload, 1) := by decide +kernel
theorem dX3_weigh_76 : decode cX3_weigh 76 = .ok (.iadd, 1) := by decide +kernel
theorem dX3_weigh_77 : decode cX3_weigh 77 = .ok (.istore 7, 2) := by decide +kernel
theorem dX3_weigh_79 : decode cX3_weigh 79 = .ok (.iload 5, 2) := by decide +kernel
theorem dX3_weigh_8 : decode cX3_weigh 8 = .ok (.istore 5, 2) := by decide +kernel
theorem dX3_weigh_81 : decode cX3_weigh 81 = .ok (.aload_n 1, 1) := by decide +kernel
theorem dX3_weigh_82 : decode cX3_weigh 82 = .ok (.getfield 48, 3) := by decide +kernel
theorem dX3_weigh_85 : decode cX3_weigh 85 = .ok (.iload 6, 2) := by decide +kernel
theorem dX3_weigh_87 : decode cX3_weigh 87 = .ok (.iconst 2, 1) := by decide +kernel
theorem dX3_weigh_88 : decode cX3_weigh 88 = .ok (.iadd, 1) := by decide +kernel
theorem dX3_weigh_89 : decode cX3_weigh 89 = .ok (.iaload, 1) := by decide +kernel
theorem dX3_weigh_90 : decode cX3_weigh 90 = .ok (.if_icmp .le 11, 3) := by decide +kernel
theorem dX3_weigh_93 : decode cX3_weigh 93 = .ok (.iload 7, 2) := by decide +kernel
theorem dX3_weigh_95 : decode cX3_weigh 95 = .ok (.ldc 29, 2) := by decide +kernel
theorem dX3_weigh_97 : decode cX3_weigh 97 = .ok (.iadd, 1) := by decide +kernel
theorem dX3_weigh_98 : decode cX3_weigh 98 = .ok (.goto 5, 3) := by decide +kernel
def vs_o_weigh : List Cond := .code yX3_weigh cX3_weigh 8 (some .int) :: (([.fieldLink RX3 11 "KerbSplash$Orders" "best" "[I", .constant RX3 29 (iI 1000000)] : List Cond) ++ ((wsX40) ++ ((wsX30) ++ ([]))))
theorem gd_o_weigh : vs_o_weigh.all goodWord = true := gd_C (by decide +kernel) (gd_A (by decide +kernel) (gd_A (by decide +kernel) (gd_A (by decide +kernel) rfl)))
set_option maxHeartbeats 4000000 in
set_option maxRecDepth 100000 in
theorem o_weigh (l : Launch) (hl : l.stackTraces = false) (D : va_G) (cy : Nat → ClassId) (sa : Nat → Nat) (or_ be : Nat) (late lea ord : Int) (bf : Nat → Int32) (pa pt pd ps : Nat) (cars dips : Int) (df : Nat → Int32) (dn nx : Int) (sz : Nat) (hr_late : (-2147483648) ≤ late ∧ late ≤ 2147483647) (hr_lea : (-2147483648) ≤ lea ∧ lea ≤ 2147483647) (hr_ord : (-2147483648) ≤ ord ∧ ord ≤ 2147483647) (hr_cars : 0 ≤ cars ∧ cars ≤ 20) (hr_dips : 0 ≤ dips ∧ dips ≤ 9) (hr_dn : 0 ≤ dn ∧ dn ≤ 511) (hr_nx : 0 ≤ nx ∧ nx ≤ 8) : Met l yX3_weigh vs_o_weigh ({ frames := 0, cells := 0, slots := 0, locals := 0 }) (va_Pc [vR or_, vR pa, vI dn, vI nx] (pcW D cy sa sz [zO or_ 3 [vI late, vI lea, vI ord, vR be], zI be (cy 0) 512 bf, zO pa 4 [vI cars, vR pt, vI dips, vR pd, vR ps], zI pd (cy 0) 27 df])) (va_Qi (fun (r : Int32) (u : SV) => r = iI (u.2.1 0) ∧ ((-2147483648) ≤ u.2.1 0 ∧ u.2.1 0 ≤ 2147483647)) (fun u t => atW D (va_A [zO or_ 3 [vI late, vI lea, vI ord, vR be], zI be (cy 0) 512 bf, zO pa 4 [vI cars, vR pt, vI dips, vR pd, vR ps], zI pd (cy 0) 27 df] sz) [zO or_ 3 [vI late, vI lea, vI ord, vR be], zI be (cy 0) 512 bf, zO pa 4 [vI cars, vR pt, vI dips, vR pd, vR ps], zI pd (cy 0) 27 df] t) (va_A [zO or_ 3 [vI late, vI lea, vI ord, vR be], zI be (cy 0) 512 bf, zO pa 4 [vI cars, vR pt, vI dips, vR pd, vR ps], zI pd (cy 0) 27 df] sz)) 0 0 (va_A [zO or_ 3 [vI late, vI lea, vI ord, vR be], zI be (cy 0) 512 bf, zO pa 4 [vI cars, vR pt, vI dips, vR pd, vR ps], zI pd (cy 0) 27 df] sz) := by
  refine Met.ofW (cc := cX3_weigh) (maxL := 8) (ret := (some .int)) (by decide) rfl ?_
  intro p e s m args below meth c s₁ B hml hv
  obtain ⟨rfl, hsz, hP, hG, hD0, hT⟩ := hv
  have hx := B.exec
  have hb := B.bytes
  have hr := B.returns
  have hts := atoms_spec (ws := vs_o_weigh) B.pre
  have hown : s.vm.findClass RX3 = some m.cls := findClass_of_methodNamed B.named
  have hlocks := B.notSynchronized
  subst hsz
  have hD := hD0.self (sz := s.heap.size)
  generalize hAe : va_A [zO or_ 3 [vI late, vI lea, vI ord, vR be], zI be (cy 0) 512 bf, zO pa 4 [vI cars, vR pt, vI dips, vR pd, vR ps], zI pd (cy 0) 27 df] s.heap.size = A at hD hT ⊢
  have hA : ∀ q : Nat, s.heap.size ≤ q → A q := fun q h => by rw [← hAe]; exact Or.inr h
  have hS : va_S A s.heap s.heap [] := va_S.rf
  have hl0 := lv_entry ([vR or_, vR pa, vI dn, vI nx]) (n := 8) (Nat.le_of_ble_eq_true rfl)
  rw [lg_entry_eq]
  generalize (lg_sl ([vR or_, vR pa, vI dn, vI nx]) ++ List.replicate (8 - (lg_sl ([vR or_, vR pa, vI dn, vI nx])).length) Slot.unset).toArray = ls at hl0 ⊢
  have hlv : lv_has ls 8 [(0, vR or_), (1, vR pa), (2, vI dn), (3, vI nx)] := hl0
  have hi4 : ∀ w ∈ wsX40, w ∈ vs_o_weigh := fun w h => List.mem_cons_of_mem _ (List.mem_append_right _ (List.mem_append_left _ h))
  have lf11 := hts (.fieldLink RX3 11 "KerbSplash$Orders" "best" "[I") (List.mem_of_getElem? (i := 1) rfl)
  have hi3 : ∀ w ∈ wsX30, w ∈ vs_o_weigh := fun w h => List.mem_cons_of_mem _ (List.mem_append_right _ (List.mem_append_right _ (List.mem_append_left _ h)))
  have ld29 := hts (.constant RX3 29 (iI 1000000)) (List.mem_of_getElem? (i := 2) rfl)
  refine lv_iload_n hx hb dX3_weigh_0 rfl (lv_at hlv 2 rfl) ?_
  refine lv_iconst (v := iI 1) hx hb dX3_weigh_1 (by decide) ?_
  refine lv_iload_n hx hb dX3_weigh_2 rfl (lv_at hlv 3 rfl) ?_
  refine lv_ishl hx hb dX3_weigh_3 ?_
  refine lt_sh2 (n := 8) (M := 256) (by decide) (by decide) (by omega) (fun z_1 ez_1 lz_1 hz_1 => ?_)
  refine lv_ior hx hb dX3_weigh_4 ?_
  refine lt_o2 9 (M := 511) (by decide) (by omega) (by omega) (fun z_2 lz_2 hz_2 => ?_)
  refine lv_istore (lv' := [(4, vI z_2), (0, vR or_), (1, vR pa), (2, vI dn), (3, vI nx)]) hx hb dX3_weigh_5 hlv (by decide) rfl (fun ls hlv => ?_)
  refine lv_iconst (v := iI 0) hx hb dX3_weigh_7 (by decide) ?_
  refine lv_istore (lv' := [(5, vI 0), (4, vI z_2), (0, vR or_), (1, vR pa), (2, vI dn), (3, vI nx)]) hx hb dX3_weigh_8 hlv (by decide) rfl (fun ls hlv => ?_)
  refine lv_iconst (v := iI 0) hx hb dX3_weigh_10 (by decide) ?_
  refine lv_istore (lv' := [(6, vI 0), (5, vI 0), (4, vI z_2), (0, vR or_), (1, vR pa), (2, vI dn), (3, vI nx)]) hx hb dX3_weigh_11 hlv (by decide) rfl (fun ls hlv => ?_)
  refine (?_ : ∀ (fu : Nat) (q5 : Int) (q6 : Int) (H : Heap) (locs : List Loc) (ls : Array Slot), 9 - q6 < (fu : Int) → ((-2147483648) ≤ q5 ∧ q5 ≤ 2147483647) → (0 ≤ q6 ∧ q6 ≤ 9) → va_P D vwCl [zO or_ 3 [vI late, vI lea, vI ord, vR be], zI be (cy 0) 512 bf, zO pa 4 [vI cars, vR pt, vI dips, vR pd, vR ps], zI pd (cy 0) 27 df] H → va_D A [zO or_ 3 [vI late, vI lea, vI ord, vR be], zI be (cy 0) 512 bf, zO pa 4 [vI cars, vR pt, vI dips, vR pd, vR ps], zI pd (cy 0) 27 df] → va_S A s.heap H locs → lv_has ls 8 [(6, vI q6), (5, vI q5), (4, vI z_2), (0, vR or_), (1, vR pa), (2, vI dn), (3, vI nx)] → W p l e _ s m _ below meth c H locs _ _ _ (F0 m 13 ls [])) (((9 - 0) + 1 : Int)).toNat 0 0 _ _ _ (by omega) (by show ((-2147483648) : Int) ≤ 0 ∧ (0 : Int) ≤ 2147483647; decide) (by show (0 : Int) ≤ 0 ∧ (0 : Int) ≤ 9; decide)  hP hD hS hlv
  clear hP hD hS hlv
  intro fu
  induction fu with
  | zero => intro q5 q6 H locs ls hm13 hl13_0 hl13_1  hP hD hS hlv; omega
  | succ fu ih13 =>
    intro q5 q6 H locs ls hm13 hl13_0 hl13_1  hP hD hS hlv
    refine lv_iload hx hb dX3_weigh_13 (lv_at hlv 0 rfl) ?_
    refine lv_aload_n hx hb dX3_weigh_15 rfl (lv_at hlv 4 rfl) ?_
    refine va_getN (D := D) (ci := 4) (v := vI dips) (C := RX4) (T := TX4) (N := 5) hx hb hts hi4 hown hG.1 hP 2 rfl rfl 2 (by decide) (va_Nw.use rfl (nF_Orders_17 hG.2.1)) (fun _ h9 => h9) rfl dX3_weigh_16 ?_
    refine ir_ge (tgt := 54) hx hb dX3_weigh_19 (by decide) (by first | exact rgw hl13_1 (by decide) (by decide) | omega) (by first | exact rgw hr_dips (by decide) (by decide) | omega) (fun c_3 => ?_) (fun c_3 => ?_)
    · refine lv_iconst (v := iI 3) hx hb dX3_weigh_54 (by decide) ?_
      refine lv_iload_n hx hb dX3_weigh_55 rfl (lv_at hlv 6 rfl) ?_
      refine lv_imul hx hb dX3_weigh_56 ?_
      refine lt_e (e0 := 3 * nx) (Int32.ofInt_mul _ _).symm (fun z_4 hz_4 => ?_)
      refine lv_istore (lv' := [(6, vI z_4), (5, vI q5), (4, vI z_2), (0, vR or_), (1, vR pa), (2, vI dn), (3, vI nx)]) hx hb dX3_weigh_57 hlv (by decide) rfl (fun ls hlv => ?_)
      refine lv_aload_n hx hb dX3_weigh_59 rfl (lv_at hlv 4 rfl) ?_
      refine va_getN (D := D) (ci := 4) (v := vR pd) (C := RX4) (T := TX4) (N := 5) hx hb hts hi4 hown hG.1 hP 2 rfl rfl 3 (by decide) (va_Nw.use rfl (nF_Orders_48 hG.2.1)) (fun _ h9 => h9) rfl dX3_weigh_60 ?_
      refine lv_iload hx hb dX3_weigh_63 (lv_at hlv 0 rfl) ?_
      refine va_iald hx hb hG.1 hP 3 0 rfl rfl (iI_in (by omega) (by decide)) dX3_weigh_65 ?_
      refine lt_z (fun z_5 ez_5 lz_5 hz_5 => ?_)
      refine lv_iload hx hb dX3_weigh_66 (lv_at hlv 1 rfl) ?_
      refine lv_imul hx hb dX3_weigh_68 ?_
      refine lt_z (fun z_6 ez_6 lz_6 hz_6 => ?_)
      refine lv_aload_n hx hb dX3_weigh_69 rfl (lv_at hlv 3 rfl) ?_
      refine va_get (D := D) (ci := 3) (v := vR be) (C := RX3) (T := TX3) (N := 4) hx hb hts hi3 hown hG.1 hP 0 rfl rfl 3 (by decide) lf11 (fun _ h9 => h9) rfl dX3_weigh_70 ?_
      refine lv_iload hx hb dX3_weigh_73 (lv_at hlv 2 rfl) ?_
      refine va_iald hx hb hG.1 hP 1 0 rfl rfl (iI_in (by omega) (by decide)) dX3_weigh_75 ?_
      refine lt_z (fun z_7 ez_7 lz_7 hz_7 => ?_)
      refine lv_iadd hx hb dX3_weigh_76 ?_
      refine lt_z (fun z_8 ez_8 lz_8 hz_8 => ?_)
      refine lv_istore (lv' := [(7, vI z_8), (6, vI z_4), (5, vI q5), (4, vI z_2), (0, vR or_), (1, vR pa), (2, vI dn), (3, vI nx)]) hx hb dX3_weigh_77 hlv (by decide) rfl (fun ls hlv => ?_)
      refine lv_iload hx hb dX3_weigh_79 (lv_at hlv 2 rfl) ?_
      refine lv_aload_n hx hb dX3_weigh_81 rfl (lv_at hlv 5 rfl) ?_
      refine va_getN (D := D) (ci := 4) (v := vR pd) (C := RX4) (T := TX4) (N := 5) hx hb hts hi4 hown hG.1 hP 2 rfl rfl 3 (by decide) (va_Nw.use rfl (nF_Orders_48 hG.2.1)) (fun _ h9 => h9) rfl dX3_weigh_82 ?_
      refine lv_iload hx hb dX3_weigh_85 (lv_at hlv 1 rfl) ?_
      refine lv_iconst (v := iI 2) hx hb dX3_weigh_87 (by decide) ?_
      refine lv_iadd hx hb dX3_weigh_88 ?_
      refine lt_e (e0 := z_4 + 2) (Int32.ofInt_add _ _).symm (fun z_9 hz_9 => ?_)
      refine va_iald hx hb hG.1 hP 3 0 rfl rfl (iI_in (by omega) (by decide)) dX3_weigh_89 ?_
      refine lt_z (fun z_10 ez_10 lz_10 hz_10 => ?_)
      refine ir_le (tgt := 101) hx hb dX3_weigh_90 (by decide) (by first | exact hl13_0 | omega) (by omega) (fun c_11 => ?_) (fun c_11 => ?_)
      · refine lv_iload hx hb dX3_weigh_101 (lv_at hlv 0 rfl) ?_
        refine W.widen (k := 0) (n := 0) (Nat.le_of_ble_eq_true rfl) (Nat.le_of_ble_eq_true rfl) ?_
        exact W.iret (v := iI z_8) hx hb hr (fun t ht hW => ⟨⟨iI z_8, ((fun k => ([] : List Nat).getD k 0), (fun k => ([z_8] : List Int).getD k 0), (fun k => ([] : List (Nat → Int32)).getD k (fun _ => 0))), rfl, ⟨rfl, (by show ((-2147483648) ≤ z_8 ∧ z_8 ≤ 2147483647); omega)⟩, by rw [ht]; exact hP.sub [0, 1, 2, 3] rfl, hD.sub [0, 1, 2, 3] (by decide) rfl⟩, hS.F ht⟩) hS.2.2 dX3_weigh_103
      · refine lv_iload hx hb dX3_weigh_93 (lv_at hlv 0 rfl) ?_
        refine lv_ldc (v := iI 1000000) hx hb hown ld29 dX3_weigh_95 ?_
        refine lv_iadd hx hb dX3_weigh_97 ?_
        refine lt_z (fun z_12 ez_12 lz_12 hz_12 => ?_)
        refine lv_goto (tgt := 103) hx hb dX3_weigh_98 (by decide) ?_
        refine W.widen (k := 0) (n := 0) (Nat.le_of_ble_eq_true rfl) (Nat.le_of_ble_eq_true rfl) ?_
        exact W.iret (v := iI z_12) hx hb hr (fun t ht hW => ⟨⟨iI z_12, ((fun k => ([] : List Nat).getD k 0), (fun k => ([z_12] : List Int).getD k 0), (fun k => ([] : List (Nat → Int32)).getD k (fun _ => 0))), rfl, ⟨rfl, (by show ((-2147483648) ≤ z_12 ∧ z_12 ≤ 2147483647); omega)⟩, by rw [ht]; exact hP.sub [0, 1, 2, 3] rfl, hD.sub [0, 1, 2, 3] (by decide) rfl⟩, hS.F ht⟩) hS.2.2 dX3_weigh_103
    · refine lv_iload hx hb dX3_weigh_22 (lv_at hlv 2 rfl) ?_
      refine lv_iload hx hb dX3_weigh_24 (lv_at hlv 0 rfl) ?_
      refine lv_ishr hx hb dX3_weigh_26 ?_
      refine lt_z (fun z_13 ez_13 lz_13 hz_13 => ?_)
      refine lv_iconst (v := iI 1) hx hb dX3_weigh_27 (by decide) ?_
      refine lv_iand hx hb dX3_weigh_28 ?_
      refine lt_aE 1 (by decide) (by decide) (hi := 1) (by decide) (fun z_14 ez_14 lz_14 hz_14 => ?_)
      refine iz_eq (tgt := 48) hx hb dX3_weigh_29 (by decide) (by omega) (fun c_15 => ?_) (fun c_15 => ?_)
      · obtain ⟨z_16, hz_16⟩ : ∃ z : Int, z = q6 + 1 := ⟨_, rfl⟩
        refine lv_iinc (v := iI z_16) (lv' := [(6, vI z_16), (5, vI q5), (4, vI z_2), (0, vR or_), (1, vR pa), (2, vI dn), (3, vI nx)]) hx hb dX3_weigh_48 hlv (k := 0) rfl (by rw [hz_16]; exact (Int32.ofInt_add _ _).symm) (by decide) rfl (fun ls hlv => ?_)
        refine lv_goto (tgt := 13) hx hb dX3_weigh_51 (by decide) ?_
        exact ih13 q5 z_16 H locs ls (by omega) (by first | exact hl13_0 | omega) (by omega)  (hP.sub [0, 1, 2, 3] rfl) (hD.sub [0, 1, 2, 3] (by decide) rfl) hS (lv_sub hlv [0, 1, 2, 3, 4, 5, 6] rfl)
      · refine lv_iload hx hb dX3_weigh_32 (lv_at hlv 1 rfl) ?_
        refine lv_aload_n hx hb dX3_weigh_34 rfl (lv_at hlv 4 rfl) ?_
        refine va_getN (D := D) (ci := 4) (v := vR pd) (C := RX4) (T := TX4) (N := 5) hx hb hts hi4 hown hG.1 hP 2 rfl rfl 3 (by decide) (va_Nw.use rfl (nF_Orders_48 hG.2.1)) (fun _ h9 => h9) rfl dX3_weigh_35 ?_
        refine lv_iconst (v := iI 3) hx hb dX3_weigh_38 (by decide) ?_
        refine lv_iload hx hb dX3_weigh_39 (lv_at hlv 0 rfl) ?_
        refine lv_imul hx hb dX3_weigh_41 ?_
        refine lt_e (e0 := 3 * q6) (Int32.ofInt_mul _ _).symm (fun z_17 hz_17 => ?_)
        refine lv_iconst (v := iI 1) hx hb dX3_weigh_42 (by decide) ?_
        refine lv_iadd hx hb dX3_weigh_43 ?_
        refine lt_e (e0 := z_17 + 1) (Int32.ofInt_add _ _).symm (fun z_18 hz_18 => ?_)
        refine va_iald hx hb hG.1 hP 3 0 rfl rfl (iI_in (by omega) (by decide)) dX3_weigh_44 ?_
        refine lt_z (fun z_19 ez_19 lz_19 hz_19 => ?_)
        refine lv_iadd hx hb dX3_weigh_45 ?_
        refine lt_z (fun z_20 ez_20 lz_20 hz_20 => ?_)
        refine lv_istore (lv' := [(5, vI z_20), (6, vI q6), (4, vI z_2), (0, vR or_), (1, vR pa), (2, vI dn), (3, vI nx)]) hx hb dX3_weigh_46 hlv (by decide) rfl (fun ls hlv => ?_)
        obtain ⟨z_21, hz_21⟩ : ∃ z : Int, z = q6 + 1 := ⟨_, rfl⟩
        refine lv_iinc (v := iI z_21) (lv' := [(6, vI z_21), (5, vI z_20), (4, vI z_2), (0, vR or_), (1, vR pa), (2, vI dn), (3, vI nx)]) hx hb dX3_weigh_48 hlv (k := 1) rfl (by rw [hz_21]; exact (Int32.ofInt_add _ _).symm) (by decide) rfl (fun ls hlv => ?_)
        refine lv_goto (tgt := 13) hx hb dX3_weigh_51 (by decide) ?_
        exact ih13 z_20 z_21 H locs ls (by omega) (by omega) (by omega)  (hP.sub [0, 1, 2, 3] rfl) (hD.sub [0, 1, 2, 3] (by decide) rfl) hS (lv_sub hlv [0, 1, 2, 3, 4, 5, 6] rfl)
def vs_o_bestNext : List Cond := .code yX3_bestNext cX3_bestNext 7 (some .int) :: (([.constant RX3 47 (iI 2147483647)] : List Cond) ++ ((wsX40) ++ ((wsV RX3 25 RX3 yX3_weigh vs_o_weigh) ++ ([]))))
theorem gd_o_bestNext : vs_o_bestNext.all goodWord = true := gd_C (by decide +kernel) (gd_A (by decide +kernel) (gd_A (by decide +kernel) (gd_A (gd_V gd_o_weigh (by decide +kernel)) rfl)))
set_option maxHeartbeats 4000000 in
set_option maxRecDepth 100000 in
theorem o_bestNext (l : Launch) (hl : l.stackTraces = false) (D : va_G) (cy : Nat → ClassId) (sa : Nat → Nat) (or_ be : Nat) (late lea ord : Int) (bf : Nat → Int32) (pa pt pd ps : Nat) (cars dips : Int) (df : Nat → Int32) (dn : Int) (sz : Nat) (hr_late : (-2147483648) ≤ late ∧ late ≤ 2147483647) (hr_lea : (-2147483648) ≤ lea ∧ lea ≤ 2147483647) (hr_ord : (-2147483648) ≤ ord ∧ ord ≤ 2147483647) (hr_cars : 0 ≤ cars ∧ cars ≤ 20) (hr_dips : 0 ≤ dips ∧ dips ≤ 9) (hr_dn : 0 ≤ dn ∧ dn ≤ 511) : Met l yX3_bestNext vs_o_bestNext ({ frames := 1, cells := 0, slots := 0, locals := 27 }) (va_Pc [vR or_, vR pa, vI dn] (pcW D cy sa sz [zO or_ 3 [vI late, vI lea, vI ord, vR be], zI be (cy 0) 512 bf, zO pa 4 [vI cars, vR pt, vI dips, vR pd, vR ps], zI pd (cy 0) 27 df])) (va_Qi (fun (r : Int32) (u : SV) => r = iI (u.2.1 0) ∧ ((-1) ≤ u.2.1 0 ∧ u.2.1 0 ≤ 8)) (fun u t => atW D (va_A [zO or_ 3 [vI late, vI lea, vI ord, vR be], zI be (cy 0) 512 bf, zO pa 4 [vI cars, vR pt, vI dips, vR pd, vR ps], zI pd (cy 0) 27 df] sz) [zO or_ 3 [vI late, vI lea, vI ord, vR be], zI be (cy 0) 512 bf, zO pa 4 [vI cars, vR pt, vI dips, vR pd, vR ps], zI pd (cy 0) 27 df] t) (va_A [zO or_ 3 [vI late, vI lea, vI ord, vR be], zI be (cy 0) 512 bf, zO pa 4 [vI cars, vR pt, vI dips, vR pd, vR ps], zI pd (cy 0) 27 df] sz)) 0 0 (va_A [zO or_ 3 [vI late, vI lea, vI ord, vR be], zI be (cy 0) 512 bf, zO pa 4 [vI cars, vR pt, vI dips, vR pd, vR ps], zI pd (cy 0) 27 df] sz) := by
  refine Met.ofW (cc := cX3_bestNext) (maxL := 7) (ret := (some .int)) (by decide) rfl ?_
  intro p e s m args below meth c s₁ B hml hv
  obtain ⟨rfl, hsz, hP, hG, hD0, hT⟩ := hv
  have hx := B.exec
  have hb := B.bytes
  have hr := B.returns
  have hts := atoms_spec (ws := vs_o_bestNext) B.pre
  have hown : s.vm.findClass RX3 = some m.cls := findClass_of_methodNamed B.named
  have hlocks := B.notSynchronized
  subst hsz
  have hD := hD0.self (sz := s.heap.size)
  generalize hAe : va_A [zO or_ 3 [vI late, vI lea, vI ord, vR be], zI be (cy 0) 512 bf, zO pa 4 [vI cars, vR pt, vI dips, vR pd, vR ps], zI pd (cy 0) 27 df] s.heap.size = A at hD hT ⊢
  have hA : ∀ q : Nat, s.heap.size ≤ q → A q := fun q h => by rw [← hAe]; exact Or.inr h
  have hS : va_S A s.heap s.heap [] := va_S.rf
  have hl0 := lv_entry ([vR or_, vR pa, vI dn]) (n := 7) (Nat.le_of_ble_eq_true rfl)
  rw [lg_entry_eq]
  generalize (lg_sl ([vR or_, vR pa, vI dn]) ++ List.replicate (7 - (lg_sl ([vR or_, vR pa, vI dn])).length) Slot.unset).toArray = ls at hl0 ⊢
  have hlv : lv_has ls 7 [(0, vR or_), (1, vR pa), (2, vI dn)] := hl0
  have ld47 := hts (.constant RX3 47 (iI 2147483647)) (List.mem_of_getElem? (i := 1) rfl)
  have hi4 : ∀ w ∈ wsX40, w ∈ vs_o_bestNext := fun w h => List.mem_cons_of_mem _ (List.mem_append_right _ (List.mem_append_left _ h))
  have gg_1 : GoodIn vs_o_bestNext (wsV RX3 25 RX3 yX3_weigh vs_o_weigh) := goodIn_sub (fun w h => List.mem_cons_of_mem _ (List.mem_append_right _ (List.mem_append_right _ (List.mem_append_left _ h)))) (gd_V gd_o_weigh (by decide +kernel))
  refine lv_iconst (v := iI (-1)) hx hb dX3_bestNext_0 (by decide) ?_
  refine lv_istore_n (lv' := [(3, vI (-1)), (0, vR or_), (1, vR pa), (2, vI dn)]) hx hb dX3_bestNext_1 rfl hlv (by decide) rfl (fun ls hlv => ?_)
  refine lv_ldc (v := iI 2147483647) hx hb hown ld47 dX3_bestNext_2 ?_
  refine lv_istore (lv' := [(4, vI 2147483647), (3, vI (-1)), (0, vR or_), (1, vR pa), (2, vI dn)]) hx hb dX3_bestNext_4 hlv (by decide) rfl (fun ls hlv => ?_)
  refine lv_iconst (v := iI 0) hx hb dX3_bestNext_6 (by decide) ?_
  refine lv_istore (lv' := [(5, vI 0), (4, vI 2147483647), (3, vI (-1)), (0, vR or_), (1, vR pa), (2, vI dn)]) hx hb dX3_bestNext_7 hlv (by decide) rfl (fun ls hlv => ?_)
  refine (?_ : ∀ (fu : Nat) (q3 : Int) (q4 : Int) (q5 : Int) (H : Heap) (locs : List Loc) (ls : Array Slot), 9 - q5 < (fu : Int) → ((-1) ≤ q3 ∧ q3 ≤ 8) → ((-2147483648) ≤ q4 ∧ q4 ≤ 2147483647) → (0 ≤ q5 ∧ q5 ≤ 9) → va_P D vwCl [zO or_ 3 [vI late, vI lea, vI ord, vR be], zI be (cy 0) 512 bf, zO pa 4 [vI cars, vR pt, vI dips, vR pd, vR ps], zI pd (cy 0) 27 df] H → va_D A [zO or_ 3 [vI late, vI lea, vI ord, vR be], zI be (cy 0) 512 bf, zO pa 4 [vI cars, vR pt, vI dips, vR pd, vR ps], zI pd (cy 0) 27 df] → va_S A s.heap H locs → lv_has ls 7 [(5, vI q5), (4, vI q4), (3, vI q3), (0, vR or_), (1, vR pa), (2, vI dn)] → W p l e _ s m _ below meth c H locs _ _ _ (F0 m 9 ls [])) (((9 - 0) + 1 : Int)).toNat (-1) 2147483647 0 _ _ _ (by omega) (by show ((-1) : Int) ≤ (-1) ∧ ((-1) : Int) ≤ 8; decide) (by show ((-2147483648) : Int) ≤ 2147483647 ∧ (2147483647 : Int) ≤ 2147483647; decide) (by show (0 : Int) ≤ 0 ∧ (0 : Int) ≤ 9; decide)  hP hD hS hlv
  clear hP hD hS hlv
  intro fu
  induction fu with
  | zero => intro q3 q4 q5 H locs ls hm9 hl9_0 hl9_1 hl9_2  hP hD hS hlv; omega
  | succ fu ih9 =>
    intro q3 q4 q5 H locs ls hm9 hl9_0 hl9_1 hl9_2  hP hD hS hlv
    refine lv_iload hx hb dX3_bestNext_9 (lv_at hlv 0 rfl) ?_
    refine lv_aload_n hx hb dX3_bestNext_11 rfl (lv_at hlv 4 rfl) ?_
    refine va_getN (D := D) (ci := 4) (v := vI dips) (C := RX4) (T := TX4) (N := 5) hx hb hts hi4 hown hG.1 hP 2 rfl rfl 2 (by decide) (va_Nw.use rfl (nF_Orders_17 hG.2.1)) (fun _ h9 => h9) rfl dX3_bestNext_12 ?_
    refine ir_ge (tgt := 57) hx hb dX3_bestNext_15 (by decide) (by first | exact rgw hl9_2 (by decide) (by decide) | omega) (by first | exact rgw hr_dips (by decide) (by decide) | omega) (fun c_1 => ?_) (fun c_1 => ?_)
    · refine lv_iload_n hx hb dX3_bestNext_57 rfl (lv_at hlv 2 rfl) ?_
      refine W.widen (k := 0) (n := 0) (Nat.le_of_ble_eq_true rfl) (Nat.le_of_ble_eq_true rfl) ?_
      exact W.iret (v := iI q3) hx hb hr (fun t ht hW => ⟨⟨iI q3, ((fun k => ([] : List Nat).getD k 0), (fun k => ([q3] : List Int).getD k 0), (fun k => ([] : List (Nat → Int32)).getD k (fun _ => 0))), rfl, ⟨rfl, (by show ((-1) ≤ q3 ∧ q3 ≤ 8); first | exact hl9_0 | omega)⟩, by rw [ht]; exact hP.sub [0, 1, 2, 3] rfl, hD.sub [0, 1, 2, 3] (by decide) rfl⟩, hS.F ht⟩) hS.2.2 dX3_bestNext_58
    · refine lv_iload_n hx hb dX3_bestNext_18 rfl (lv_at hlv 5 rfl) ?_
      refine lv_iload hx hb dX3_bestNext_19 (lv_at hlv 0 rfl) ?_
      refine lv_ishr hx hb dX3_bestNext_21 ?_
      refine lt_z (fun z_2 ez_2 lz_2 hz_2 => ?_)
      refine lv_iconst (v := iI 1) hx hb dX3_bestNext_22 (by decide) ?_
      refine lv_iand hx hb dX3_bestNext_23 ?_
      refine lt_aE 1 (by decide) (by decide) (hi := 1) (by decide) (fun z_3 ez_3 lz_3 hz_3 => ?_)
      refine iz_ne (tgt := 51) hx hb dX3_bestNext_24 (by decide) (by omega) (fun c_4 => ?_) (fun c_4 => ?_)
      · obtain ⟨z_5, hz_5⟩ : ∃ z : Int, z = q5 + 1 := ⟨_, rfl⟩
        refine lv_iinc (v := iI z_5) (lv' := [(5, vI z_5), (4, vI q4), (3, vI q3), (0, vR or_), (1, vR pa), (2, vI dn)]) hx hb dX3_bestNext_51 hlv (k := 0) rfl (by rw [hz_5]; exact (Int32.ofInt_add _ _).symm) (by decide) rfl (fun ls hlv => ?_)
        refine lv_goto (tgt := 9) hx hb dX3_bestNext_54 (by decide) ?_
        exact ih9 q3 q4 z_5 H locs ls (by omega) (by first | exact hl9_0 | omega) (by first | exact hl9_1 | omega) (by omega)  (hP.sub [0, 1, 2, 3] rfl) (hD.sub [0, 1, 2, 3] (by decide) rfl) hS (lv_sub hlv [0, 1, 2, 3, 4, 5] rfl)
      · refine lv_aload_n hx hb dX3_bestNext_27 rfl (lv_at hlv 3 rfl) ?_
        refine lv_aload_n hx hb dX3_bestNext_28 rfl (lv_at hlv 4 rfl) ?_
        refine lv_iload_n hx hb dX3_bestNext_29 rfl (lv_at hlv 5 rfl) ?_
        refine lv_iload hx hb dX3_bestNext_30 (lv_at hlv 0 rfl) ?_
        refine cj_i (wr := []) (va_runV (As := [vR pa, vI dn, vI q5]) (rest := []) ⟨hx, hb, hml, hown, hts⟩ (o_weigh l hl D cy sa or_ be late lea ord bf pa pt pd ps cars dips df dn q5 H.size (by first | exact hr_late | omega) (by first | exact hr_lea | omega) (by first | exact hr_ord | omega) (by first | exact hr_cars | omega) (by first | exact hr_dips | omega) (by first | exact hr_dn | omega) (by omega)) (cwV 3 hts gg_1 rfl rfl rfl (by decide +kernel) ⟨Nat.le_of_ble_eq_true rfl, Nat.le_of_ble_eq_true rfl⟩) ⟨pcW.blind, (va_recv hG.1 hP (ci := 3) (q0 := 0) rfl rfl), (pcW.mk hP hD hS hA hG hT [0, 1, 2, 3] rfl (by decide))⟩ rfl rfl hlv.1 rfl (lv_room (Nat.le_of_ble_eq_true rfl)) dX3_bestNext_32 ⟨Nat.le_of_ble_eq_true rfl, Nat.le_of_ble_eq_true rfl⟩) hP hD hS hA [0, 1, 2, 3] [] rfl rfl (by decide) (by decide) (fun r1 u1 H locs hw1 hP hD hS => ?_)
        obtain ⟨rfl, hq1_1⟩ := hw1
        have hP : va_P D vwCl [zO or_ 3 [vI late, vI lea, vI ord, vR be], zI be (cy 0) 512 bf, zO pa 4 [vI cars, vR pt, vI dips, vR pd, vR ps], zI pd (cy 0) 27 df] H := hP
        have hD : va_D A [zO or_ 3 [vI late, vI lea, vI ord, vR be], zI be (cy 0) 512 bf, zO pa 4 [vI cars, vR pt, vI dips, vR pd, vR ps], zI pd (cy 0) 27 df] := hD
        refine lv_istore (lv' := [(6, vI (u1.2.1 0)), (5, vI q5), (4, vI q4), (3, vI q3), (0, vR or_), (1, vR pa), (2, vI dn)]) hx hb dX3_bestNext_35 hlv (by decide) rfl (fun ls hlv => ?_)
        refine lv_iload hx hb dX3_bestNext_37 (lv_at hlv 0 rfl) ?_
        refine lv_iload hx hb dX3_bestNext_39 (lv_at hlv 2 rfl) ?_
        refine ir_ge (tgt := 51) hx hb dX3_bestNext_41 (by decide) (by first | exact hq1_1 | omega) (by first | exact hl9_1 | omega) (fun c_6 => ?_) (fun c_6 => ?_)
        · obtain ⟨z_7, hz_7⟩ : ∃ z : Int, z = q5 + 1 := ⟨_, rfl⟩
          refine lv_iinc (v := iI z_7) (lv' := [(5, vI z_7), (6, vI (u1.2.1 0)), (4, vI q4), (3, vI q3), (0, vR or_), (1, vR pa), (2, vI dn)]) hx hb dX3_bestNext_51 hlv (k := 1) rfl (by rw [hz_7]; exact (Int32.ofInt_add _ _).symm) (by decide) rfl (fun ls hlv => ?_)
          refine lv_goto (tgt := 9) hx hb dX3_bestNext_54 (by decide) ?_
          exact ih9 q3 q4 z_7 H locs ls (by omega) (by first | exact hl9_0 | omega) (by first | exact hl9_1 | omega) (by omega)  (hP.sub [0, 1, 2, 3] rfl) (hD.sub [0, 1, 2, 3] (by decide) rfl) hS (lv_sub hlv [0, 2, 3, 4, 5, 6] rfl)
        · refine lv_iload hx hb dX3_bestNext_44 (lv_at hlv 0 rfl) ?_
          refine lv_istore (lv' := [(4, vI (u1.2.1 0)), (6, vI (u1.2.1 0)), (5, vI q5), (3, vI q3), (0, vR or_), (1, vR pa), (2, vI dn)]) hx hb dX3_bestNext_46 hlv (by decide) rfl (fun ls hlv => ?_)
          refine lv_iload hx hb dX3_bestNext_48 (lv_at hlv 2 rfl) ?_
          refine lv_istore_n (lv' := [(3, vI q5), (4, vI (u1.2.1 0)), (6, vI (u1.2.1 0)), (5, vI q5), (0, vR or_), (1, vR pa), (2, vI dn)]) hx hb dX3_bestNext_50 rfl hlv (by decide) rfl (fun ls hlv => ?_)
          obtain ⟨z_8, hz_8⟩ : ∃ z : Int, z = q5 + 1 := ⟨_, rfl⟩
          refine lv_iinc (v := iI z_8) (lv' := [(5, vI z_8), (3, vI q5), (4, vI (u1.2.1 0)), (6, vI (u1.2.1 0)), (0, vR or_), (1, vR pa), (2, vI dn)]) hx hb dX3_bestNext_51 hlv (k := 3) rfl (by rw [hz_8]; exact (Int32.ofInt_add _ _).symm) (by decide) rfl (fun ls hlv => ?_)
          refine lv_goto (tgt := 9) hx hb dX3_bestNext_54 (by decide) ?_
          exact ih9 q5 (u1.2.1 0) z_8 H locs ls (by omega) (by omega) (by first | exact hq1_1 | omega) (by omega)  (hP.sub [0, 1, 2, 3] rfl) (hD.sub [0, 1, 2, 3] (by decide) rfl) hS (lv_sub hlv [0, 2, 1, 4, 5, 6] rfl)
def vs_o_first : List Cond := .code yX3_findFirst cX3_findFirst 6 none :: (([.fieldLink RX3 11 "KerbSplash$Orders" "best" "[I", .constant RX3 29 (iI 1000000), .fieldLink RX3 30 "KerbSplash$Orders" "late" "I", .fieldLink RX3 33 "KerbSplash$Orders" "least" "I", .fieldLink RX3 36 "KerbSplash$Orders" "order" "I", .methodLink RX3 39 Lib.Math.max.name, .static Lib.Math.max.name, .initialized "java/lang/Math", .code Lib.Math.max.name Lib.Math.max.code 2 (some .int)] : List Cond) ++ ((wsX40) ++ ((wsX30) ++ ((wsV RX3 21 RX3 yX3_bestNext vs_o_bestNext) ++ ((wsV RX3 25 RX3 yX3_weigh vs_o_weigh) ++ ([]))))))
theorem gd_o_first : vs_o_first.all goodWord = true := gd_C (by decide +kernel) (gd_A (by decide +kernel) (gd_A (by decide +kernel) (gd_A (by decide +kernel) (gd_A (gd_V gd_o_bestNext (by decide +kernel)) (gd_A (gd_V gd_o_weigh (by decide +kernel)) rfl)))))
set_option maxHeartbeats 4000000 in
set_option maxRecDepth 100000 in
theorem o_first (l : Launch) (hl : l.stackTraces = false) (D : va_G) (cy : Nat → ClassId) (sa : Nat → Nat) (or_ be : Nat) (late lea ord : Int) (bf : Nat → Int32) (pa pt pd ps : Nat) (cars dips : Int) (df : Nat → Int32) (sz : Nat) (hr_late : (-2147483648) ≤ late ∧ late ≤ 2147483647) (hr_lea : (-2147483648) ≤ lea ∧ lea ≤ 2147483647) (hr_ord : (-2147483648) ≤ ord ∧ ord ≤ 2147483647) (hr_cars : 0 ≤ cars ∧ cars ≤ 20) (hr_dips : 0 ≤ dips ∧ dips ≤ 9) : Met l yX3_findFirst vs_o_first ({ frames := 2, cells := 0, slots := 0, locals := 53 }) (va_Pc [vR or_, vR pa] (pcW D cy sa sz [zO or_ 3 [vI late, vI lea, vI ord, vR be], zI be (cy 0) 512 bf, zO pa 4 [vI cars, vR pt, vI dips, vR pd, vR ps], zI pd (cy 0) 27 df])) (va_Qv (fun u : SV => ((-2147483648) ≤ u.2.1 0 ∧ u.2.1 0 ≤ 2147483647) ∧ ((-2147483648) ≤ u.2.1 1 ∧ u.2.1 1 ≤ 2147483647) ∧ ((-2147483648) ≤ u.2.1 2 ∧ u.2.1 2 ≤ 2147483647)) (fun u t => atW D (va_A [zO or_ 3 [vI late, vI lea, vI ord, vR be], zI be (cy 0) 512 bf, zO pa 4 [vI cars, vR pt, vI dips, vR pd, vR ps], zI pd (cy 0) 27 df] sz) [zO or_ 3 [vI (u.2.1 0), vI (u.2.1 1), vI (u.2.1 2), vR be], zI be (cy 0) 512 (u.2.2 0), zO pa 4 [vI cars, vR pt, vI dips, vR pd, vR ps], zI pd (cy 0) 27 df] t) (va_A [zO or_ 3 [vI late, vI lea, vI ord, vR be], zI be (cy 0) 512 bf, zO pa 4 [vI cars, vR pt, vI dips, vR pd, vR ps], zI pd (cy 0) 27 df] sz)) 0 0 (va_A [zO or_ 3 [vI late, vI lea, vI ord, vR be], zI be (cy 0) 512 bf, zO pa 4 [vI cars, vR pt, vI dips, vR pd, vR ps], zI pd (cy 0) 27 df] sz) := by
  refine Met.ofW (cc := cX3_findFirst) (maxL := 6) (ret := none) (by decide) rfl ?_
  intro p e s m args below meth c s₁ B hml hv
  obtain ⟨rfl, hsz, hP, hG, hD0, hT⟩ := hv
  have hx := B.exec
  have hb := B.bytes
  have hr := B.returns
  have hts := atoms_spec (ws := vs_o_first) B.pre
  have hown : s.vm.findClass RX3 = some m.cls := findClass_of_methodNamed B.named
  have hlocks := B.notSynchronized
  subst hsz
  have hD := hD0.self (sz := s.heap.size)
  generalize hAe : va_A [zO or_ 3 [vI late, vI lea, vI ord, vR be], zI be (cy 0) 512 bf, zO pa 4 [vI cars, vR pt, vI dips, vR pd, vR ps], zI pd (cy 0) 27 df] s.heap.size = A at hD hT ⊢
  have hA : ∀ q : Nat, s.heap.size ≤ q → A q := fun q h => by rw [← hAe]; exact Or.inr h
  have hS : va_S A s.heap s.heap [] := va_S.rf
  have hl0 := lv_entry ([vR or_, vR pa]) (n := 6) (Nat.le_of_ble_eq_true rfl)
  rw [lg_entry_eq]
  generalize (lg_sl ([vR or_, vR pa]) ++ List.replicate (6 - (lg_sl ([vR or_, vR pa])).length) Slot.unset).toArray = ls at hl0 ⊢
  have hlv : lv_has ls 6 [(0, vR or_), (1, vR pa)] := hl0
  have hi4 : ∀ w ∈ wsX40, w ∈ vs_o_first := fun w h => List.mem_cons_of_mem _ (List.mem_append_right _ (List.mem_append_left _ h))
  have lf11 := hts (.fieldLink RX3 11 "KerbSplash$Orders" "best" "[I") (List.mem_of_getElem? (i := 1) rfl)
  have hi3 : ∀ w ∈ wsX30, w ∈ vs_o_first := fun w h => List.mem_cons_of_mem _ (List.mem_append_right _ (List.mem_append_right _ (List.mem_append_left _ h)))
  have ld29 := hts (.constant RX3 29 (iI 1000000)) (List.mem_of_getElem? (i := 2) rfl)
  have lf30 := hts (.fieldLink RX3 30 "KerbSplash$Orders" "late" "I") (List.mem_of_getElem? (i := 3) rfl)
  have lf33 := hts (.fieldLink RX3 33 "KerbSplash$Orders" "least" "I") (List.mem_of_getElem? (i := 4) rfl)
  have lf36 := hts (.fieldLink RX3 36 "KerbSplash$Orders" "order" "I") (List.mem_of_getElem? (i := 5) rfl)
  have gg_2 : GoodIn vs_o_first (wsV RX3 21 RX3 yX3_bestNext vs_o_bestNext) := goodIn_sub (fun w h => List.mem_cons_of_mem _ (List.mem_append_right _ (List.mem_append_right _ (List.mem_append_right _ (List.mem_append_left _ h))))) (gd_V gd_o_bestNext (by decide +kernel))
  have mk39 := hts (.methodLink RX3 39 Lib.Math.max.name) (List.mem_of_getElem? (i := 6) rfl)
  have ms_max := hts (.static Lib.Math.max.name) (List.mem_of_getElem? (i := 7) rfl)
  have mi_ := hts (.initialized "java/lang/Math") (List.mem_of_getElem? (i := 8) rfl)
  have mc_max := hts (.code Lib.Math.max.name Lib.Math.max.code 2 (some .int)) (List.mem_of_getElem? (i := 9) rfl)
  have gg_3 : GoodIn vs_o_first (wsV RX3 25 RX3 yX3_weigh vs_o_weigh) := goodIn_sub (fun w h => List.mem_cons_of_mem _ (List.mem_append_right _ (List.mem_append_right _ (List.mem_append_right _ (List.mem_append_right _ (List.mem_append_left _ h)))))) (gd_V gd_o_weigh (by decide +kernel))
  refine lv_iconst (v := iI 1) hx hb dX3_findFirst_0 (by decide) ?_
  refine lv_aload_n hx hb dX3_findFirst_1 rfl (lv_at hlv 1 rfl) ?_
  refine va_getN (D := D) (ci := 4) (v := vI dips) (C := RX4) (T := TX4) (N := 5) hx hb hts hi4 hown hG.1 hP 2 rfl rfl 2 (by decide) (va_Nw.use rfl (nF_Orders_17 hG.2.1)) (fun _ h9 => h9) rfl dX3_findFirst_2 ?_
  refine lv_ishl hx hb dX3_findFirst_5 ?_
  refine lt_sh2 (n := 9) (M := 512) (by decide) (by decide) (by omega) (fun z_1 ez_1 lz_1 hz_1 => ?_)
  refine lv_iconst (v := iI 1) hx hb dX3_findFirst_6 (by decide) ?_
  refine lv_isub hx hb dX3_findFirst_7 ?_
  refine lt_e (e0 := z_1 - 1) (Int32.ofInt_sub _ _).symm (fun z_2 hz_2 => ?_)
  refine lv_istore_n (lv' := [(2, vI z_2), (0, vR or_), (1, vR pa)]) hx hb dX3_findFirst_8 rfl hlv (by decide) rfl (fun ls hlv => ?_)
  refine lv_aload_n hx hb dX3_findFirst_9 rfl (lv_at hlv 1 rfl) ?_
  refine va_get (D := D) (ci := 3) (v := vR be) (C := RX3) (T := TX3) (N := 4) hx hb hts hi3 hown hG.1 hP 0 rfl rfl 3 (by decide) lf11 (fun _ h9 => h9) rfl dX3_findFirst_10 ?_
  refine lv_iload_n hx hb dX3_findFirst_13 rfl (lv_at hlv 0 rfl) ?_
  refine lv_iconst (v := iI 0) hx hb dX3_findFirst_14 (by decide) ?_
  refine va_iast hx hb hG.1 hP hD hS 1 0 rfl rfl (iI_in (by omega) (by decide)) dX3_findFirst_15 (fun H locs hP hD hS => ?_)
  have ⟨f_3, hP, hD⟩ : ∃ f_3 : Nat → Int32, va_P D vwCl [zO or_ 3 [vI late, vI lea, vI ord, vR be], zI be (cy 0) 512 f_3, zO pa 4 [vI cars, vR pt, vI dips, vR pd, vR ps], zI pd (cy 0) 27 df] H ∧ va_D A [zO or_ 3 [vI late, vI lea, vI ord, vR be], zI be (cy 0) 512 f_3, zO pa 4 [vI cars, vR pt, vI dips, vR pd, vR ps], zI pd (cy 0) 27 df] := ⟨_, hP, hD⟩
  refine lv_iload_n hx hb dX3_findFirst_16 rfl (lv_at hlv 0 rfl) ?_
  refine lv_iconst (v := iI 1) hx hb dX3_findFirst_17 (by decide) ?_
  refine lv_isub hx hb dX3_findFirst_18 ?_
  refine lt_e (e0 := z_2 - 1) (Int32.ofInt_sub _ _).symm (fun z_4 hz_4 => ?_)
  refine lv_istore_n (lv' := [(3, vI z_4), (2, vI z_2), (0, vR or_), (1, vR pa)]) hx hb dX3_findFirst_19 rfl hlv (by decide) rfl (fun ls hlv => ?_)
  refine (?_ : ∀ (fu : Nat) (q3 : Int) (bg : Nat → Int32) (H : Heap) (locs : List Loc) (ls : Array Slot), q3 + 1 < (fu : Int) → ((-1) ≤ q3 ∧ q3 ≤ 511) → va_P D vwCl [zO or_ 3 [vI late, vI lea, vI ord, vR be], zI be (cy 0) 512 bg, zO pa 4 [vI cars, vR pt, vI dips, vR pd, vR ps], zI pd (cy 0) 27 df] H → va_D A [zO or_ 3 [vI late, vI lea, vI ord, vR be], zI be (cy 0) 512 bg, zO pa 4 [vI cars, vR pt, vI dips, vR pd, vR ps], zI pd (cy 0) 27 df] → va_S A s.heap H locs → lv_has ls 6 [(3, vI q3), (2, vI z_2), (0, vR or_), (1, vR pa)] → W p l e _ s m _ below meth c H locs _ _ _ (F0 m 20 ls [])) (((z_4 + 1) + 1 : Int)).toNat z_4 f_3 _ _ _ (by omega) (by omega)  hP hD hS hlv
  clear hP hD hS hlv
  intro fu
  induction fu with
  | zero => intro q3 bg H locs ls hm20 hl20_0  hP hD hS hlv; omega
  | succ fu ih20 =>
    intro q3 bg H locs ls hm20 hl20_0  hP hD hS hlv
    refine lv_iload_n hx hb dX3_findFirst_20 rfl (lv_at hlv 0 rfl) ?_
    refine iz_lt (tgt := 62) hx hb dX3_findFirst_21 (by decide) (by first | exact rgw hl20_0 (by decide) (by decide) | omega) (fun c_5 => ?_) (fun c_5 => ?_)
    · refine lv_aload_n hx hb dX3_findFirst_62 rfl (lv_at hlv 2 rfl) ?_
      refine lv_aload_n hx hb dX3_findFirst_63 rfl (lv_at hlv 2 rfl) ?_
      refine va_get (D := D) (ci := 3) (v := vR be) (C := RX3) (T := TX3) (N := 4) hx hb hts hi3 hown hG.1 hP 0 rfl rfl 3 (by decide) lf11 (fun _ h9 => h9) rfl dX3_findFirst_64 ?_
      refine lv_iconst (v := iI 0) hx hb dX3_findFirst_67 (by decide) ?_
      refine va_iald hx hb hG.1 hP 1 0 rfl rfl (iI_in (by omega) (by decide)) dX3_findFirst_68 ?_
      refine lt_z (fun z_6 ez_6 lz_6 hz_6 => ?_)
      refine lv_ldc (v := iI 1000000) hx hb hown ld29 dX3_findFirst_69 ?_
      refine lv_idiv hx hb dX3_findFirst_71 (fun q => absurd ((iI_eq (a := 1000000) (b := 0) (by omega) (by omega)).mp q) (by omega)) ?_
      refine lt_z (fun z_7 ez_7 lz_7 hz_7 => ?_)
      refine va_put (D := D) (ci := 3) (v := vI z_7) (ty := .int) (C := RX3) (T := TX3) (N := 4) hx hb hts hi3 tyX3 tyX3_ok nmX3 hown hG.1 hP hD hS 0 rfl rfl 0 (by decide) lf30 (fun _ h9 => h9) rfl (by decide +kernel) rfl rfl (Nat.le_of_ble_eq_true rfl) dX3_findFirst_72 (fun H locs hP hD hS => ?_)
      have hP : va_P D vwCl [zO or_ 3 [vI z_7, vI lea, vI ord, vR be], zI be (cy 0) 512 bg, zO pa 4 [vI cars, vR pt, vI dips, vR pd, vR ps], zI pd (cy 0) 27 df] H := hP
      have hD : va_D A [zO or_ 3 [vI z_7, vI lea, vI ord, vR be], zI be (cy 0) 512 bg, zO pa 4 [vI cars, vR pt, vI dips, vR pd, vR ps], zI pd (cy 0) 27 df] := hD
      refine lv_aload_n hx hb dX3_findFirst_75 rfl (lv_at hlv 2 rfl) ?_
      refine lv_aload_n hx hb dX3_findFirst_76 rfl (lv_at hlv 2 rfl) ?_
      refine va_get (D := D) (ci := 3) (v := vR be) (C := RX3) (T := TX3) (N := 4) hx hb hts hi3 hown hG.1 hP 0 rfl rfl 3 (by decide) lf11 (fun _ h9 => h9) rfl dX3_findFirst_77 ?_
      refine lv_iconst (v := iI 0) hx hb dX3_findFirst_80 (by decide) ?_
      refine va_iald hx hb hG.1 hP 1 0 rfl rfl (iI_in (by omega) (by decide)) dX3_findFirst_81 ?_
      refine lt_i (y := iI z_6) ez_6 ?_
      refine lv_ldc (v := iI 1000000) hx hb hown ld29 dX3_findFirst_82 ?_
      refine lv_irem hx hb dX3_findFirst_84 (fun q => absurd ((iI_eq (a := 1000000) (b := 0) (by omega) (by omega)).mp q) (by omega)) ?_
      refine lt_z (fun z_8 ez_8 lz_8 hz_8 => ?_)
      refine va_put (D := D) (ci := 3) (v := vI z_8) (ty := .int) (C := RX3) (T := TX3) (N := 4) hx hb hts hi3 tyX3 tyX3_ok nmX3 hown hG.1 hP hD hS 0 rfl rfl 1 (by decide) lf33 (fun _ h9 => h9) rfl (by decide +kernel) rfl rfl (Nat.le_of_ble_eq_true rfl) dX3_findFirst_85 (fun H locs hP hD hS => ?_)
      have hP : va_P D vwCl [zO or_ 3 [vI z_7, vI z_8, vI ord, vR be], zI be (cy 0) 512 bg, zO pa 4 [vI cars, vR pt, vI dips, vR pd, vR ps], zI pd (cy 0) 27 df] H := hP
      have hD : va_D A [zO or_ 3 [vI z_7, vI z_8, vI ord, vR be], zI be (cy 0) 512 bg, zO pa 4 [vI cars, vR pt, vI dips, vR pd, vR ps], zI pd (cy 0) 27 df] := hD
      refine lv_aload_n hx hb dX3_findFirst_88 rfl (lv_at hlv 2 rfl) ?_
      refine lv_iconst (v := iI 0) hx hb dX3_findFirst_89 (by decide) ?_
      refine va_put (D := D) (ci := 3) (v := vI 0) (ty := .int) (C := RX3) (T := TX3) (N := 4) hx hb hts hi3 tyX3 tyX3_ok nmX3 hown hG.1 hP hD hS 0 rfl rfl 2 (by decide) lf36 (fun _ h9 => h9) rfl (by decide +kernel) rfl rfl (Nat.le_of_ble_eq_true rfl) dX3_findFirst_90 (fun H locs hP hD hS => ?_)
      have hP : va_P D vwCl [zO or_ 3 [vI z_7, vI z_8, vI 0, vR be], zI be (cy 0) 512 bg, zO pa 4 [vI cars, vR pt, vI dips, vR pd, vR ps], zI pd (cy 0) 27 df] H := hP
      have hD : va_D A [zO or_ 3 [vI z_7, vI z_8, vI 0, vR be], zI be (cy 0) 512 bg, zO pa 4 [vI cars, vR pt, vI dips, vR pd, vR ps], zI pd (cy 0) 27 df] := hD
      refine lv_iconst (v := iI 0) hx hb dX3_findFirst_93 (by decide) ?_
      refine lv_istore_n (lv' := [(3, vI 0), (2, vI z_2), (0, vR or_), (1, vR pa)]) hx hb dX3_findFirst_94 rfl hlv (by decide) rfl (fun ls hlv => ?_)
      refine lv_iconst (v := iI 0) hx hb dX3_findFirst_95 (by decide) ?_
      refine lv_istore (lv' := [(4, vI 0), (3, vI 0), (2, vI z_2), (0, vR or_), (1, vR pa)]) hx hb dX3_findFirst_96 hlv (by decide) rfl (fun ls hlv => ?_)
      refine (?_ : ∀ (fu : Nat) (r3 : Int) (r4 : Int) (ro4 : Int) (H : Heap) (locs : List Loc) (ls : Array Slot), 9 - r4 < (fu : Int) → (0 ≤ r3 ∧ r3 ≤ 511) → (0 ≤ r4 ∧ r4 ≤ 9) → ((-2147483648) ≤ ro4 ∧ ro4 ≤ 2147483647) → va_P D vwCl [zO or_ 3 [vI z_7, vI z_8, vI ro4, vR be], zI be (cy 0) 512 bg, zO pa 4 [vI cars, vR pt, vI dips, vR pd, vR ps], zI pd (cy 0) 27 df] H → va_D A [zO or_ 3 [vI z_7, vI z_8, vI ro4, vR be], zI be (cy 0) 512 bg, zO pa 4 [vI cars, vR pt, vI dips, vR pd, vR ps], zI pd (cy 0) 27 df] → va_S A s.heap H locs → lv_has ls 6 [(4, vI r4), (3, vI r3), (2, vI z_2), (0, vR or_), (1, vR pa)] → W p l e _ s m _ below meth c H locs _ _ _ (F0 m 98 ls [])) (((9 - 0) + 1 : Int)).toNat 0 0 0 _ _ _ (by omega) (by show (0 : Int) ≤ 0 ∧ (0 : Int) ≤ 511; decide) (by show (0 : Int) ≤ 0 ∧ (0 : Int) ≤ 9; decide) (by show ((-2147483648) : Int) ≤ 0 ∧ (0 : Int) ≤ 2147483647; decide)  hP hD hS hlv
      clear hP hD hS hlv
      intro fu
      induction fu with
      | zero => intro r3 r4 ro4 H locs ls hm98 hl98_0 hl98_1 hl98_2  hP hD hS hlv; omega
      | succ fu ih98 =>
        intro r3 r4 ro4 H locs ls hm98 hl98_0 hl98_1 hl98_2  hP hD hS hlv
        refine lv_iload hx hb dX3_findFirst_98 (lv_at hlv 0 rfl) ?_
        refine lv_aload_n hx hb dX3_findFirst_100 rfl (lv_at hlv 4 rfl) ?_
        refine va_getN (D := D) (ci := 4) (v := vI dips) (C := RX4) (T := TX4) (N := 5) hx hb hts hi4 hown hG.1 hP 2 rfl rfl 2 (by decide) (va_Nw.use rfl (nF_Orders_17 hG.2.1)) (fun _ h9 => h9) rfl dX3_findFirst_101 ?_
        refine ir_ge (tgt := 146) hx hb dX3_findFirst_104 (by decide) (by first | exact rgw hl98_1 (by decide) (by decide) | omega) (by first | exact rgw hr_dips (by decide) (by decide) | omega) (fun c_9 => ?_) (fun c_9 => ?_)
        · refine W.widen (k := 0) (n := 0) (Nat.le_of_ble_eq_true rfl) (Nat.le_of_ble_eq_true rfl) ?_
          exact W.vret hx hb hr (fun t ht hW => ⟨⟨((fun k => ([] : List Nat).getD k 0), (fun k => ([z_7, z_8, ro4] : List Int).getD k 0), (fun k => ([bg] : List (Nat → Int32)).getD k (fun _ => 0))), rfl, ⟨(by show ((-2147483648) ≤ z_7 ∧ z_7 ≤ 2147483647); omega), (by show ((-2147483648) ≤ z_8 ∧ z_8 ≤ 2147483647); omega), (by show ((-2147483648) ≤ ro4 ∧ ro4 ≤ 2147483647); first | exact hl98_2 | omega)⟩, by rw [ht]; exact hP.sub [0, 1, 2, 3] rfl, hD.sub [0, 1, 2, 3] (by decide) rfl⟩, hS.F ht⟩) hS.2.2 dX3_findFirst_146
        · refine lv_aload_n hx hb dX3_findFirst_107 rfl (lv_at hlv 3 rfl) ?_
          refine lv_aload_n hx hb dX3_findFirst_108 rfl (lv_at hlv 4 rfl) ?_
          refine lv_iload_n hx hb dX3_findFirst_109 rfl (lv_at hlv 1 rfl) ?_
          refine cj_i (wr := []) (va_runV (As := [vR pa, vI r3]) (rest := []) ⟨hx, hb, hml, hown, hts⟩ (o_bestNext l hl D cy sa or_ be z_7 z_8 ro4 bg pa pt pd ps cars dips df r3 H.size (by omega) (by omega) (by first | exact hl98_2 | omega) (by first | exact hr_cars | omega) (by first | exact hr_dips | omega) (by first | exact hl98_0 | omega)) (cwV 2 hts gg_2 rfl rfl rfl (by decide +kernel) ⟨Nat.le_of_ble_eq_true rfl, Nat.le_of_ble_eq_true rfl⟩) ⟨pcW.blind, (va_recv hG.1 hP (ci := 3) (q0 := 0) rfl rfl), (pcW.mk hP hD hS hA hG hT [0, 1, 2, 3] rfl (by decide))⟩ rfl rfl hlv.1 rfl (lv_room (Nat.le_of_ble_eq_true rfl)) dX3_findFirst_110 ⟨Nat.le_of_ble_eq_true rfl, Nat.le_of_ble_eq_true rfl⟩) hP hD hS hA [0, 1, 2, 3] [] rfl rfl (by decide) (by decide) (fun r1 u1 H locs hw1 hP hD hS => ?_)
          obtain ⟨rfl, hq1_1⟩ := hw1
          have hP : va_P D vwCl [zO or_ 3 [vI z_7, vI z_8, vI ro4, vR be], zI be (cy 0) 512 bg, zO pa 4 [vI cars, vR pt, vI dips, vR pd, vR ps], zI pd (cy 0) 27 df] H := hP
          have hD : va_D A [zO or_ 3 [vI z_7, vI z_8, vI ro4, vR be], zI be (cy 0) 512 bg, zO pa 4 [vI cars, vR pt, vI dips, vR pd, vR ps], zI pd (cy 0) 27 df] := hD
          refine lv_iconst (v := iI 0) hx hb dX3_findFirst_113 (by decide) ?_
          refine va_mmax hx hb (hml.trans hlv.1.symm) hown mk39 ms_max mi_ mc_max (Nat.le_of_ble_eq_true rfl) (Nat.le_of_ble_eq_true rfl) (Nat.le_of_ble_eq_true rfl) (Nat.le_of_ble_eq_true rfl) dX3_findFirst_114 ?_
          refine lt_mx (by omega) (by omega) (fun z_10 hz_10 => ?_)
          refine lv_istore (lv' := [(5, vI z_10), (4, vI r4), (3, vI r3), (2, vI z_2), (0, vR or_), (1, vR pa)]) hx hb dX3_findFirst_117 hlv (by decide) rfl (fun ls hlv => ?_)
          refine lv_aload_n hx hb dX3_findFirst_119 rfl (lv_at hlv 4 rfl) ?_
          refine lv_aload_n hx hb dX3_findFirst_120 rfl (lv_at hlv 4 rfl) ?_
          refine va_get (D := D) (ci := 3) (v := vI ro4) (C := RX3) (T := TX3) (N := 4) hx hb hts hi3 hown hG.1 hP 0 rfl rfl 2 (by decide) lf36 (fun _ h9 => h9) rfl dX3_findFirst_121 ?_
          refine lv_bipush (v := iI 10) hx hb dX3_findFirst_124 (by decide) ?_
          refine lv_imul hx hb dX3_findFirst_126 ?_
          refine lt_z (fun z_11 ez_11 lz_11 hz_11 => ?_)
          refine lv_iload hx hb dX3_findFirst_127 (lv_at hlv 0 rfl) ?_
          refine lv_iadd hx hb dX3_findFirst_129 ?_
          refine lt_z (fun z_12 ez_12 lz_12 hz_12 => ?_)
          refine va_put (D := D) (ci := 3) (v := vI z_12) (ty := .int) (C := RX3) (T := TX3) (N := 4) hx hb hts hi3 tyX3 tyX3_ok nmX3 hown hG.1 hP hD hS 0 rfl rfl 2 (by decide) lf36 (fun _ h9 => h9) rfl (by decide +kernel) rfl rfl (Nat.le_of_ble_eq_true rfl) dX3_findFirst_130 (fun H locs hP hD hS => ?_)
          have hP : va_P D vwCl [zO or_ 3 [vI z_7, vI z_8, vI z_12, vR be], zI be (cy 0) 512 bg, zO pa 4 [vI cars, vR pt, vI dips, vR pd, vR ps], zI pd (cy 0) 27 df] H := hP
          have hD : va_D A [zO or_ 3 [vI z_7, vI z_8, vI z_12, vR be], zI be (cy 0) 512 bg, zO pa 4 [vI cars, vR pt, vI dips, vR pd, vR ps], zI pd (cy 0) 27 df] := hD
          refine lv_iload_n hx hb dX3_findFirst_133 rfl (lv_at hlv 2 rfl) ?_
          refine lv_iconst (v := iI 1) hx hb dX3_findFirst_134 (by decide) ?_
          refine lv_iload hx hb dX3_findFirst_135 (lv_at hlv 0 rfl) ?_
          refine lv_ishl hx hb dX3_findFirst_137 ?_
          refine lt_sh2 (n := 8) (M := 256) (by decide) (by decide) (by omega) (fun z_13 ez_13 lz_13 hz_13 => ?_)
          refine lv_ior hx hb dX3_findFirst_138 ?_
          refine lt_o2 9 (M := 511) (by decide) (by omega) (by omega) (fun z_14 lz_14 hz_14 => ?_)
          refine lv_istore_n (lv' := [(3, vI z_14), (5, vI z_10), (4, vI r4), (2, vI z_2), (0, vR or_), (1, vR pa)]) hx hb dX3_findFirst_139 rfl hlv (by decide) rfl (fun ls hlv => ?_)
          obtain ⟨z_15, hz_15⟩ : ∃ z : Int, z = r4 + 1 := ⟨_, rfl⟩
          refine lv_iinc (v := iI z_15) (lv' := [(4, vI z_15), (3, vI z_14), (5, vI z_10), (2, vI z_2), (0, vR or_), (1, vR pa)]) hx hb dX3_findFirst_140 hlv (k := 2) rfl (by rw [hz_15]; exact (Int32.ofInt_add _ _).symm) (by decide) rfl (fun ls hlv => ?_)
          refine lv_goto (tgt := 98) hx hb dX3_findFirst_143 (by decide) ?_
          exact ih98 z_14 z_15 z_12 H locs ls (by omega) (by omega) (by omega) (by omega)  (hP.sub [0, 1, 2, 3] rfl) (hD.sub [0, 1, 2, 3] (by decide) rfl) hS (lv_sub hlv [0, 1, 3, 4, 5] rfl)
    · refine lv_aload_n hx hb dX3_findFirst_24 rfl (lv_at hlv 2 rfl) ?_
      refine lv_aload_n hx hb dX3_findFirst_25 rfl (lv_at hlv 3 rfl) ?_
      refine lv_iload_n hx hb dX3_findFirst_26 rfl (lv_at hlv 0 rfl) ?_
      refine cj_i (wr := []) (va_runV (As := [vR pa, vI q3]) (rest := []) ⟨hx, hb, hml, hown, hts⟩ (o_bestNext l hl D cy sa or_ be late lea ord bg pa pt pd ps cars dips df q3 H.size (by first | exact hr_late | omega) (by first | exact hr_lea | omega) (by first | exact hr_ord | omega) (by first | exact hr_cars | omega) (by first | exact hr_dips | omega) (by omega)) (cwV 2 hts gg_2 rfl rfl rfl (by decide +kernel) ⟨Nat.le_of_ble_eq_true rfl, Nat.le_of_ble_eq_true rfl⟩) ⟨pcW.blind, (va_recv hG.1 hP (ci := 3) (q0 := 0) rfl rfl), (pcW.mk hP hD hS hA hG hT [0, 1, 2, 3] rfl (by decide))⟩ rfl rfl hlv.1 rfl (lv_room (Nat.le_of_ble_eq_true rfl)) dX3_findFirst_27 ⟨Nat.le_of_ble_eq_true rfl, Nat.le_of_ble_eq_true rfl⟩) hP hD hS hA [0, 1, 2, 3] [] rfl rfl (by decide) (by decide) (fun r2 u2 H locs hw2 hP hD hS => ?_)
      obtain ⟨rfl, hq2_1⟩ := hw2
      have hP : va_P D vwCl [zO or_ 3 [vI late, vI lea, vI ord, vR be], zI be (cy 0) 512 bg, zO pa 4 [vI cars, vR pt, vI dips, vR pd, vR ps], zI pd (cy 0) 27 df] H := hP
      have hD : va_D A [zO or_ 3 [vI late, vI lea, vI ord, vR be], zI be (cy 0) 512 bg, zO pa 4 [vI cars, vR pt, vI dips, vR pd, vR ps], zI pd (cy 0) 27 df] := hD
      refine lv_istore (lv' := [(4, vI (u2.2.1 0)), (3, vI q3), (2, vI z_2), (0, vR or_), (1, vR pa)]) hx hb dX3_findFirst_30 hlv (by decide) rfl (fun ls hlv => ?_)
      refine lv_aload_n hx hb dX3_findFirst_32 rfl (lv_at hlv 3 rfl) ?_
      refine va_get (D := D) (ci := 3) (v := vR be) (C := RX3) (T := TX3) (N := 4) hx hb hts hi3 hown hG.1 hP 0 rfl rfl 3 (by decide) lf11 (fun _ h9 => h9) rfl dX3_findFirst_33 ?_
      refine lv_iload_n hx hb dX3_findFirst_36 rfl (lv_at hlv 1 rfl) ?_
      refine lv_iload hx hb dX3_findFirst_37 (lv_at hlv 0 rfl) ?_
      refine lv_iconst (v := iI (-1)) hx hb dX3_findFirst_39 (by decide) ?_
      refine ir_ne (tgt := 47) hx hb dX3_findFirst_40 (by decide) (by first | exact rgw hq2_1 (by decide) (by decide) | omega) (by show ((-2147483648) : Int) ≤ (-1) ∧ ((-1) : Int) ≤ 2147483647; decide) (fun c_16 => ?_) (fun c_16 => ?_)
      · refine lv_aload_n hx hb dX3_findFirst_47 rfl (lv_at hlv 3 rfl) ?_
        refine lv_aload_n hx hb dX3_findFirst_48 rfl (lv_at hlv 4 rfl) ?_
        refine lv_iload_n hx hb dX3_findFirst_49 rfl (lv_at hlv 1 rfl) ?_
        refine lv_iload hx hb dX3_findFirst_50 (lv_at hlv 0 rfl) ?_
        refine cj_i (wr := []) (va_runV (As := [vR pa, vI q3, vI (u2.2.1 0)]) (rest := [vI q3, vR be]) ⟨hx, hb, hml, hown, hts⟩ (o_weigh l hl D cy sa or_ be late lea ord bg pa pt pd ps cars dips df q3 (u2.2.1 0) H.size (by first | exact hr_late | omega) (by first | exact hr_lea | omega) (by first | exact hr_ord | omega) (by first | exact hr_cars | omega) (by first | exact hr_dips | omega) (by omega) (by omega)) (cwV 3 hts gg_3 rfl rfl rfl (by decide +kernel) ⟨Nat.le_of_ble_eq_true rfl, Nat.le_of_ble_eq_true rfl⟩) ⟨pcW.blind, (va_recv hG.1 hP (ci := 3) (q0 := 0) rfl rfl), (pcW.mk hP hD hS hA hG hT [0, 1, 2, 3] rfl (by decide))⟩ rfl rfl hlv.1 rfl (lv_room (Nat.le_of_ble_eq_true rfl)) dX3_findFirst_52 ⟨Nat.le_of_ble_eq_true rfl, Nat.le_of_ble_eq_true rfl⟩) hP hD hS hA [0, 1, 2, 3] [] rfl rfl (by decide) (by decide) (fun r3 u3 H locs hw3 hP hD hS => ?_)
        obtain ⟨rfl, hq3_1⟩ := hw3
        have hP : va_P D vwCl [zO or_ 3 [vI late, vI lea, vI ord, vR be], zI be (cy 0) 512 bg, zO pa 4 [vI cars, vR pt, vI dips, vR pd, vR ps], zI pd (cy 0) 27 df] H := hP
        have hD : va_D A [zO or_ 3 [vI late, vI lea, vI ord, vR be], zI be (cy 0) 512 bg, zO pa 4 [vI cars, vR pt, vI dips, vR pd, vR ps], zI pd (cy 0) 27 df] := hD
        refine va_iast hx hb hG.1 hP hD hS 1 0 rfl rfl (iI_in (by omega) (by decide)) dX3_findFirst_55 (fun H locs hP hD hS => ?_)
        have ⟨f_17, hP, hD⟩ : ∃ f_17 : Nat → Int32, va_P D vwCl [zO or_ 3 [vI late, vI lea, vI ord, vR be], zI be (cy 0) 512 f_17, zO pa 4 [vI cars, vR pt, vI dips, vR pd, vR ps], zI pd (cy 0) 27 df] H ∧ va_D A [zO or_ 3 [vI late, vI lea, vI ord, vR be], zI be (cy 0) 512 f_17, zO pa 4 [vI cars, vR pt, vI dips, vR pd, vR ps], zI pd (cy 0) 27 df] := ⟨_, hP, hD⟩
        obtain ⟨z_18, hz_18⟩ : ∃ z : Int, z = q3 + (-1) := ⟨_, rfl⟩
        refine lv_iinc (v := iI z_18) (lv' := [(3, vI z_18), (4, vI (u2.2.1 0)), (2, vI z_2), (0, vR or_), (1, vR pa)]) hx hb dX3_findFirst_56 hlv (k := 1) rfl (by rw [hz_18]; exact (Int32.ofInt_add _ _).symm) (by decide) rfl (fun ls hlv => ?_)
        refine lv_goto (tgt := 20) hx hb dX3_findFirst_59 (by decide) ?_
        exact ih20 z_18 f_17 H locs ls (by omega) (by omega)  (hP.sub [0, 1, 2, 3] rfl) (hD.sub [0, 1, 2, 3] (by decide) rfl) hS (lv_sub hlv [0, 2, 3, 4] rfl)
      · refine lv_iconst (v := iI 0) hx hb dX3_findFirst_43 (by decide) ?_
        refine lv_goto (tgt := 55) hx hb dX3_findFirst_44 (by decide) ?_
        refine va_iast hx hb hG.1 hP hD hS 1 0 rfl rfl (iI_in (by omega) (by decide)) dX3_findFirst_55 (fun H locs hP hD hS => ?_)
        have ⟨f_19, hP, hD⟩ : ∃ f_19 : Nat → Int32, va_P D vwCl [zO or_ 3 [vI late, vI lea, vI ord, vR be], zI be (cy 0) 512 f_19, zO pa 4 [vI cars, vR pt, vI dips, vR pd, vR ps], zI pd (cy 0) 27 df] H ∧ va_D A [zO or_ 3 [vI late, vI lea, vI ord, vR be], zI be (cy 0) 512 f_19, zO pa 4 [vI cars, vR pt, vI dips, vR pd, vR ps], zI pd (cy 0) 27 df] := ⟨_, hP, hD⟩
        obtain ⟨z_20, hz_20⟩ : ∃ z : Int, z = q3 + (-1) := ⟨_, rfl⟩
        refine lv_iinc (v := iI z_20) (lv' := [(3, vI z_20), (4, vI (u2.2.1 0)), (2, vI z_2), (0, vR or_), (1, vR pa)]) hx hb dX3_findFirst_56 hlv (k := 1) rfl (by rw [hz_20]; exact (Int32.ofInt_add _ _).symm) (by decide) rfl (fun ls hlv => ?_)
        refine lv_goto (tgt := 20) hx hb dX3_findFirst_59 (by decide) ?_
        exact ih20 z_20 f_19 H locs ls (by omega) (by omega)  (hP.sub [0, 1, 2, 3] rfl) (hD.sub [0, 1, 2, 3] (by decide) rfl) hS (lv_sub hlv [0, 2, 3, 4] rfl)
def vs_o_of0 : List Cond := .code yX3_of cX3_of 3 (some .int) :: (([] : List Cond) ++ ((wsX60) ++ ([])))
theorem gd_o_of0 : vs_o_of0.all goodWord = true := gd_C (by decide +kernel) (gd_A (by decide +kernel) (gd_A (by decide +kernel) rfl))
set_option maxHeartbeats 4000000 in
set_option maxRecDepth 100000 in
theorem o_of0 (l : Launch) (hl : l.stackTraces = false) (D : va_G) (cy : Nat → ClassId) (sa : Nat → Nat) (sA s2 s3 s6 s8 s11 s13 : Nat) (wi ro dr dt pe gu sh wo dn mi fl tk go : Int) (df : Nat → Int32) (n : Int) (sz : Nat) (hr_wi : 0 ≤ wi ∧ wi ≤ 16) (hr_ro : 0 ≤ ro ∧ ro ≤ 6) (hr_dr : 0 ≤ dr ∧ dr ≤ 14) (hr_dt : 0 ≤ dt ∧ dt ≤ 6) (hr_pe : 0 ≤ pe ∧ pe ≤ 8) (hr_gu : 0 ≤ gu ∧ gu ≤ 20) (hr_sh : 0 ≤ sh ∧ sh ≤ 2) (hr_wo : 0 ≤ wo ∧ wo ≤ 8) (hr_dn : (-2147483648) ≤ dn ∧ dn ≤ 2147483647) (hr_mi : 0 ≤ mi ∧ mi ≤ 600) (hr_fl : (-2147483648) ≤ fl ∧ fl ≤ 2147483647) (hr_tk : (-2147483648) ≤ tk ∧ tk ≤ 2147483647) (hr_go : (-2147483648) ≤ go ∧ go ≤ 2147483647) (hr_n : (-1) ≤ n ∧ n ≤ 13) (hdf : tab_ 4 14 [0, 0, 0, 0] [15, 5, 99, 16] df) : Met l yX3_of vs_o_of0 ({ frames := 0, cells := 0, slots := 0, locals := 0 }) (va_Pc [vR sA, vI n, vI 0] (pcW D cy sa sz [zO sA 6 [vI wi, vI ro, vR s2, vR s3, vI dr, vI dt, vR s6, vI pe, vR s8, vI gu, vI sh, vR s11, vI wo, vR s13, vI dn, vI mi, vI fl, vI tk, vI go], zI s6 (cy 0) 56 df])) (va_Qi (fun (r : Int32) (u : SV) => r = iI (u.2.1 0) ∧ (0 ≤ u.2.1 0 ∧ u.2.1 0 ≤ 15) ∧ tab_ 4 14 [0, 0, 0, 0] [15, 5, 99, 16] df) (fun u t => atW D (va_A [zO sA 6 [vI wi, vI ro, vR s2, vR s3, vI dr, vI dt, vR s6, vI pe, vR s8, vI gu, vI sh, vR s11, vI wo, vR s13, vI dn, vI mi, vI fl, vI tk, vI go], zI s6 (cy 0) 56 df] sz) [zO sA 6 [vI wi, vI ro, vR s2, vR s3, vI dr, vI dt, vR s6, vI pe, vR s8, vI gu, vI sh, vR s11, vI wo, vR s13, vI dn, vI mi, vI fl, vI tk, vI go], zI s6 (cy 0) 56 df] t) (va_A [zO sA 6 [vI wi, vI ro, vR s2, vR s3, vI dr, vI dt, vR s6, vI pe, vR s8, vI gu, vI sh, vR s11, vI wo, vR s13, vI dn, vI mi, vI fl, vI tk, vI go], zI s6 (cy 0) 56 df] sz)) 0 0 (va_A [zO sA 6 [vI wi, vI ro, vR s2, vR s3, vI dr, vI dt, vR s6, vI pe, vR s8, vI gu, vI sh, vR s11, vI wo, vR s13, vI dn, vI mi, vI fl, vI tk, vI go], zI s6 (cy 0) 56 df] sz) := by
  refine Met.ofW (cc := cX3_of) (maxL := 3) (ret := (some .int)) (by decide) rfl ?_
  intro p e s m args below meth c s₁ B hml hv
  obtain ⟨rfl, hsz, hP, hG, hD0, hT⟩ := hv
  have hx := B.exec
  have hb := B.bytes
  have hr := B.returns
  have hts := atoms_spec (ws := vs_o_of0) B.pre
  have hown : s.vm.findClass RX3 = some m.cls := findClass_of_methodNamed B.named
  have hlocks := B.notSynchronized
  subst hsz
  have hD := hD0.self (sz := s.heap.size)
  generalize hAe : va_A [zO sA 6 [vI wi, vI ro, vR s2, vR s3, vI dr, vI dt, vR s6, vI pe, vR s8, vI gu, vI sh, vR s11, vI wo, vR s13, vI dn, vI mi, vI fl, vI tk, vI go], zI s6 (cy 0) 56 df] s.heap.size = A at hD hT ⊢
  have hA : ∀ q : Nat, s.heap.size ≤ q → A q := fun q h => by rw [← hAe]; exact Or.inr h
  have hS : va_S A s.heap s.heap [] := va_S.rf
  have hl0 := lv_entry ([vR sA, vI n, vI 0]) (n := 3) (Nat.le_of_ble_eq_true rfl)
  rw [lg_entry_eq]
  generalize (lg_sl ([vR sA, vI n, vI 0]) ++ List.replicate (3 - (lg_sl ([vR sA, vI n, vI 0])).length) Slot.unset).toArray = ls at hl0 ⊢
  have hlv : lv_has ls 3 [(0, vR sA), (1, vI n), (2, vI 0)] := hl0
  have hi6 : ∀ w ∈ wsX60, w ∈ vs_o_of0 := fun w h => List.mem_cons_of_mem _ (List.mem_append_right _ (List.mem_append_left _ h))
  refine lv_iload_n hx hb dX3_of_0 rfl (lv_at hlv 1 rfl) ?_
  refine lv_iconst (v := iI (-1)) hx hb dX3_of_1 (by decide) ?_
  refine ir_ne (tgt := 9) hx hb dX3_of_2 (by decide) (by first | exact rgw hr_n (by decide) (by decide) | omega) (by show ((-2147483648) : Int) ≤ (-1) ∧ ((-1) : Int) ≤ 2147483647; decide) (fun c_1 => ?_) (fun c_1 => ?_)
  · refine lv_aload_n hx hb dX3_of_9 rfl (lv_at hlv 0 rfl) ?_
    refine va_getN (D := D) (ci := 6) (v := vR s6) (C := RX6) (T := TX6) (N := 19) hx hb hts hi6 hown hG.1 hP 0 rfl rfl 6 (by decide) (va_Nw.use rfl (nF_Orders_56 hG.2.1)) (fun _ h9 => h9) rfl dX3_of_10 ?_
    refine lv_iconst (v := iI 4) hx hb dX3_of_13 (by decide) ?_
    refine lv_iload_n hx hb dX3_of_14 rfl (lv_at hlv 1 rfl) ?_
    refine lv_imul hx hb dX3_of_15 ?_
    refine lt_e (e0 := 4 * n) (Int32.ofInt_mul _ _).symm (fun z_2 hz_2 => ?_)
    refine lv_iload_n hx hb dX3_of_16 rfl (lv_at hlv 2 rfl) ?_
    refine lv_iadd hx hb dX3_of_17 ?_
    refine lt_e (e0 := z_2 + 0) (Int32.ofInt_add _ _).symm (fun z_3 hz_3 => ?_)
    refine va_iald hx hb hG.1 hP 1 0 rfl rfl (iI_in (by omega) (by decide)) dX3_of_18 ?_
    obtain ⟨z_4, ez_4, hz_4, lz_4⟩ := tab_rd hdf (e := z_3) (k := n) (c := 0) (a := 0) (b := 15) (by omega) (by omega) (by decide) (by omega) rfl rfl
    refine lt_i (y := iI z_4) ez_4 ?_
    refine W.widen (k := 0) (n := 0) (Nat.le_of_ble_eq_true rfl) (Nat.le_of_ble_eq_true rfl) ?_
    exact W.iret (v := iI z_4) hx hb hr (fun t ht hW => ⟨⟨iI z_4, ((fun k => ([] : List Nat).getD k 0), (fun k => ([z_4] : List Int).getD k 0), (fun k => ([] : List (Nat → Int32)).getD k (fun _ => 0))), rfl, ⟨rfl, (by show (0 ≤ z_4 ∧ z_4 ≤ 15); first | exact lz_4 | omega), hdf⟩, by rw [ht]; exact hP.sub [0, 1] rfl, hD.sub [0, 1] (by decide) rfl⟩, hS.F ht⟩) hS.2.2 dX3_of_19
  · refine lv_iconst (v := iI 0) hx hb dX3_of_5 (by decide) ?_
    refine lv_goto (tgt := 19) hx hb dX3_of_6 (by decide) ?_
    refine W.widen (k := 0) (n := 0) (Nat.le_of_ble_eq_true rfl) (Nat.le_of_ble_eq_true rfl) ?_
    exact W.iret (v := iI 0) hx hb hr (fun t ht hW => ⟨⟨iI 0, ((fun k => ([] : List Nat).getD k 0), (fun k => ([0] : List Int).getD k 0), (fun k => ([] : List (Nat → Int32)).getD k (fun _ => 0))), rfl, ⟨rfl, (by show (0 ≤ 0 ∧ 0 ≤ 15); show (0 : Int) ≤ 0 ∧ (0 : Int) ≤ 15; decide), hdf⟩, by rw [ht]; exact hP.sub [0, 1] rfl, hD.sub [0, 1] (by decide) rfl⟩, hS.F ht⟩) hS.2.2 dX3_of_19
def vs_o_of1 : List Cond := .code yX3_of cX3_of 3 (some .int) :: (([] : List Cond) ++ ((wsX60) ++ ([])))
theorem gd_o_of1 : vs_o_of1.all goodWord = true := gd_C (by decide +kernel) (gd_A (by decide +kernel) (gd_A (by decide +kernel) rfl))
set_option maxHeartbeats 4000000 in
set_option maxRecDepth 100000 in
theorem o_of1 (l : Launch) (hl : l.stackTraces = false) (D : va_G) (cy : Nat → ClassId) (sa : Nat → Nat) (sA s2 s3 s6 s8 s11 s13 : Nat) (wi ro dr dt pe gu sh wo dn mi fl tk go : Int) (df : Nat → Int32) (n : Int) (sz : Nat) (hr_wi : 0 ≤ wi ∧ wi ≤ 16) (hr_ro : 0 ≤ ro ∧ ro ≤ 6) (hr_dr : 0 ≤ dr ∧ dr ≤ 14) (hr_dt : 0 ≤ dt ∧ dt ≤ 6) (hr_pe : 0 ≤ pe ∧ pe ≤ 8) (hr_gu : 0 ≤ gu ∧ gu ≤ 20) (hr_sh : 0 ≤ sh ∧ sh ≤ 2) (hr_wo : 0 ≤ wo ∧ wo ≤ 8) (hr_dn : (-2147483648) ≤ dn ∧ dn ≤ 2147483647) (hr_mi : 0 ≤ mi ∧ mi ≤ 600) (hr_fl : (-2147483648) ≤ fl ∧ fl ≤ 2147483647) (hr_tk : (-2147483648) ≤ tk ∧ tk ≤ 2147483647) (hr_go : (-2147483648) ≤ go ∧ go ≤ 2147483647) (hr_n : (-1) ≤ n ∧ n ≤ 13) (hdf : tab_ 4 14 [0, 0, 0, 0] [15, 5, 99, 16] df) : Met l yX3_of vs_o_of1 ({ frames := 0, cells := 0, slots := 0, locals := 0 }) (va_Pc [vR sA, vI n, vI 1] (pcW D cy sa sz [zO sA 6 [vI wi, vI ro, vR s2, vR s3, vI dr, vI dt, vR s6, vI pe, vR s8, vI gu, vI sh, vR s11, vI wo, vR s13, vI dn, vI mi, vI fl, vI tk, vI go], zI s6 (cy 0) 56 df])) (va_Qi (fun (r : Int32) (u : SV) => r = iI (u.2.1 0) ∧ (0 ≤ u.2.1 0 ∧ u.2.1 0 ≤ 15) ∧ tab_ 4 14 [0, 0, 0, 0] [15, 5, 99, 16] df) (fun u t => atW D (va_A [zO sA 6 [vI wi, vI ro, vR s2, vR s3, vI dr, vI dt, vR s6, vI pe, vR s8, vI gu, vI sh, vR s11, vI wo, vR s13, vI dn, vI mi, vI fl, vI tk, vI go], zI s6 (cy 0) 56 df] sz) [zO sA 6 [vI wi, vI ro, vR s2, vR s3, vI dr, vI dt, vR s6, vI pe, vR s8, vI gu, vI sh, vR s11, vI wo, vR s13, vI dn, vI mi, vI fl, vI tk, vI go], zI s6 (cy 0) 56 df] t) (va_A [zO sA 6 [vI wi, vI ro, vR s2, vR s3, vI dr, vI dt, vR s6, vI pe, vR s8, vI gu, vI sh, vR s11, vI wo, vR s13, vI dn, vI mi, vI fl, vI tk, vI go], zI s6 (cy 0) 56 df] sz)) 0 0 (va_A [zO sA 6 [vI wi, vI ro, vR s2, vR s3, vI dr, vI dt, vR s6, vI pe, vR s8, vI gu, vI sh, vR s11, vI wo, vR s13, vI dn, vI mi, vI fl, vI tk, vI go], zI s6 (cy 0) 56 df] sz) := by
  refine Met.ofW (cc := cX3_of) (maxL := 3) (ret := (some .int)) (by decide) rfl ?_
  intro p e s m args below meth c s₁ B hml hv
  obtain ⟨rfl, hsz, hP, hG, hD0, hT⟩ := hv
  have hx := B.exec
  have hb := B.bytes
  have hr := B.returns
  have hts := atoms_spec (ws := vs_o_of1) B.pre
  have hown : s.vm.findClass RX3 = some m.cls := findClass_of_methodNamed B.named
  have hlocks := B.notSynchronized
  subst hsz
  have hD := hD0.self (sz := s.heap.size)
  generalize hAe : va_A [zO sA 6 [vI wi, vI ro, vR s2, vR s3, vI dr, vI dt, vR s6, vI pe, vR s8, vI gu, vI sh, vR s11, vI wo, vR s13, vI dn, vI mi, vI fl, vI tk, vI go], zI s6 (cy 0) 56 df] s.heap.size = A at hD hT ⊢
  have hA : ∀ q : Nat, s.heap.size ≤ q → A q := fun q h => by rw [← hAe]; exact Or.inr h
  have hS : va_S A s.heap s.heap [] := va_S.rf
  have hl0 := lv_entry ([vR sA, vI n, vI 1]) (n := 3) (Nat.le_of_ble_eq_true rfl)
  rw [lg_entry_eq]
  generalize (lg_sl ([vR sA, vI n, vI 1]) ++ List.replicate (3 - (lg_sl ([vR sA, vI n, vI 1])).length) Slot.unset).toArray = ls at hl0 ⊢
  have hlv : lv_has ls 3 [(0, vR sA), (1, vI n), (2, vI 1)] := hl0
  have hi6 : ∀ w ∈ wsX60, w ∈ vs_o_of1 := fun w h => List.mem_cons_of_mem _ (List.mem_append_right _ (List.mem_append_left _ h))
  refine lv_iload_n hx hb dX3_of_0 rfl (lv_at hlv 1 rfl) ?_
  refine lv_iconst (v := iI (-1)) hx hb dX3_of_1 (by decide) ?_
  refine ir_ne (tgt := 9) hx hb dX3_of_2 (by decide) (by first | exact rgw hr_n (by decide) (by decide) | omega) (by show ((-2147483648) : Int) ≤ (-1) ∧ ((-1) : Int) ≤ 2147483647; decide) (fun c_1 => ?_) (fun c_1 => ?_)
  · refine lv_aload_n hx hb dX3_of_9 rfl (lv_at hlv 0 rfl) ?_
    refine va_getN (D := D) (ci := 6) (v := vR s6) (C := RX6) (T := TX6) (N := 19) hx hb hts hi6 hown hG.1 hP 0 rfl rfl 6 (by decide) (va_Nw.use rfl (nF_Orders_56 hG.2.1)) (fun _ h9 => h9) rfl dX3_of_10 ?_
    refine lv_iconst (v := iI 4) hx hb dX3_of_13 (by decide) ?_
    refine lv_iload_n hx hb dX3_of_14 rfl (lv_at hlv 1 rfl) ?_
    refine lv_imul hx hb dX3_of_15 ?_
    refine lt_e (e0 := 4 * n) (Int32.ofInt_mul _ _).symm (fun z_2 hz_2 => ?_)
    refine lv_iload_n hx hb dX3_of_16 rfl (lv_at hlv 2 rfl) ?_
    refine lv_iadd hx hb dX3_of_17 ?_
    refine lt_e (e0 := z_2 + 1) (Int32.ofInt_add _ _).symm (fun z_3 hz_3 => ?_)
    refine va_iald hx hb hG.1 hP 1 0 rfl rfl (iI_in (by omega) (by decide)) dX3_of_18 ?_
    obtain ⟨z_4, ez_4, hz_4, lz_4⟩ := tab_rd hdf (e := z_3) (k := n) (c := 1) (a := 0) (b := 5) (by omega) (by omega) (by decide) (by omega) rfl rfl
    refine lt_i (y := iI z_4) ez_4 ?_
    refine W.widen (k := 0) (n := 0) (Nat.le_of_ble_eq_true rfl) (Nat.le_of_ble_eq_true rfl) ?_
    exact W.iret (v := iI z_4) hx hb hr (fun t ht hW => ⟨⟨iI z_4, ((fun k => ([] : List Nat).getD k 0), (fun k => ([z_4] : List Int).getD k 0), (fun k => ([] : List (Nat → Int32)).getD k (fun _ => 0))), rfl, ⟨rfl, (by show (0 ≤ z_4 ∧ z_4 ≤ 15); first | exact rgw lz_4 (by decide) (by decide) | omega), hdf⟩, by rw [ht]; exact hP.sub [0, 1] rfl, hD.sub [0, 1] (by decide) rfl⟩, hS.F ht⟩) hS.2.2 dX3_of_19
  · refine lv_iconst (v := iI 0) hx hb dX3_of_5 (by decide) ?_
    refine lv_goto (tgt := 19) hx hb dX3_of_6 (by decide) ?_
    refine W.widen (k := 0) (n := 0) (Nat.le_of_ble_eq_true rfl) (Nat.le_of_ble_eq_true rfl) ?_
    exact W.iret (v := iI 0) hx hb hr (fun t ht hW => ⟨⟨iI 0, ((fun k => ([] : List Nat).getD k 0), (fun k => ([0] : List Int).getD k 0), (fun k => ([] : List (Nat → Int32)).getD k (fun _ => 0))), rfl, ⟨rfl, (by show (0 ≤ 0 ∧ 0 ≤ 15); show (0 : Int) ≤ 0 ∧ (0 : Int) ≤ 15; decide), hdf⟩, by rw [ht]; exact hP.sub [0, 1] rfl, hD.sub [0, 1] (by decide) rfl⟩, hS.F ht⟩) hS.2.2 dX3_of_19
def vs_o_steps : List Cond := .code yX3_steps cX3_steps 5 (some .int) :: (([.methodLink RX3 70 Lib.Math.abs.name, .static Lib.Math.abs.name, .initialized "java/lang/Math", .code Lib.Math.abs.name Lib.Math.abs.code 1 (some .int)] : List Cond) ++ ((va_wsS RX3 67 yX3_of vs_o_of0) ++ ((va_wsS RX3 67 yX3_of vs_o_of1) ++ ([]))))
theorem gd_o_steps : vs_o_steps.all goodWord = true := gd_C (by decide +kernel) (gd_A (by decide +kernel) (gd_A (gd_S gd_o_of0 (by decide +kernel)) (gd_A (gd_S gd_o_of1 (by decide +kernel)) rfl)))
set_option maxHeartbeats 4000000 in
set_option maxRecDepth 100000 in
theorem o_steps (l : Launch) (hl : l.stackTraces = false) (D : va_G) (cy : Nat → ClassId) (sa : Nat → Nat) (sA s2 s3 s6 s8 s11 s13 : Nat) (wi ro dr dt pe gu sh wo dn mi fl tk go : Int) (df : Nat → Int32) (n k : Int) (sz : Nat) (hr_wi : 0 ≤ wi ∧ wi ≤ 16) (hr_ro : 0 ≤ ro ∧ ro ≤ 6) (hr_dr : 0 ≤ dr ∧ dr ≤ 14) (hr_dt : 0 ≤ dt ∧ dt ≤ 6) (hr_pe : 0 ≤ pe ∧ pe ≤ 8) (hr_gu : 0 ≤ gu ∧ gu ≤ 20) (hr_sh : 0 ≤ sh ∧ sh ≤ 2) (hr_wo : 0 ≤ wo ∧ wo ≤ 8) (hr_dn : (-2147483648) ≤ dn ∧ dn ≤ 2147483647) (hr_mi : 0 ≤ mi ∧ mi ≤ 600) (hr_fl : (-2147483648) ≤ fl ∧ fl ≤ 2147483647) (hr_tk : (-2147483648) ≤ tk ∧ tk ≤ 2147483647) (hr_go : (-2147483648) ≤ go ∧ go ≤ 2147483647) (hr_n : (-1) ≤ n ∧ n ≤ 13) (hr_k : (-1) ≤ k ∧ k ≤ 13) (hdf : tab_ 4 14 [0, 0, 0, 0] [15, 5, 99, 16] df) : Met l yX3_steps vs_o_steps ({ frames := 1, cells := 0, slots := 0, locals := 30 }) (va_Pc [vR sA, vI n, vI k] (pcW D cy sa sz [zO sA 6 [vI wi, vI ro, vR s2, vR s3, vI dr, vI dt, vR s6, vI pe, vR s8, vI gu, vI sh, vR s11, vI wo, vR s13, vI dn, vI mi, vI fl, vI tk, vI go], zI s6 (cy 0) 56 df])) (va_Qi (fun (r : Int32) (u : SV) => r = iI (u.2.1 0) ∧ (0 ≤ u.2.1 0 ∧ u.2.1 0 ≤ 60) ∧ tab_ 4 14 [0, 0, 0, 0] [15, 5, 99, 16] df) (fun u t => atW D (va_A [zO sA 6 [vI wi, vI ro, vR s2, vR s3, vI dr, vI dt, vR s6, vI pe, vR s8, vI gu, vI sh, vR s11, vI wo, vR s13, vI dn, vI mi, vI fl, vI tk, vI go], zI s6 (cy 0) 56 df] sz) [zO sA 6 [vI wi, vI ro, vR s2, vR s3, vI dr, vI dt, vR s6, vI pe, vR s8, vI gu, vI sh, vR s11, vI wo, vR s13, vI dn, vI mi, vI fl, vI tk, vI go], zI s6 (cy 0) 56 df] t) (va_A [zO sA 6 [vI wi, vI ro, vR s2, vR s3, vI dr, vI dt, vR s6, vI pe, vR s8, vI gu, vI sh, vR s11, vI wo, vR s13, vI dn, vI mi, vI fl, vI tk, vI go], zI s6 (cy 0) 56 df] sz)) 0 0 (va_A [zO sA 6 [vI wi, vI ro, vR s2, vR s3, vI dr, vI dt, vR s6, vI pe, vR s8, vI gu, vI sh, vR s11, vI wo, vR s13, vI dn, vI mi, vI fl, vI tk, vI go], zI s6 (cy 0) 56 df] sz) := by
  refine Met.ofW (cc := cX3_steps) (maxL := 5) (ret := (some .int)) (by decide) rfl ?_
  intro p e s m args below meth c s₁ B hml hv
  obtain ⟨rfl, hsz, hP, hG, hD0, hT⟩ := hv
  have hx := B.exec
  have hb := B.bytes
  have hr := B.returns
  have hts := atoms_spec (ws := vs_o_steps) B.pre
  have hown : s.vm.findClass RX3 = some m.cls := findClass_of_methodNamed B.named
  have hlocks := B.notSynchronized
  subst hsz
  have hD := hD0.self (sz := s.heap.size)
  generalize hAe : va_A [zO sA 6 [vI wi, vI ro, vR s2, vR s3, vI dr, vI dt, vR s6, vI pe, vR s8, vI gu, vI sh, vR s11, vI wo, vR s13, vI dn, vI mi, vI fl, vI tk, vI go], zI s6 (cy 0) 56 df] s.heap.size = A at hD hT ⊢
  have hA : ∀ q : Nat, s.heap.size ≤ q → A q := fun q h => by rw [← hAe]; exact Or.inr h
  have hS : va_S A s.heap s.heap [] := va_S.rf
  have hl0 := lv_entry ([vR sA, vI n, vI k]) (n := 5) (Nat.le_of_ble_eq_true rfl)
  rw [lg_entry_eq]
  generalize (lg_sl ([vR sA, vI n, vI k]) ++ List.replicate (5 - (lg_sl ([vR sA, vI n, vI k])).length) Slot.unset).toArray = ls at hl0 ⊢
  have hlv : lv_has ls 5 [(0, vR sA), (1, vI n), (2, vI k)] := hl0
  have gg_0 : GoodIn vs_o_steps (va_wsS RX3 67 yX3_of vs_o_of0) := goodIn_sub (fun w h => List.mem_cons_of_mem _ (List.mem_append_right _ (List.mem_append_left _ h))) (gd_S gd_o_of0 (by decide +kernel))
  have gg_1 : GoodIn vs_o_steps (va_wsS RX3 67 yX3_of vs_o_of1) := goodIn_sub (fun w h => List.mem_cons_of_mem _ (List.mem_append_right _ (List.mem_append_right _ (List.mem_append_left _ h)))) (gd_S gd_o_of1 (by decide +kernel))
  have mk70 := hts (.methodLink RX3 70 Lib.Math.abs.name) (List.mem_of_getElem? (i := 1) rfl)
  have ms_abs := hts (.static Lib.Math.abs.name) (List.mem_of_getElem? (i := 2) rfl)
  have mi_ := hts (.initialized "java/lang/Math") (List.mem_of_getElem? (i := 3) rfl)
  have mc_abs := hts (.code Lib.Math.abs.name Lib.Math.abs.code 1 (some .int)) (List.mem_of_getElem? (i := 4) rfl)
  refine lv_aload_n hx hb dX3_steps_0 rfl (lv_at hlv 0 rfl) ?_
  refine lv_iload_n hx hb dX3_steps_1 rfl (lv_at hlv 1 rfl) ?_
  refine lv_iconst (v := iI 0) hx hb dX3_steps_2 (by decide) ?_
  refine cj_i (wr := []) (va_runS (As := [vR sA, vI n, vI 0]) (rest := []) ⟨hx, hb, hml, hown, hts⟩ (o_of0 l hl D cy sa sA s2 s3 s6 s8 s11 s13 wi ro dr dt pe gu sh wo dn mi fl tk go df n s.heap.size (by first | exact hr_wi | omega) (by first | exact hr_ro | omega) (by first | exact hr_dr | omega) (by first | exact hr_dt | omega) (by first | exact hr_pe | omega) (by first | exact hr_gu | omega) (by first | exact hr_sh | omega) (by first | exact hr_wo | omega) (by first | exact hr_dn | omega) (by first | exact hr_mi | omega) (by first | exact hr_fl | omega) (by first | exact hr_tk | omega) (by first | exact hr_go | omega) (by first | exact hr_n | omega) hdf) (va_cwS 3 hts gg_0 rfl rfl rfl (by decide +kernel) ⟨Nat.le_of_ble_eq_true rfl, Nat.le_of_ble_eq_true rfl⟩) ⟨pcW.blind, (pcW.mk hP hD hS hA hG hT [0, 1] rfl (by decide))⟩ rfl rfl hlv.1 rfl (lv_room (Nat.le_of_ble_eq_true rfl)) dX3_steps_3 ⟨Nat.le_of_ble_eq_true rfl, Nat.le_of_ble_eq_true rfl⟩) hP hD hS hA [0, 1] [] rfl rfl (by decide) (by decide) (fun r1 u1 H locs hw1 hP hD hS => ?_)
  obtain ⟨rfl, hq1_1, hq1_2⟩ := hw1
  have hP : va_P D vwCl [zO sA 6 [vI wi, vI ro, vR s2, vR s3, vI dr, vI dt, vR s6, vI pe, vR s8, vI gu, vI sh, vR s11, vI wo, vR s13, vI dn, vI mi, vI fl, vI tk, vI go], zI s6 (cy 0) 56 df] H := hP
  have hD : va_D A [zO sA 6 [vI wi, vI ro, vR s2, vR s3, vI dr, vI dt, vR s6, vI pe, vR s8, vI gu, vI sh, vR s11, vI wo, vR s13, vI dn, vI mi, vI fl, vI tk, vI go], zI s6 (cy 0) 56 df] := hD
  refine lv_aload_n hx hb dX3_steps_6 rfl (lv_at hlv 0 rfl) ?_
  refine lv_iload_n hx hb dX3_steps_7 rfl (lv_at hlv 2 rfl) ?_
  refine lv_iconst (v := iI 0) hx hb dX3_steps_8 (by decide) ?_
  refine cj_i (wr := []) (va_runS (As := [vR sA, vI k, vI 0]) (rest := [vI (u1.2.1 0)]) ⟨hx, hb, hml, hown, hts⟩ (o_of0 l hl D cy sa sA s2 s3 s6 s8 s11 s13 wi ro dr dt pe gu sh wo dn mi fl tk go df k H.size (by first | exact hr_wi | omega) (by first | exact hr_ro | omega) (by first | exact hr_dr | omega) (by first | exact hr_dt | omega) (by first | exact hr_pe | omega) (by first | exact hr_gu | omega) (by first | exact hr_sh | omega) (by first | exact hr_wo | omega) (by first | exact hr_dn | omega) (by first | exact hr_mi | omega) (by first | exact hr_fl | omega) (by first | exact hr_tk | omega) (by first | exact hr_go | omega) (by first | exact hr_k | omega) hq1_2) (va_cwS 3 hts gg_0 rfl rfl rfl (by decide +kernel) ⟨Nat.le_of_ble_eq_true rfl, Nat.le_of_ble_eq_true rfl⟩) ⟨pcW.blind, (pcW.mk hP hD hS hA hG hT [0, 1] rfl (by decide))⟩ rfl rfl hlv.1 rfl (lv_room (Nat.le_of_ble_eq_true rfl)) dX3_steps_9 ⟨Nat.le_of_ble_eq_true rfl, Nat.le_of_ble_eq_true rfl⟩) hP hD hS hA [0, 1] [] rfl rfl (by decide) (by decide) (fun r2 u2 H locs hw2 hP hD hS => ?_)
  obtain ⟨rfl, hq2_1, hq2_2⟩ := hw2
  have hP : va_P D vwCl [zO sA 6 [vI wi, vI ro, vR s2, vR s3, vI dr, vI dt, vR s6, vI pe, vR s8, vI gu, vI sh, vR s11, vI wo, vR s13, vI dn, vI mi, vI fl, vI tk, vI go], zI s6 (cy 0) 56 df] H := hP
  have hD : va_D A [zO sA 6 [vI wi, vI ro, vR s2, vR s3, vI dr, vI dt, vR s6, vI pe, vR s8, vI gu, vI sh, vR s11, vI wo, vR s13, vI dn, vI mi, vI fl, vI tk, vI go], zI s6 (cy 0) 56 df] := hD
  refine lv_isub hx hb dX3_steps_12 ?_
  refine lt_e (e0 := (u1.2.1 0) - (u2.2.1 0)) (Int32.ofInt_sub _ _).symm (fun z_1 hz_1 => ?_)
  refine lv_istore_n (lv' := [(3, vI z_1), (0, vR sA), (1, vI n), (2, vI k)]) hx hb dX3_steps_13 rfl hlv (by decide) rfl (fun ls hlv => ?_)
  refine lv_aload_n hx hb dX3_steps_14 rfl (lv_at hlv 1 rfl) ?_
  refine lv_iload_n hx hb dX3_steps_15 rfl (lv_at hlv 2 rfl) ?_
  refine lv_iconst (v := iI 1) hx hb dX3_steps_16 (by decide) ?_
  refine cj_i (wr := []) (va_runS (As := [vR sA, vI n, vI 1]) (rest := []) ⟨hx, hb, hml, hown, hts⟩ (o_of1 l hl D cy sa sA s2 s3 s6 s8 s11 s13 wi ro dr dt pe gu sh wo dn mi fl tk go df n H.size (by first | exact hr_wi | omega) (by first | exact hr_ro | omega) (by first | exact hr_dr | omega) (by first | exact hr_dt | omega) (by first | exact hr_pe | omega) (by first | exact hr_gu | omega) (by first | exact hr_sh | omega) (by first | exact hr_wo | omega) (by first | exact hr_dn | omega) (by first | exact hr_mi | omega) (by first | exact hr_fl | omega) (by first | exact hr_tk | omega) (by first | exact hr_go | omega) (by first | exact hr_n | omega) hq2_2) (va_cwS 3 hts gg_1 rfl rfl rfl (by decide +kernel) ⟨Nat.le_of_ble_eq_true rfl, Nat.le_of_ble_eq_true rfl⟩) ⟨pcW.blind, (pcW.mk hP hD hS hA hG hT [0, 1] rfl (by decide))⟩ rfl rfl hlv.1 rfl (lv_room (Nat.le_of_ble_eq_true rfl)) dX3_steps_17 ⟨Nat.le_of_ble_eq_true rfl, Nat.le_of_ble_eq_true rfl⟩) hP hD hS hA [0, 1] [] rfl rfl (by decide) (by decide) (fun r3 u3 H locs hw3 hP hD hS => ?_)
  obtain ⟨rfl, hq3_1, hq3_2⟩ := hw3
  have hP : va_P D vwCl [zO sA 6 [vI wi, vI ro, vR s2, vR s3, vI dr, vI dt, vR s6, vI pe, vR s8, vI gu, vI sh, vR s11, vI wo, vR s13, vI dn, vI mi, vI fl, vI tk, vI go], zI s6 (cy 0) 56 df] H := hP
  have hD : va_D A [zO sA 6 [vI wi, vI ro, vR s2, vR s3, vI dr, vI dt, vR s6, vI pe, vR s8, vI gu, vI sh, vR s11, vI wo, vR s13, vI dn, vI mi, vI fl, vI tk, vI go], zI s6 (cy 0) 56 df] := hD
  refine lv_aload_n hx hb dX3_steps_20 rfl (lv_at hlv 1 rfl) ?_
  refine lv_iload_n hx hb dX3_steps_21 rfl (lv_at hlv 3 rfl) ?_
  refine lv_iconst (v := iI 1) hx hb dX3_steps_22 (by decide) ?_
  refine cj_i (wr := []) (va_runS (As := [vR sA, vI k, vI 1]) (rest := [vI (u3.2.1 0)]) ⟨hx, hb, hml, hown, hts⟩ (o_of1 l hl D cy sa sA s2 s3 s6 s8 s11 s13 wi ro dr dt pe gu sh wo dn mi fl tk go df k H.size (by first | exact hr_wi | omega) (by first | exact hr_ro | omega) (by first | exact hr_dr | omega) (by first | exact hr_dt | omega) (by first | exact hr_pe | omega) (by first | exact hr_gu | omega) (by first | exact hr_sh | omega) (by first | exact hr_wo | omega) (by first | exact hr_dn | omega) (by first | exact hr_mi | omega) (by first | exact hr_fl | omega) (by first | exact hr_tk | omega) (by first | exact hr_go | omega) (by first | exact hr_k | omega) hq3_2) (va_cwS 3 hts gg_1 rfl rfl rfl (by decide +kernel) ⟨Nat.le_of_ble_eq_true rfl, Nat.le_of_ble_eq_true rfl⟩) ⟨pcW.blind, (pcW.mk hP hD hS hA hG hT [0, 1] rfl (by decide))⟩ rfl rfl hlv.1 rfl (lv_room (Nat.le_of_ble_eq_true rfl)) dX3_steps_23 ⟨Nat.le_of_ble_eq_true rfl, Nat.le_of_ble_eq_true rfl⟩) hP hD hS hA [0, 1] [] rfl rfl (by decide) (by decide) (fun r4 u4 H locs hw4 hP hD hS => ?_)
  obtain ⟨rfl, hq4_1, hq4_2⟩ := hw4
  have hP : va_P D vwCl [zO sA 6 [vI wi, vI ro, vR s2, vR s3, vI dr, vI dt, vR s6, vI pe, vR s8, vI gu, vI sh, vR s11, vI wo, vR s13, vI dn, vI mi, vI fl, vI tk, vI go], zI s6 (cy 0) 56 df] H := hP
  have hD : va_D A [zO sA 6 [vI wi, vI ro, vR s2, vR s3, vI dr, vI dt, vR s6, vI pe, vR s8, vI gu, vI sh, vR s11, vI wo, vR s13, vI dn, vI mi, vI fl, vI tk, vI go], zI s6 (cy 0) 56 df] := hD
  refine lv_isub hx hb dX3_steps_26 ?_
  refine lt_e (e0 := (u3.2.1 0) - (u4.2.1 0)) (Int32.ofInt_sub _ _).symm (fun z_2 hz_2 => ?_)
  refine lv_istore (lv' := [(4, vI z_2), (3, vI z_1), (0, vR sA), (1, vI n), (2, vI k)]) hx hb dX3_steps_27 hlv (by decide) rfl (fun ls hlv => ?_)
  refine lv_iload_n hx hb dX3_steps_29 rfl (lv_at hlv 1 rfl) ?_
  refine va_mabs hx hb (hml.trans hlv.1.symm) hown mk70 ms_abs mi_ mc_abs (Nat.le_of_ble_eq_true rfl) (Nat.le_of_ble_eq_true rfl) (Nat.le_of_ble_eq_true rfl) (Nat.le_of_ble_eq_true rfl) dX3_steps_30 ?_
  refine lt_ab (by omega) (fun z_3 hz_3 => ?_)
  refine lv_iload hx hb dX3_steps_33 (lv_at hlv 0 rfl) ?_
  refine va_mabs hx hb (hml.trans hlv.1.symm) hown mk70 ms_abs mi_ mc_abs (Nat.le_of_ble_eq_true rfl) (Nat.le_of_ble_eq_true rfl) (Nat.le_of_ble_eq_true rfl) (Nat.le_of_ble_eq_true rfl) dX3_steps_35 ?_
  refine lt_ab (by omega) (fun z_4 hz_4 => ?_)
  refine lv_iadd hx hb dX3_steps_38 ?_
  refine lt_e (e0 := z_3 + z_4) (Int32.ofInt_add _ _).symm (fun z_5 hz_5 => ?_)
  refine W.widen (k := 0) (n := 0) (Nat.le_of_ble_eq_true rfl) (Nat.le_of_ble_eq_true rfl) ?_
  exact W.iret (v := iI z_5) hx hb hr (fun t ht hW => ⟨⟨iI z_5, ((fun k => ([] : List Nat).getD k 0), (fun k => ([z_5] : List Int).getD k 0), (fun k => ([] : List (Nat → Int32)).getD k (fun _ => 0))), rfl, ⟨rfl, (by show (0 ≤ z_5 ∧ z_5 ≤ 60); omega), hq4_2⟩, by rw [ht]; exact hP.sub [0, 1] rfl, hD.sub [0, 1] (by decide) rfl⟩, hS.F ht⟩) hS.2.2 dX3_steps_39
