theorem dX12_allPass_0 : decode cX12_allPass 0 = .ok (.iconst 0, 1) := by decide +kernel
theorem dX12_allPass_1 : decode cX12_allPass 1 = .ok (.istore_n 2, 1) := by decide +kernel
theorem dX12_allPass_100 : decode cX12_allPass 100 = .ok (.iload_n 2, 1) := by decide +kernel
theorem dX12_allPass_101 : decode cX12_allPass 101 = .ok (.ireturn, 1) := by decide +kernel
theorem dX12_allPass_12 : decode cX12_allPass 12 = .ok (.iaload, 1) := by decide +kernel
theorem dX12_allPass_13 : decode cX12_allPass 13 = .ok (.if_icmp .ge 87, 3) := by decide +kernel
theorem dX12_allPass_16 : decode cX12_allPass 16 = .ok (.sipush 253, 3) := by decide +kernel
theorem dX12_allPass_19 : decode cX12_allPass 19 = .ok (.iconst 5, 1) := by decide +kernel
theorem dX12_allPass_2 : decode cX12_allPass 2 = .ok (.iconst 0, 1) := by decide +kernel
theorem dX12_allPass_20 : decode cX12_allPass 20 = .ok (.iload_n 3, 1) := by decide +kernel
theorem dX12_allPass_21 : decode cX12_allPass 21 = .ok (.imul, 1) := by decide +kernel
theorem dX12_allPass_22 : decode cX12_allPass 22 = .ok (.iadd, 1) := by decide +kernel
theorem dX12_allPass_23 : decode cX12_allPass 23 = .ok (.istore 4, 2) := by decide +kernel
theorem dX12_allPass_25 : decode cX12_allPass 25 = .ok (.iconst 0, 1) := by decide +kernel
theorem dX12_allPass_26 : decode cX12_allPass 26 = .ok (.istore 5, 2) := by decide +kernel
theorem dX12_allPass_28 : decode cX12_allPass 28 = .ok (.iload 5, 2) := by decide +kernel
theorem dX12_allPass_3 : decode cX12_allPass 3 = .ok (.istore_n 3, 1) := by decide +kernel
theorem dX12_allPass_30 : decode cX12_allPass 30 = .ok (.aload_n 0, 1) := by decide +kernel
theorem dX12_allPass_31 : decode cX12_allPass 31 = .ok (.getfield 29, 3) := by decide +kernel
theorem dX12_allPass_34 : decode cX12_allPass 34 = .ok (.iload 4, 2) := by decide +kernel
theorem dX12_allPass_36 : decode cX12_allPass 36 = .ok (.iaload, 1) := by decide +kernel
theorem dX12_allPass_37 : decode cX12_allPass 37 = .ok (.if_icmp .ge 13, 3) := by decide +kernel
theorem dX12_allPass_4 : decode cX12_allPass 4 = .ok (.iload_n 3, 1) := by decide +kernel
theorem dX12_allPass_40 : decode cX12_allPass 40 = .ok (.aload_n 0, 1) := by decide +kernel
theorem dX12_allPass_41 : decode cX12_allPass 41 = .ok (.invokevirtual 309, 3) := by decide +kernel
theorem dX12_allPass_44 : decode cX12_allPass 44 = .ok (.iinc 5 1, 3) := by decide +kernel
theorem dX12_allPass_47 : decode cX12_allPass 47 = .ok (.goto (-19), 3) := by decide +kernel
theorem dX12_allPass_5 : decode cX12_allPass 5 = .ok (.aload_n 0, 1) := by decide +kernel
theorem dX12_allPass_50 : decode cX12_allPass 50 = .ok (.iload_n 2, 1) := by decide +kernel
theorem dX12_allPass_51 : decode cX12_allPass 51 = .ok (.aload_n 0, 1) := by decide +kernel
theorem dX12_allPass_52 : decode cX12_allPass 52 = .ok (.iload_n 1, 1) := by decide +kernel
theorem dX12_allPass_53 : decode cX12_allPass 53 = .ok (.aload_n 0, 1) := by decide +kernel
theorem dX12_allPass_54 : decode cX12_allPass 54 = .ok (.getfield 29, 3) := by decide +kernel
theorem dX12_allPass_57 : decode cX12_allPass 57 = .ok (.iload 4, 2) := by decide +kernel
theorem dX12_allPass_59 : decode cX12_allPass 59 = .ok (.iconst 1, 1) := by decide +kernel
theorem dX12_allPass_6 : decode cX12_allPass 6 = .ok (.getfield 29, 3) := by decide +kernel
theorem dX12_allPass_60 : decode cX12_allPass 60 = .ok (.iadd, 1) := by decide +kernel
theorem dX12_allPass_61 : decode cX12_allPass 61 = .ok (.iaload, 1) := by decide +kernel
theorem dX12_allPass_62 : decode cX12_allPass 62 = .ok (.aload_n 0, 1) := by decide +kernel
theorem dX12_allPass_63 : decode cX12_allPass 63 = .ok (.getfield 29, 3) := by decide +kernel
theorem dX12_allPass_66 : decode cX12_allPass 66 = .ok (.iload 4, 2) := by decide +kernel
theorem dX12_allPass_68 : decode cX12_allPass 68 = .ok (.iconst 2, 1) := by decide +kernel
theorem dX12_allPass_69 : decode cX12_allPass 69 = .ok (.iadd, 1) := by decide +kernel
theorem dX12_allPass_70 : decode cX12_allPass 70 = .ok (.iaload, 1) := by decide +kernel
theorem dX12_allPass_71 : decode cX12_allPass 71 = .ok (.aload_n 0, 1) := by decide +kernel
theorem dX12_allPass_72 : decode cX12_allPass 72 = .ok (.getfield 29, 3) := by decide +kernel
theorem dX12_allPass_75 : decode cX12_allPass 75 = .ok (.iload 4, 2) := by decide +kernel
theorem dX12_allPass_77 : decode cX12_allPass 77 = .ok (.iconst 3, 1) := by decide +kernel
theorem dX12_allPass_78 : decode cX12_allPass 78 = .ok (.iadd, 1) := by decide +kernel
theorem dX12_allPass_79 : decode cX12_allPass 79 = .ok (.iaload, 1) := by decide +kernel
theorem dX12_allPass_80 : decode cX12_allPass 80 = .ok (.aload_n 0, 1) := by decide +kernel
theorem dX12_allPass_81 : decode cX12_allPass 81 = .ok (.getfield 29, 3) := by decide +kernel
theorem dX12_allPass_84 : decode cX12_allPass 84 = .ok (.iload 4, 2) := by decide +kernel
theorem dX12_allPass_86 : decode cX12_allPass 86 = .ok (.iconst 4, 1) := by decide +kernel
theorem dX12_allPass_87 : decode cX12_allPass 87 = .ok (.iadd, 1) := by decide +kernel
theorem dX12_allPass_88 : decode cX12_allPass 88 = .ok (.iaload, 1) := by decide +kernel
theorem dX12_allPass_89 : decode cX12_allPass 89 = .ok (.invokevirtual 374, 3) := by decide +kernel
theorem dX12_allPass_9 : decode cX12_allPass 9 = .ok (.sipush 252, 3) := by decide +kernel
theorem dX12_allPass_92 : decode cX12_allPass 92 = .ok (.iadd, 1) := by decide +kernel
theorem dX12_allPass_93 : decode cX12_allPass 93 = .ok (.istore_n 2, 1) := by decide +kernel
theorem dX12_allPass_94 : decode cX12_allPass 94 = .ok (.iinc 3 1, 3) := by decide +kernel
theorem dX12_allPass_97 : decode cX12_allPass 97 = .ok (.goto (-93), 3) := by decide +kernel
theorem dX12_car_0 : decode cX12_car 0 = .ok (.aload_n 0, 1) := by decide +kernel
theorem dX12_car_1 : decode cX12_car 1 = .ok (.iconst 0, 1) := by decide +kernel
theorem dX12_car_11 : decode cX12_car 11 = .ok (.ifCond .eq 30, 3) := by decide +kernel
theorem dX12_car_14 : decode cX12_car 14 = .ok (.aload_n 0, 1) := by decide +kernel
theorem dX12_car_15 : decode cX12_car 15 = .ok (.aload_n 0, 1) := by decide +kernel
theorem dX12_car_16 : decode cX12_car 16 = .ok (.iload_n 2, 1) := by decide +kernel
theorem dX12_car_17 : decode cX12_car 17 = .ok (.iload_n 3, 1) := by decide +kernel
theorem dX12_car_18 : decode cX12_car 18 = .ok (.iload 4, 2) := by decide +kernel
theorem dX12_car_2 : decode cX12_car 2 = .ok (.putfield 1, 3) := by decide +kernel
theorem dX12_car_20 : decode cX12_car 20 = .ok (.iload 5, 2) := by decide +kernel
theorem dX12_car_22 : decode cX12_car 22 = .ok (.invokevirtual 367, 3) := by decide +kernel
theorem dX12_car_25 : decode cX12_car 25 = .ok (.iconst 2, 1) := by decide +kernel
theorem dX12_car_26 : decode cX12_car 26 = .ok (.iconst 2, 1) := by decide +kernel
theorem dX12_car_27 : decode cX12_car 27 = .ok (.invokevirtual 175, 3) := by decide +kernel
theorem dX12_car_30 : decode cX12_car 30 = .ok (.ifCond .eq 11, 3) := by decide +kernel
theorem dX12_car_33 : decode cX12_car 33 = .ok (.aload_n 0, 1) := by decide +kernel
theorem dX12_car_34 : decode cX12_car 34 = .ok (.iconst 3, 1) := by decide +kernel
theorem dX12_car_35 : decode cX12_car 35 = .ok (.invokevirtual 371, 3) := by decide +kernel
theorem dX12_car_38 : decode cX12_car 38 = .ok (.ifCond .ne 5, 3) := by decide +kernel
theorem dX12_car_41 : decode cX12_car 41 = .ok (.iconst 0, 1) := by decide +kernel
theorem dX12_car_42 : decode cX12_car 42 = .ok (.ireturn, 1) := by decide +kernel
theorem dX12_car_43 : decode cX12_car 43 = .ok (.aload_n 0, 1) := by decide +kernel
theorem dX12_car_44 : decode cX12_car 44 = .ok (.iload_n 1, 1) := by decide +kernel
theorem dX12_car_45 : decode cX12_car 45 = .ok (.iload_n 2, 1) := by decide +kernel
theorem dX12_car_46 : decode cX12_car 46 = .ok (.iload_n 3, 1) := by decide +kernel
theorem dX12_car_47 : decode cX12_car 47 = .ok (.iload 4, 2) := by decide +kernel
theorem dX12_car_49 : decode cX12_car 49 = .ok (.iload 5, 2) := by decide +kernel
theorem dX12_car_5 : decode cX12_car 5 = .ok (.aload_n 0, 1) := by decide +kernel
theorem dX12_car_51 : decode cX12_car 51 = .ok (.invokevirtual 374, 3) := by decide +kernel
theorem dX12_car_54 : decode cX12_car 54 = .ok (.ireturn, 1) := by decide +kernel
theorem dX12_car_6 : decode cX12_car 6 = .ok (.iload_n 1, 1) := by decide +kernel
theorem dX12_car_7 : decode cX12_car 7 = .ok (.iconst 1, 1) := by decide +kernel
theorem dX12_car_8 : decode cX12_car 8 = .ok (.invokevirtual 334, 3) := by decide +kernel
theorem dX12_clear_0 : decode cX12_clear 0 = .ok (.aload_n 0, 1) := by decide +kernel
theorem dX12_clear_1 : decode cX12_clear 1 = .ok (.iconst 0, 1) := by decide +kernel
theorem dX12_clear_12 : decode cX12_clear 12 = .ok (.iaload, 1) := by decide +kernel
theorem dX12_clear_13 : decode cX12_clear 13 = .ok (.istore_n 1, 1) := by decide +kernel
theorem dX12_clear_14 : decode cX12_clear 14 = .ok (.aload_n 0, 1) := by decide +kernel
theorem dX12_clear_15 : decode cX12_clear 15 = .ok (.getfield 29, 3) := by decide +kernel
theorem dX12_clear_18 : decode cX12_clear 18 = .ok (.sipush 252, 3) := by decide +kernel
theorem dX12_clear_2 : decode cX12_clear 2 = .ok (.putfield 1, 3) := by decide +kernel
theorem dX12_clear_21 : decode cX12_clear 21 = .ok (.iconst 0, 1) := by decide +kernel
theorem dX12_clear_22 : decode cX12_clear 22 = .ok (.iastore, 1) := by decide +kernel
theorem dX12_clear_23 : decode cX12_clear 23 = .ok (.iload_n 1, 1) := by decide +kernel
theorem dX12_clear_24 : decode cX12_clear 24 = .ok (.ireturn, 1) := by decide +kernel
theorem dX12_clear_5 : decode cX12_clear 5 = .ok (.aload_n 0, 1) := by decide +kernel
theorem dX12_clear_6 : decode cX12_clear 6 = .ok (.getfield 29, 3) := by decide +kernel
theorem dX12_clear_9 : decode cX12_clear 9 = .ok (.sipush 252, 3) := by decide +kernel
theorem dX12_pass__0 : decode cX12_pass_ 0 = .ok (.aload_n 0, 1) := by decide +kernel
theorem dX12_pass__1 : decode cX12_pass_ 1 = .ok (.iconst 0, 1) := by decide +kernel
theorem dX12_pass__11 : decode cX12_pass_ 11 = .ok (.ifCond .eq 11, 3) := by decide +kernel
theorem dX12_pass__14 : decode cX12_pass_ 14 = .ok (.aload_n 0, 1) := by decide +kernel
theorem dX12_pass__15 : decode cX12_pass_ 15 = .ok (.iconst 2, 1) := by decide +kernel
theorem dX12_pass__16 : decode cX12_pass_ 16 = .ok (.invokevirtual 371, 3) := by decide +kernel
theorem dX12_pass__19 : decode cX12_pass_ 19 = .ok (.ifCond .ne 5, 3) := by decide +kernel
theorem dX12_pass__2 : decode cX12_pass_ 2 = .ok (.putfield 1, 3) := by decide +kernel
theorem dX12_pass__22 : decode cX12_pass_ 22 = .ok (.iconst 0, 1) := by decide +kernel
theorem dX12_pass__23 : decode cX12_pass_ 23 = .ok (.ireturn, 1) := by decide +kernel
theorem dX12_pass__24 : decode cX12_pass_ 24 = .ok (.aload_n 0, 1) := by decide +kernel
theorem dX12_pass__25 : decode cX12_pass_ 25 = .ok (.iload_n 1, 1) := by decide +kernel
theorem dX12_pass__26 : decode cX12_pass_ 26 = .ok (.invokevirtual 378, 3) := by decide +kernel
theorem dX12_pass__29 : decode cX12_pass_ 29 = .ok (.ireturn, 1) := by decide +kernel
theorem dX12_pass__5 : decode cX12_pass_ 5 = .ok (.aload_n 0, 1) := by decide +kernel
theorem dX12_pass__6 : decode cX12_pass_ 6 = .ok (.iload_n 1, 1) := by decide +kernel
theorem dX12_pass__7 : decode cX12_pass_ 7 = .ok (.iconst 1, 1) := by decide +kernel
theorem dX12_pass__8 : decode cX12_pass_ 8 = .ok (.invokevirtual 334, 3) := by decide +kernel
theorem dX12_traffic_0 : decode cX12_traffic 0 = .ok (.aload_n 0, 1) := by decide +kernel
theorem dX12_traffic_1 : decode cX12_traffic 1 = .ok (.iconst 0, 1) := by decide +kernel
theorem dX12_traffic_10 : decode cX12_traffic 10 = .ok (.invokestatic 279, 3) := by decide +kernel
theorem dX12_traffic_100 : decode cX12_traffic 100 = .ok (.iadd, 1) := by decide +kernel
theorem dX12_traffic_101 : decode cX12_traffic 101 = .ok (.iload_n 3, 1) := by decide +kernel
theorem dX12_traffic_102 : decode cX12_traffic 102 = .ok (.iastore, 1) := by decide +kernel
theorem dX12_traffic_103 : decode cX12_traffic 103 = .ok (.aload_n 0, 1) := by decide +kernel
theorem dX12_traffic_104 : decode cX12_traffic 104 = .ok (.getfield 29, 3) := by decide +kernel
theorem dX12_traffic_107 : decode cX12_traffic 107 = .ok (.iload 6, 2) := by decide +kernel
theorem dX12_traffic_109 : decode cX12_traffic 109 = .ok (.iconst 3, 1) := by decide +kernel
theorem dX12_traffic_110 : decode cX12_traffic 110 = .ok (.iadd, 1) := by decide +kernel
theorem dX12_traffic_111 : decode cX12_traffic 111 = .ok (.iload 4, 2) := by decide +kernel
theorem dX12_traffic_113 : decode cX12_traffic 113 = .ok (.iastore, 1) := by decide +kernel
theorem dX12_traffic_114 : decode cX12_traffic 114 = .ok (.aload_n 0, 1) := by decide +kernel
theorem dX12_traffic_115 : decode cX12_traffic 115 = .ok (.getfield 29, 3) := by decide +kernel
theorem dX12_traffic_118 : decode cX12_traffic 118 = .ok (.iload 6, 2) := by decide +kernel
theorem dX12_traffic_120 : decode cX12_traffic 120 = .ok (.iconst 4, 1) := by decide +kernel
theorem dX12_traffic_121 : decode cX12_traffic 121 = .ok (.iadd, 1) := by decide +kernel
theorem dX12_traffic_122 : decode cX12_traffic 122 = .ok (.iload 5, 2) := by decide +kernel
theorem dX12_traffic_124 : decode cX12_traffic 124 = .ok (.iastore, 1) := by decide +kernel
theorem dX12_traffic_125 : decode cX12_traffic 125 = .ok (.aload_n 0, 1) := by decide +kernel
theorem dX12_traffic_126 : decode cX12_traffic 126 = .ok (.getfield 29, 3) := by decide +kernel
theorem dX12_traffic_129 : decode cX12_traffic 129 = .ok (.sipush 252, 3) := by decide +kernel
theorem dX12_traffic_13 : decode cX12_traffic 13 = .ok (.ifCond .eq 20, 3) := by decide +kernel
theorem dX12_traffic_132 : decode cX12_traffic 132 = .ok (.dup2, 1) := by decide +kernel
theorem dX12_traffic_133 : decode cX12_traffic 133 = .ok (.iaload, 1) := by decide +kernel
theorem dX12_traffic_134 : decode cX12_traffic 134 = .ok (.iconst 1, 1) := by decide +kernel
theorem dX12_traffic_135 : decode cX12_traffic 135 = .ok (.iadd, 1) := by decide +kernel
theorem dX12_traffic_136 : decode cX12_traffic 136 = .ok (.iastore, 1) := by decide +kernel
theorem dX12_traffic_137 : decode cX12_traffic 137 = .ok (.aload_n 0, 1) := by decide +kernel
theorem dX12_traffic_138 : decode cX12_traffic 138 = .ok (.getfield 29, 3) := by decide +kernel
theorem dX12_traffic_141 : decode cX12_traffic 141 = .ok (.sipush 252, 3) := by decide +kernel
theorem dX12_traffic_144 : decode cX12_traffic 144 = .ok (.iaload, 1) := by decide +kernel
theorem dX12_traffic_145 : decode cX12_traffic 145 = .ok (.ireturn, 1) := by decide +kernel
theorem dX12_traffic_16 : decode cX12_traffic 16 = .ok (.aload_n 0, 1) := by decide +kernel
theorem dX12_traffic_17 : decode cX12_traffic 17 = .ok (.iload_n 2, 1) := by decide +kernel
theorem dX12_traffic_18 : decode cX12_traffic 18 = .ok (.iload_n 3, 1) := by decide +kernel
theorem dX12_traffic_19 : decode cX12_traffic 19 = .ok (.iload 4, 2) := by decide +kernel
theorem dX12_traffic_2 : decode cX12_traffic 2 = .ok (.putfield 1, 3) := by decide +kernel
theorem dX12_traffic_21 : decode cX12_traffic 21 = .ok (.iload 5, 2) := by decide +kernel
theorem dX12_traffic_23 : decode cX12_traffic 23 = .ok (.invokevirtual 367, 3) := by decide +kernel
theorem dX12_traffic_26 : decode cX12_traffic 26 = .ok (.ifCond .eq 7, 3) := by decide +kernel
theorem dX12_traffic_29 : decode cX12_traffic 29 = .ok (.iconst 1, 1) := by decide +kernel
theorem dX12_traffic_30 : decode cX12_traffic 30 = .ok (.goto 4, 3) := by decide +kernel
theorem dX12_traffic_33 : decode cX12_traffic 33 = .ok (.iconst 0, 1) := by decide +kernel
theorem dX12_traffic_34 : decode cX12_traffic 34 = .ok (.iconst 1, 1) := by decide +kernel
theorem dX12_traffic_35 : decode cX12_traffic 35 = .ok (.iconst 2, 1) := by decide +kernel
theorem dX12_traffic_36 : decode cX12_traffic 36 = .ok (.invokevirtual 175, 3) := by decide +kernel
theorem dX12_traffic_39 : decode cX12_traffic 39 = .ok (.ifCond .ne 5, 3) := by decide +kernel
theorem dX12_traffic_42 : decode cX12_traffic 42 = .ok (.iconst 0, 1) := by decide +kernel
theorem dX12_traffic_43 : decode cX12_traffic 43 = .ok (.ireturn, 1) := by decide +kernel
theorem dX12_traffic_44 : decode cX12_traffic 44 = .ok (.aload_n 0, 1) := by decide +kernel
theorem dX12_traffic_45 : decode cX12_traffic 45 = .ok (.getfield 29, 3) := by decide +kernel
theorem dX12_traffic_48 : decode cX12_traffic 48 = .ok (.sipush 252, 3) := by decide +kernel
theorem dX12_traffic_5 : decode cX12_traffic 5 = .ok (.aload_n 0, 1) := by decide +kernel
theorem dX12_traffic_51 : decode cX12_traffic 51 = .ok (.iaload, 1) := by decide +kernel
theorem dX12_traffic_52 : decode cX12_traffic 52 = .ok (.bipush 20, 2) := by decide +kernel
theorem dX12_traffic_54 : decode cX12_traffic 54 = .ok (.if_icmp .ne 5, 3) := by decide +kernel
theorem dX12_traffic_57 : decode cX12_traffic 57 = .ok (.iconst (-1), 1) := by decide +kernel
theorem dX12_traffic_58 : decode cX12_traffic 58 = .ok (.ireturn, 1) := by decide +kernel
theorem dX12_traffic_59 : decode cX12_traffic 59 = .ok (.sipush 253, 3) := by decide +kernel
theorem dX12_traffic_6 : decode cX12_traffic 6 = .ok (.iload_n 1, 1) := by decide +kernel
theorem dX12_traffic_62 : decode cX12_traffic 62 = .ok (.iconst 5, 1) := by decide +kernel
theorem dX12_traffic_63 : decode cX12_traffic 63 = .ok (.aload_n 0, 1) := by decide +kernel
theorem dX12_traffic_64 : decode cX12_traffic 64 = .ok (.getfield 29, 3) := by decide +kernel
theorem dX12_traffic_67 : decode cX12_traffic 67 = .ok (.sipush 252, 3) := by decide +kernel
theorem dX12_traffic_7 : decode cX12_traffic 7 = .ok (.iconst 0, 1) := by decide +kernel
theorem dX12_traffic_70 : decode cX12_traffic 70 = .ok (.iaload, 1) := by decide +kernel
theorem dX12_traffic_71 : decode cX12_traffic 71 = .ok (.imul, 1) := by decide +kernel
theorem dX12_traffic_72 : decode cX12_traffic 72 = .ok (.iadd, 1) := by decide +kernel
theorem dX12_traffic_73 : decode cX12_traffic 73 = .ok (.istore 6, 2) := by decide +kernel
theorem dX12_traffic_75 : decode cX12_traffic 75 = .ok (.aload_n 0, 1) := by decide +kernel
theorem dX12_traffic_76 : decode cX12_traffic 76 = .ok (.getfield 29, 3) := by decide +kernel
theorem dX12_traffic_79 : decode cX12_traffic 79 = .ok (.iload 6, 2) := by decide +kernel
theorem dX12_traffic_8 : decode cX12_traffic 8 = .ok (.bipush 99, 2) := by decide +kernel
theorem dX12_traffic_81 : decode cX12_traffic 81 = .ok (.iload_n 1, 1) := by decide +kernel
theorem dX12_traffic_82 : decode cX12_traffic 82 = .ok (.iastore, 1) := by decide +kernel
theorem dX12_traffic_83 : decode cX12_traffic 83 = .ok (.aload_n 0, 1) := by decide +kernel
theorem dX12_traffic_84 : decode cX12_traffic 84 = .ok (.getfield 29, 3) := by decide +kernel
theorem dX12_traffic_87 : decode cX12_traffic 87 = .ok (.iload 6, 2) := by decide +kernel
theorem dX12_traffic_89 : decode cX12_traffic 89 = .ok (.iconst 1, 1) := by decide +kernel
theorem dX12_traffic_90 : decode cX12_traffic 90 = .ok (.iadd, 1) := by decide +kernel
theorem dX12_traffic_91 : decode cX12_traffic 91 = .ok (.iload_n 2, 1) := by decide +kernel
theorem dX12_traffic_92 : decode cX12_traffic 92 = .ok (.iastore, 1) := by decide +kernel
theorem dX12_traffic_93 : decode cX12_traffic 93 = .ok (.aload_n 0, 1) := by decide +kernel
theorem dX12_traffic_94 : decode cX12_traffic 94 = .ok (.getfield 29, 3) := by decide +kernel
theorem dX12_traffic_97 : decode cX12_traffic 97 = .ok (.iload 6, 2) := by decide +kernel
theorem dX12_traffic_99 : decode cX12_traffic 99 = .ok (.iconst 2, 1) := by decide +kernel
def vs_m_car : List Cond := .code yX12_car cX12_car 6 (some .int) :: (([.fieldLink RX12 1 "KerbSplashModel" "thrown" "I"] : List Cond) ++ ((wsX120) ++ ((wsV RX12 334 RX12 yX12_isLaw vs_m_isLaw) ++ ((wsV RX12 367 RX12 yX12_isCar vs_m_isCar) ++ ((wsV RX12 175 RX12 yX12_may vs_m_may) ++ ((wsV RX12 371 RX12 yX12_isStreet vs_m_isStreet) ++ ((wsV RX12 374 RX12 yX12_passes vs_m_passes) ++ ([]))))))))
set_option maxHeartbeats 4000000 in
set_option maxRecDepth 100000 in
theorem m_car (l : Launch) (hl : l.stackTraces = false) (D : va_G) (cy : Nat → ClassId) (sa : Nat → Nat) (mm m1 m9 m10 m11 m12 m13 m14 m15 m19 m20 m21 m23 m24 m25 m26 m27 m28 m33 m35 : Nat) (th tp sz_ ap bad bk opn fp im nr nl sp_ wtc wcl ir ip shu sfa swr : Int) (f1 f10 f12 f23 f24 f25 f26 f27 f28 : Nat → Int32) (n p1 p2 p3 p4 : Int) (qs : Nat → Int) (sz : Nat) (hr_th : (-2147483648) ≤ th ∧ th ≤ 2147483647) (hr_tp : 0 ≤ tp ∧ tp ≤ 600) (hr_sz_ : 0 ≤ sz_ ∧ sz_ ≤ 600) (hr_ap : 0 ≤ ap ∧ ap ≤ 602) (hr_bad : (-1) ≤ bad ∧ bad ≤ 602) (hr_bk : 0 ≤ bk ∧ bk ≤ 4) (hr_opn : 0 ≤ opn ∧ opn ≤ 7) (hr_fp : (-2147483648) ≤ fp ∧ fp ≤ 2147483647) (hr_im : 0 ≤ im ∧ im ≤ 3) (hr_nr : 0 ≤ nr ∧ nr ≤ 4) (hr_nl : 0 ≤ nl ∧ nl ≤ 4) (hr_sp_ : 0 ≤ sp_ ∧ sp_ ≤ 602) (hr_wtc : (-2147483648) ≤ wtc ∧ wtc ≤ 2147483647) (hr_wcl : 0 ≤ wcl ∧ wcl ≤ 95) (hr_ir : 0 ≤ ir ∧ ir ≤ 5) (hr_ip : (-2147483648) ≤ ip ∧ ip ≤ 2147483647) (hr_shu : (-2147483648) ≤ shu ∧ shu ≤ 2147483647) (hr_sfa : (-2147483648) ≤ sfa ∧ sfa ≤ 2147483647) (hr_swr : (-2147483648) ≤ swr ∧ swr ≤ 2147483647) (hr_n : (-2147483648) ≤ n ∧ n ≤ 2147483647) (hr_p1 : (-2147483648) ≤ p1 ∧ p1 ≤ 2147483647) (hr_p2 : (-2147483648) ≤ p2 ∧ p2 ≤ 2147483647) (hr_p3 : (-2147483648) ≤ p3 ∧ p3 ≤ 2147483647) (hr_p4 : (-2147483648) ≤ p4 ∧ p4 ≤ 2147483647) (hn_li : LI nl f23 f24 f25 f26) (hf10 : BI f10) (hf12 : SQ qs 8 f12) : Met l yX12_car vs_m_car ({ frames := 3, cells := 0, slots := 0, locals := 85 }) (va_Pc [vR mm, vI n, vI p1, vI p2, vI p3, vI p4] (pcW D cy sa sz [zO mm 12 [vI th, vR m1, vI tp, vI sz_, vI ap, vI bad, vI bk, vI opn, vI fp, vR m9, vR m10, vR m11, vR m12, vR m13, vR m14, vR m15, vI im, vI nr, vI nl, vR m19, vR m20, vR m21, vI sp_, vR m23, vR m24, vR m25, vR m26, vR m27, vR m28, vI wtc, vI wcl, vI ir, vI ip, vR m33, vI shu, vR m35, vI sfa, vI swr], zI m1 (cy 0) 4 f1, zI m10 (cy 0) 68 f10, zI m12 (cy 0) 389 f12, zI m23 (cy 0) 2480 f23, zI m24 (cy 0) 2480 f24, zI m25 (cy 0) 20 f25, zI m26 (cy 0) 20 f26, zI m27 (cy 0) 620 f27, zI m28 (cy 0) 7 f28])) (va_Qi (fun (r : Int32) (u : SV) => r = iI (u.2.1 0) ∧ ((-2147483648) ≤ u.2.1 1 ∧ u.2.1 1 ≤ 2147483647) ∧ (0 ≤ u.2.1 2 ∧ u.2.1 2 ≤ 5) ∧ ((-2147483648) ≤ u.2.1 3 ∧ u.2.1 3 ≤ 2147483647) ∧ ((-2147483648) ≤ u.2.1 0 ∧ u.2.1 0 ≤ 2147483647) ∧ BI f10 ∧ SQ qs 8 (u.2.2 1)) (fun u t => atW D (va_A [zO mm 12 [vI th, vR m1, vI tp, vI sz_, vI ap, vI bad, vI bk, vI opn, vI fp, vR m9, vR m10, vR m11, vR m12, vR m13, vR m14, vR m15, vI im, vI nr, vI nl, vR m19, vR m20, vR m21, vI sp_, vR m23, vR m24, vR m25, vR m26, vR m27, vR m28, vI wtc, vI wcl, vI ir, vI ip, vR m33, vI shu, vR m35, vI sfa, vI swr], zI m1 (cy 0) 4 f1, zI m10 (cy 0) 68 f10, zI m12 (cy 0) 389 f12, zI m23 (cy 0) 2480 f23, zI m24 (cy 0) 2480 f24, zI m25 (cy 0) 20 f25, zI m26 (cy 0) 20 f26, zI m27 (cy 0) 620 f27, zI m28 (cy 0) 7 f28] sz) [zO mm 12 [vI (u.2.1 1), vR m1, vI tp, vI sz_, vI ap, vI bad, vI bk, vI opn, vI fp, vR m9, vR m10, vR m11, vR m12, vR m13, vR m14, vR m15, vI im, vI nr, vI nl, vR m19, vR m20, vR m21, vI sp_, vR m23, vR m24, vR m25, vR m26, vR m27, vR m28, vI wtc, vI wcl, vI (u.2.1 2), vI (u.2.1 3), vR m33, vI shu, vR m35, vI sfa, vI swr], zI m1 (cy 0) 4 (u.2.2 0), zI m10 (cy 0) 68 f10, zI m12 (cy 0) 389 (u.2.2 1), zI m23 (cy 0) 2480 f23, zI m24 (cy 0) 2480 f24, zI m25 (cy 0) 20 f25, zI m26 (cy 0) 20 f26, zI m27 (cy 0) 620 (u.2.2 2), zI m28 (cy 0) 7 (u.2.2 3)] t) (va_A [zO mm 12 [vI th, vR m1, vI tp, vI sz_, vI ap, vI bad, vI bk, vI opn, vI fp, vR m9, vR m10, vR m11, vR m12, vR m13, vR m14, vR m15, vI im, vI nr, vI nl, vR m19, vR m20, vR m21, vI sp_, vR m23, vR m24, vR m25, vR m26, vR m27, vR m28, vI wtc, vI wcl, vI ir, vI ip, vR m33, vI shu, vR m35, vI sfa, vI swr], zI m1 (cy 0) 4 f1, zI m10 (cy 0) 68 f10, zI m12 (cy 0) 389 f12, zI m23 (cy 0) 2480 f23, zI m24 (cy 0) 2480 f24, zI m25 (cy 0) 20 f25, zI m26 (cy 0) 20 f26, zI m27 (cy 0) 620 f27, zI m28 (cy 0) 7 f28] sz)) 0 0 (va_A [zO mm 12 [vI th, vR m1, vI tp, vI sz_, vI ap, vI bad, vI bk, vI opn, vI fp, vR m9, vR m10, vR m11, vR m12, vR m13, vR m14, vR m15, vI im, vI nr, vI nl, vR m19, vR m20, vR m21, vI sp_, vR m23, vR m24, vR m25, vR m26, vR m27, vR m28, vI wtc, vI wcl, vI ir, vI ip, vR m33, vI shu, vR m35, vI sfa, vI swr], zI m1 (cy 0) 4 f1, zI m10 (cy 0) 68 f10, zI m12 (cy 0) 389 f12, zI m23 (cy 0) 2480 f23, zI m24 (cy 0) 2480 f24, zI m25 (cy 0) 20 f25, zI m26 (cy 0) 20 f26, zI m27 (cy 0) 620 f27, zI m28 (cy 0) 7 f28] sz) := by
  refine Met.ofW (cc := cX12_car) (maxL := 6) (ret := (some .int)) (by decide) rfl ?_
  intro p e s m args below meth c s₁ B hml hv
  obtain ⟨rfl, hsz, hP, hG, hD0, hT⟩ := hv
  have hx := B.exec
  have hb := B.bytes
  have hr := B.returns
  have hts := atoms_spec (ws := vs_m_car) B.pre
  have hown : s.vm.findClass RX12 = some m.cls := findClass_of_methodNamed B.named
  have hlocks := B.notSynchronized
  subst hsz
  have hD := hD0.self (sz := s.heap.size)
  generalize hAe : va_A [zO mm 12 [vI th, vR m1, vI tp, vI sz_, vI ap, vI bad, vI bk, vI opn, vI fp, vR m9, vR m10, vR m11, vR m12, vR m13, vR m14, vR m15, vI im, vI nr, vI nl, vR m19, vR m20, vR m21, vI sp_, vR m23, vR m24, vR m25, vR m26, vR m27, vR m28, vI wtc, vI wcl, vI ir, vI ip, vR m33, vI shu, vR m35, vI sfa, vI swr], zI m1 (cy 0) 4 f1, zI m10 (cy 0) 68 f10, zI m12 (cy 0) 389 f12, zI m23 (cy 0) 2480 f23, zI m24 (cy 0) 2480 f24, zI m25 (cy 0) 20 f25, zI m26 (cy 0) 20 f26, zI m27 (cy 0) 620 f27, zI m28 (cy 0) 7 f28] s.heap.size = A at hD hT ⊢
  have hA : ∀ q : Nat, s.heap.size ≤ q → A q := fun q h => by rw [← hAe]; exact Or.inr h
  have hS : va_S A s.heap s.heap [] := va_S.rf
  have hl0 := lv_entry ([vR mm, vI n, vI p1, vI p2, vI p3, vI p4]) (n := 6) (Nat.le_of_ble_eq_true rfl)
  rw [lg_entry_eq]
  generalize (lg_sl ([vR mm, vI n, vI p1, vI p2, vI p3, vI p4]) ++ List.replicate (6 - (lg_sl ([vR mm, vI n, vI p1, vI p2, vI p3, vI p4])).length) Slot.unset).toArray = ls at hl0 ⊢
  have hlv : lv_has ls 6 [(0, vR mm), (1, vI n), (2, vI p1), (3, vI p2), (4, vI p3), (5, vI p4)] := hl0
  have lf1 := hts (.fieldLink RX12 1 "KerbSplashModel" "thrown" "I") (List.mem_of_getElem? (i := 1) rfl)
  have hi12 : ∀ w ∈ wsX120, w ∈ vs_m_car := fun w h => List.mem_cons_of_mem _ (List.mem_append_right _ (List.mem_append_left _ h))
  have gg_1 : GoodIn vs_m_car (wsV RX12 334 RX12 yX12_isLaw vs_m_isLaw) := goodIn_sub (fun w h => List.mem_cons_of_mem _ (List.mem_append_right _ (List.mem_append_right _ (List.mem_append_left _ h)))) (gd_V gd_m_isLaw (by decide +kernel))
  have gg_2 : GoodIn vs_m_car (wsV RX12 367 RX12 yX12_isCar vs_m_isCar) := goodIn_sub (fun w h => List.mem_cons_of_mem _ (List.mem_append_right _ (List.mem_append_right _ (List.mem_append_right _ (List.mem_append_left _ h))))) (gd_V gd_m_isCar (by decide +kernel))
  have gg_3 : GoodIn vs_m_car (wsV RX12 175 RX12 yX12_may vs_m_may) := goodIn_sub (fun w h => List.mem_cons_of_mem _ (List.mem_append_right _ (List.mem_append_right _ (List.mem_append_right _ (List.mem_append_right _ (List.mem_append_left _ h)))))) (gd_V gd_m_may (by decide +kernel))
  have gg_4 : GoodIn vs_m_car (wsV RX12 371 RX12 yX12_isStreet vs_m_isStreet) := goodIn_sub (fun w h => List.mem_cons_of_mem _ (List.mem_append_right _ (List.mem_append_right _ (List.mem_append_right _ (List.mem_append_right _ (List.mem_append_right _ (List.mem_append_left _ h))))))) (gd_V gd_m_isStreet (by decide +kernel))
  have gg_5 : GoodIn vs_m_car (wsV RX12 374 RX12 yX12_passes vs_m_passes) := goodIn_sub (fun w h => List.mem_cons_of_mem _ (List.mem_append_right _ (List.mem_append_right _ (List.mem_append_right _ (List.mem_append_right _ (List.mem_append_right _ (List.mem_append_right _ (List.mem_append_left _ h)))))))) (gd_V gd_m_passes (by decide +kernel))
  refine lv_aload_n hx hb dX12_car_0 rfl (lv_at hlv 0 rfl) ?_
  refine lv_iconst (v := iI 0) hx hb dX12_car_1 (by decide) ?_
  refine va_put (D := D) (ci := 12) (v := vI 0) (ty := .int) (C := RX12) (T := TX12) (N := 38) hx hb hts hi12 tyX12 tyX12_ok nmX12 hown hG.1 hP hD hS 0 rfl rfl 0 (by decide) lf1 (fun _ h9 => h9) rfl (by decide +kernel) rfl rfl (Nat.le_of_ble_eq_true rfl) dX12_car_2 (fun H locs hP hD hS => ?_)
  have hP : va_P D vwCl [zO mm 12 [vI 0, vR m1, vI tp, vI sz_, vI ap, vI bad, vI bk, vI opn, vI fp, vR m9, vR m10, vR m11, vR m12, vR m13, vR m14, vR m15, vI im, vI nr, vI nl, vR m19, vR m20, vR m21, vI sp_, vR m23, vR m24, vR m25, vR m26, vR m27, vR m28, vI wtc, vI wcl, vI ir, vI ip, vR m33, vI shu, vR m35, vI sfa, vI swr], zI m1 (cy 0) 4 f1, zI m10 (cy 0) 68 f10, zI m12 (cy 0) 389 f12, zI m23 (cy 0) 2480 f23, zI m24 (cy 0) 2480 f24, zI m25 (cy 0) 20 f25, zI m26 (cy 0) 20 f26, zI m27 (cy 0) 620 f27, zI m28 (cy 0) 7 f28] H := hP
  have hD : va_D A [zO mm 12 [vI 0, vR m1, vI tp, vI sz_, vI ap, vI bad, vI bk, vI opn, vI fp, vR m9, vR m10, vR m11, vR m12, vR m13, vR m14, vR m15, vI im, vI nr, vI nl, vR m19, vR m20, vR m21, vI sp_, vR m23, vR m24, vR m25, vR m26, vR m27, vR m28, vI wtc, vI wcl, vI ir, vI ip, vR m33, vI shu, vR m35, vI sfa, vI swr], zI m1 (cy 0) 4 f1, zI m10 (cy 0) 68 f10, zI m12 (cy 0) 389 f12, zI m23 (cy 0) 2480 f23, zI m24 (cy 0) 2480 f24, zI m25 (cy 0) 20 f25, zI m26 (cy 0) 20 f26, zI m27 (cy 0) 620 f27, zI m28 (cy 0) 7 f28] := hD
  refine lv_aload_n hx hb dX12_car_5 rfl (lv_at hlv 0 rfl) ?_
  refine lv_iload_n hx hb dX12_car_6 rfl (lv_at hlv 1 rfl) ?_
  refine lv_iconst (v := iI 1) hx hb dX12_car_7 (by decide) ?_
  refine cj_i (wr := [zI m10 (cy 0) 68 f10, zI m12 (cy 0) 389 f12, zI m23 (cy 0) 2480 f23, zI m24 (cy 0) 2480 f24, zI m25 (cy 0) 20 f25, zI m26 (cy 0) 20 f26, zI m27 (cy 0) 620 f27, zI m28 (cy 0) 7 f28]) (va_runV (As := [vI n, vI 1]) (rest := []) ⟨hx, hb, hml, hown, hts⟩ (m_isLaw l hl D cy sa mm m1 m9 m10 m11 m12 m13 m14 m15 m19 m20 m21 m23 m24 m25 m26 m27 m28 m33 m35 0 tp sz_ ap bad bk opn fp im nr nl sp_ wtc wcl ir ip shu sfa swr f1 n 1 H.size (by show ((-2147483648) : Int) ≤ 0 ∧ (0 : Int) ≤ 2147483647; decide) (by first | exact hr_tp | omega) (by first | exact hr_sz_ | omega) (by first | exact hr_ap | omega) (by first | exact hr_bad | omega) (by first | exact hr_bk | omega) (by first | exact hr_opn | omega) (by first | exact hr_fp | omega) (by first | exact hr_im | omega) (by first | exact hr_nr | omega) (by first | exact hr_nl | omega) (by first | exact hr_sp_ | omega) (by first | exact hr_wtc | omega) (by first | exact hr_wcl | omega) (by first | exact hr_ir | omega) (by first | exact hr_ip | omega) (by first | exact hr_shu | omega) (by first | exact hr_sfa | omega) (by first | exact hr_swr | omega) (by first | exact hr_n | omega) (by show (1 : Int) ≤ 1 ∧ (1 : Int) ≤ 4; decide)) (cwV 2 hts gg_1 rfl rfl rfl (by decide +kernel) ⟨Nat.le_of_ble_eq_true rfl, Nat.le_of_ble_eq_true rfl⟩) ⟨pcW.blind, (va_recv hG.1 hP (ci := 12) (q0 := 0) rfl rfl), (pcW.mk hP hD hS hA hG hT [0, 1] rfl (by decide))⟩ rfl rfl hlv.1 rfl (lv_room (Nat.le_of_ble_eq_true rfl)) dX12_car_8 ⟨Nat.le_of_ble_eq_true rfl, Nat.le_of_ble_eq_true rfl⟩) hP hD hS hA [0, 1] [2, 3, 4, 5, 6, 7, 8, 9] rfl rfl (by decide) (by decide) (fun r1 u1 H locs hw1 hP hD hS => ?_)
  obtain ⟨rfl, hq1_1, hq1_2, hq1_3⟩ := hw1
  have hP : va_P D vwCl [zI m10 (cy 0) 68 f10, zI m12 (cy 0) 389 f12, zI m23 (cy 0) 2480 f23, zI m24 (cy 0) 2480 f24, zI m25 (cy 0) 20 f25, zI m26 (cy 0) 20 f26, zI m27 (cy 0) 620 f27, zI m28 (cy 0) 7 f28, zO mm 12 [vI (u1.2.1 1), vR m1, vI tp, vI sz_, vI ap, vI bad, vI bk, vI opn, vI fp, vR m9, vR m10, vR m11, vR m12, vR m13, vR m14, vR m15, vI im, vI nr, vI nl, vR m19, vR m20, vR m21, vI sp_, vR m23, vR m24, vR m25, vR m26, vR m27, vR m28, vI wtc, vI wcl, vI ir, vI ip, vR m33, vI shu, vR m35, vI sfa, vI swr], zI m1 (cy 0) 4 (u1.2.2 0)] H := hP
  have hD : va_D A [zI m10 (cy 0) 68 f10, zI m12 (cy 0) 389 f12, zI m23 (cy 0) 2480 f23, zI m24 (cy 0) 2480 f24, zI m25 (cy 0) 20 f25, zI m26 (cy 0) 20 f26, zI m27 (cy 0) 620 f27, zI m28 (cy 0) 7 f28, zO mm 12 [vI (u1.2.1 1), vR m1, vI tp, vI sz_, vI ap, vI bad, vI bk, vI opn, vI fp, vR m9, vR m10, vR m11, vR m12, vR m13, vR m14, vR m15, vI im, vI nr, vI nl, vR m19, vR m20, vR m21, vI sp_, vR m23, vR m24, vR m25, vR m26, vR m27, vR m28, vI wtc, vI wcl, vI ir, vI ip, vR m33, vI shu, vR m35, vI sfa, vI swr], zI m1 (cy 0) 4 (u1.2.2 0)] := hD
  refine iz_eq (tgt := 41) hx hb dX12_car_11 (by decide) (by first | exact rgw hq1_2 (by decide) (by decide) | omega) (fun c_1 => ?_) (fun c_1 => ?_)
  · refine lv_iconst (v := iI 0) hx hb dX12_car_41 (by decide) ?_
    refine W.widen (k := 0) (n := 0) (Nat.le_of_ble_eq_true rfl) (Nat.le_of_ble_eq_true rfl) ?_
    exact W.iret (v := iI 0) hx hb hr (fun t ht hW => ⟨⟨iI 0, ((fun k => ([] : List Nat).getD k 0), (fun k => ([0, (u1.2.1 1), ir, ip] : List Int).getD k 0), (fun k => ([(u1.2.2 0), f12, f27, f28] : List (Nat → Int32)).getD k (fun _ => 0))), rfl, ⟨rfl, (by show ((-2147483648) ≤ (u1.2.1 1) ∧ (u1.2.1 1) ≤ 2147483647); first | exact hq1_1 | omega), (by show (0 ≤ ir ∧ ir ≤ 5); first | exact hr_ir | omega), (by show ((-2147483648) ≤ ip ∧ ip ≤ 2147483647); first | exact hr_ip | omega), (by show ((-2147483648) ≤ 0 ∧ 0 ≤ 2147483647); show ((-2147483648) : Int) ≤ 0 ∧ (0 : Int) ≤ 2147483647; decide), hf10, hf12⟩, by rw [ht]; exact hP.sub [8, 9, 0, 1, 2, 3, 4, 5, 6, 7] rfl, hD.sub [8, 9, 0, 1, 2, 3, 4, 5, 6, 7] (by decide) rfl⟩, hS.F ht⟩) hS.2.2 dX12_car_42
  · refine lv_aload_n hx hb dX12_car_14 rfl (lv_at hlv 0 rfl) ?_
    refine lv_aload_n hx hb dX12_car_15 rfl (lv_at hlv 0 rfl) ?_
    refine lv_iload_n hx hb dX12_car_16 rfl (lv_at hlv 2 rfl) ?_
    refine lv_iload_n hx hb dX12_car_17 rfl (lv_at hlv 3 rfl) ?_
    refine lv_iload hx hb dX12_car_18 (lv_at hlv 4 rfl) ?_
    refine lv_iload hx hb dX12_car_20 (lv_at hlv 5 rfl) ?_
    refine cj_i (wr := [zI m12 (cy 0) 389 f12, zI m23 (cy 0) 2480 f23, zI m24 (cy 0) 2480 f24, zI m25 (cy 0) 20 f25, zI m26 (cy 0) 20 f26, zI m27 (cy 0) 620 f27, zI m28 (cy 0) 7 f28, zI m1 (cy 0) 4 (u1.2.2 0)]) (va_runV (As := [vI p1, vI p2, vI p3, vI p4]) (rest := [vR mm]) ⟨hx, hb, hml, hown, hts⟩ (m_isCar l hl D cy sa mm m1 m9 m10 m11 m12 m13 m14 m15 m19 m20 m21 m23 m24 m25 m26 m27 m28 m33 m35 (u1.2.1 1) tp sz_ ap bad bk opn fp im nr nl sp_ wtc wcl ir ip shu sfa swr f10 p1 p2 p3 p4 H.size (by first | exact hq1_1 | omega) (by first | exact hr_tp | omega) (by first | exact hr_sz_ | omega) (by first | exact hr_ap | omega) (by first | exact hr_bad | omega) (by first | exact hr_bk | omega) (by first | exact hr_opn | omega) (by first | exact hr_fp | omega) (by first | exact hr_im | omega) (by first | exact hr_nr | omega) (by first | exact hr_nl | omega) (by first | exact hr_sp_ | omega) (by first | exact hr_wtc | omega) (by first | exact hr_wcl | omega) (by first | exact hr_ir | omega) (by first | exact hr_ip | omega) (by first | exact hr_shu | omega) (by first | exact hr_sfa | omega) (by first | exact hr_swr | omega) (by first | exact hr_p1 | omega) (by first | exact hr_p2 | omega) (by first | exact hr_p3 | omega) (by first | exact hr_p4 | omega) hf10) (cwV 4 hts gg_2 rfl rfl rfl (by decide +kernel) ⟨Nat.le_of_ble_eq_true rfl, Nat.le_of_ble_eq_true rfl⟩) ⟨pcW.blind, (va_recv hG.1 hP (ci := 12) (q0 := 8) rfl rfl), (pcW.mk hP hD hS hA hG hT [8, 0] rfl (by decide))⟩ rfl rfl hlv.1 rfl (lv_room (Nat.le_of_ble_eq_true rfl)) dX12_car_22 ⟨Nat.le_of_ble_eq_true rfl, Nat.le_of_ble_eq_true rfl⟩) hP hD hS hA [8, 0] [1, 2, 3, 4, 5, 6, 7, 9] rfl rfl (by decide) (by decide) (fun r2 u2 H locs hw2 hP hD hS => ?_)
    obtain ⟨rfl, hq2_1, hq2_2, hq2_3⟩ := hw2
    have hP : va_P D vwCl [zI m12 (cy 0) 389 f12, zI m23 (cy 0) 2480 f23, zI m24 (cy 0) 2480 f24, zI m25 (cy 0) 20 f25, zI m26 (cy 0) 20 f26, zI m27 (cy 0) 620 f27, zI m28 (cy 0) 7 f28, zI m1 (cy 0) 4 (u1.2.2 0), zO mm 12 [vI (u1.2.1 1), vR m1, vI tp, vI sz_, vI ap, vI bad, vI bk, vI opn, vI fp, vR m9, vR m10, vR m11, vR m12, vR m13, vR m14, vR m15, vI im, vI nr, vI nl, vR m19, vR m20, vR m21, vI sp_, vR m23, vR m24, vR m25, vR m26, vR m27, vR m28, vI wtc, vI wcl, vI ir, vI ip, vR m33, vI shu, vR m35, vI sfa, vI swr], zI m10 (cy 0) 68 f10] H := hP
    have hD : va_D A [zI m12 (cy 0) 389 f12, zI m23 (cy 0) 2480 f23, zI m24 (cy 0) 2480 f24, zI m25 (cy 0) 20 f25, zI m26 (cy 0) 20 f26, zI m27 (cy 0) 620 f27, zI m28 (cy 0) 7 f28, zI m1 (cy 0) 4 (u1.2.2 0), zO mm 12 [vI (u1.2.1 1), vR m1, vI tp, vI sz_, vI ap, vI bad, vI bk, vI opn, vI fp, vR m9, vR m10, vR m11, vR m12, vR m13, vR m14, vR m15, vI im, vI nr, vI nl, vR m19, vR m20, vR m21, vI sp_, vR m23, vR m24, vR m25, vR m26, vR m27, vR m28, vI wtc, vI wcl, vI ir, vI ip, vR m33, vI shu, vR m35, vI sfa, vI swr], zI m10 (cy 0) 68 f10] := hD
    refine lv_iconst (v := iI 2) hx hb dX12_car_25 (by decide) ?_
    refine lv_iconst (v := iI 2) hx hb dX12_car_26 (by decide) ?_
    refine cj_i (wr := [zI m12 (cy 0) 389 f12, zI m23 (cy 0) 2480 f23, zI m24 (cy 0) 2480 f24, zI m25 (cy 0) 20 f25, zI m26 (cy 0) 20 f26, zI m27 (cy 0) 620 f27, zI m28 (cy 0) 7 f28, zI m10 (cy 0) 68 f10]) (va_runV (As := [vI (u2.2.1 0), vI 2, vI 2]) (rest := []) ⟨hx, hb, hml, hown, hts⟩ (m_may l hl D cy sa mm m1 m9 m10 m11 m12 m13 m14 m15 m19 m20 m21 m23 m24 m25 m26 m27 m28 m33 m35 (u1.2.1 1) tp sz_ ap bad bk opn fp im nr nl sp_ wtc wcl ir ip shu sfa swr (u1.2.2 0) (u2.2.1 0) 2 2 H.size (by first | exact hq1_1 | omega) (by first | exact hr_tp | omega) (by first | exact hr_sz_ | omega) (by first | exact hr_ap | omega) (by first | exact hr_bad | omega) (by first | exact hr_bk | omega) (by first | exact hr_opn | omega) (by first | exact hr_fp | omega) (by first | exact hr_im | omega) (by first | exact hr_nr | omega) (by first | exact hr_nl | omega) (by first | exact hr_sp_ | omega) (by first | exact hr_wtc | omega) (by first | exact hr_wcl | omega) (by first | exact hr_ir | omega) (by first | exact hr_ip | omega) (by first | exact hr_shu | omega) (by first | exact hr_sfa | omega) (by first | exact hr_swr | omega) (by first | exact hq2_1 | omega) (by show (1 : Int) ≤ 2 ∧ (2 : Int) ≤ 4; decide) (by show (0 : Int) ≤ 2 ∧ (2 : Int) ≤ 3; decide)) (cwV 3 hts gg_3 rfl rfl rfl (by decide +kernel) ⟨Nat.le_of_ble_eq_true rfl, Nat.le_of_ble_eq_true rfl⟩) ⟨pcW.blind, (va_recv hG.1 hP (ci := 12) (q0 := 8) rfl rfl), (pcW.mk hP hD hS hA hG hT [8, 7] rfl (by decide))⟩ rfl rfl hlv.1 rfl (lv_room (Nat.le_of_ble_eq_true rfl)) dX12_car_27 ⟨Nat.le_of_ble_eq_true rfl, Nat.le_of_ble_eq_true rfl⟩) hP hD hS hA [8, 7] [0, 1, 2, 3, 4, 5, 6, 9] rfl rfl (by decide) (by decide) (fun r3 u3 H locs hw3 hP hD hS => ?_)
    obtain ⟨rfl, hq3_1, hq3_2, hq3_3, hq3_4⟩ := hw3
    have hP : va_P D vwCl [zI m12 (cy 0) 389 f12, zI m23 (cy 0) 2480 f23, zI m24 (cy 0) 2480 f24, zI m25 (cy 0) 20 f25, zI m26 (cy 0) 20 f26, zI m27 (cy 0) 620 f27, zI m28 (cy 0) 7 f28, zI m10 (cy 0) 68 f10, zO mm 12 [vI (u3.2.1 1), vR m1, vI tp, vI sz_, vI ap, vI bad, vI bk, vI opn, vI fp, vR m9, vR m10, vR m11, vR m12, vR m13, vR m14, vR m15, vI im, vI nr, vI nl, vR m19, vR m20, vR m21, vI sp_, vR m23, vR m24, vR m25, vR m26, vR m27, vR m28, vI wtc, vI wcl, vI ir, vI ip, vR m33, vI shu, vR m35, vI sfa, vI swr], zI m1 (cy 0) 4 (u3.2.2 0)] H := hP
    have hD : va_D A [zI m12 (cy 0) 389 f12, zI m23 (cy 0) 2480 f23, zI m24 (cy 0) 2480 f24, zI m25 (cy 0) 20 f25, zI m26 (cy 0) 20 f26, zI m27 (cy 0) 620 f27, zI m28 (cy 0) 7 f28, zI m10 (cy 0) 68 f10, zO mm 12 [vI (u3.2.1 1), vR m1, vI tp, vI sz_, vI ap, vI bad, vI bk, vI opn, vI fp, vR m9, vR m10, vR m11, vR m12, vR m13, vR m14, vR m15, vI im, vI nr, vI nl, vR m19, vR m20, vR m21, vI sp_, vR m23, vR m24, vR m25, vR m26, vR m27, vR m28, vI wtc, vI wcl, vI ir, vI ip, vR m33, vI shu, vR m35, vI sfa, vI swr], zI m1 (cy 0) 4 (u3.2.2 0)] := hD
    refine iz_eq (tgt := 41) hx hb dX12_car_30 (by decide) (by first | exact rgw hq3_2 (by decide) (by decide) | omega) (fun c_2 => ?_) (fun c_2 => ?_)
    · refine lv_iconst (v := iI 0) hx hb dX12_car_41 (by decide) ?_
      refine W.widen (k := 0) (n := 0) (Nat.le_of_ble_eq_true rfl) (Nat.le_of_ble_eq_true rfl) ?_
      exact W.iret (v := iI 0) hx hb hr (fun t ht hW => ⟨⟨iI 0, ((fun k => ([] : List Nat).getD k 0), (fun k => ([0, (u3.2.1 1), ir, ip] : List Int).getD k 0), (fun k => ([(u3.2.2 0), f12, f27, f28] : List (Nat → Int32)).getD k (fun _ => 0))), rfl, ⟨rfl, (by show ((-2147483648) ≤ (u3.2.1 1) ∧ (u3.2.1 1) ≤ 2147483647); first | exact hq3_1 | omega), (by show (0 ≤ ir ∧ ir ≤ 5); first | exact hr_ir | omega), (by show ((-2147483648) ≤ ip ∧ ip ≤ 2147483647); first | exact hr_ip | omega), (by show ((-2147483648) ≤ 0 ∧ 0 ≤ 2147483647); show ((-2147483648) : Int) ≤ 0 ∧ (0 : Int) ≤ 2147483647; decide), hq2_3, hf12⟩, by rw [ht]; exact hP.sub [8, 9, 7, 0, 1, 2, 3, 4, 5, 6] rfl, hD.sub [8, 9, 7, 0, 1, 2, 3, 4, 5, 6] (by decide) rfl⟩, hS.F ht⟩) hS.2.2 dX12_car_42
    · refine lv_aload_n hx hb dX12_car_33 rfl (lv_at hlv 0 rfl) ?_
      refine lv_iconst (v := iI 3) hx hb dX12_car_34 (by decide) ?_
      refine cj_i (wr := [zI m12 (cy 0) 389 f12, zI m23 (cy 0) 2480 f23, zI m24 (cy 0) 2480 f24, zI m25 (cy 0) 20 f25, zI m26 (cy 0) 20 f26, zI m27 (cy 0) 620 f27, zI m28 (cy 0) 7 f28]) (va_runV (As := [vI 3]) (rest := []) ⟨hx, hb, hml, hown, hts⟩ (m_isStreet l hl D cy sa mm m1 m9 m10 m11 m12 m13 m14 m15 m19 m20 m21 m23 m24 m25 m26 m27 m28 m33 m35 (u3.2.1 1) tp sz_ ap bad bk opn fp im nr nl sp_ wtc wcl ir ip shu sfa swr (u3.2.2 0) f10 3 H.size (by first | exact hq3_1 | omega) (by first | exact hr_tp | omega) (by first | exact hr_sz_ | omega) (by first | exact hr_ap | omega) (by first | exact hr_bad | omega) (by first | exact hr_bk | omega) (by first | exact hr_opn | omega) (by first | exact hr_fp | omega) (by first | exact hr_im | omega) (by first | exact hr_nr | omega) (by first | exact hr_nl | omega) (by first | exact hr_sp_ | omega) (by first | exact hr_wtc | omega) (by first | exact hr_wcl | omega) (by first | exact hr_ir | omega) (by first | exact hr_ip | omega) (by first | exact hr_shu | omega) (by first | exact hr_sfa | omega) (by first | exact hr_swr | omega) (by show (1 : Int) ≤ 3 ∧ (3 : Int) ≤ 4; decide) hq2_3) (cwV 1 hts gg_4 rfl rfl rfl (by decide +kernel) ⟨Nat.le_of_ble_eq_true rfl, Nat.le_of_ble_eq_true rfl⟩) ⟨pcW.blind, (va_recv hG.1 hP (ci := 12) (q0 := 8) rfl rfl), (pcW.mk hP hD hS hA hG hT [8, 9, 7] rfl (by decide))⟩ rfl rfl hlv.1 rfl (lv_room (Nat.le_of_ble_eq_true rfl)) dX12_car_35 ⟨Nat.le_of_ble_eq_true rfl, Nat.le_of_ble_eq_true rfl⟩) hP hD hS hA [8, 9, 7] [0, 1, 2, 3, 4, 5, 6] rfl rfl (by decide) (by decide) (fun r4 u4 H locs hw4 hP hD hS => ?_)
      obtain ⟨rfl, hq4_1, hq4_2, hq4_3, hq4_4⟩ := hw4
      have hP : va_P D vwCl [zI m12 (cy 0) 389 f12, zI m23 (cy 0) 2480 f23, zI m24 (cy 0) 2480 f24, zI m25 (cy 0) 20 f25, zI m26 (cy 0) 20 f26, zI m27 (cy 0) 620 f27, zI m28 (cy 0) 7 f28, zO mm 12 [vI (u4.2.1 1), vR m1, vI tp, vI sz_, vI ap, vI bad, vI bk, vI opn, vI fp, vR m9, vR m10, vR m11, vR m12, vR m13, vR m14, vR m15, vI im, vI nr, vI nl, vR m19, vR m20, vR m21, vI sp_, vR m23, vR m24, vR m25, vR m26, vR m27, vR m28, vI wtc, vI wcl, vI ir, vI ip, vR m33, vI shu, vR m35, vI sfa, vI swr], zI m1 (cy 0) 4 (u4.2.2 0), zI m10 (cy 0) 68 f10] H := hP
      have hD : va_D A [zI m12 (cy 0) 389 f12, zI m23 (cy 0) 2480 f23, zI m24 (cy 0) 2480 f24, zI m25 (cy 0) 20 f25, zI m26 (cy 0) 20 f26, zI m27 (cy 0) 620 f27, zI m28 (cy 0) 7 f28, zO mm 12 [vI (u4.2.1 1), vR m1, vI tp, vI sz_, vI ap, vI bad, vI bk, vI opn, vI fp, vR m9, vR m10, vR m11, vR m12, vR m13, vR m14, vR m15, vI im, vI nr, vI nl, vR m19, vR m20, vR m21, vI sp_, vR m23, vR m24, vR m25, vR m26, vR m27, vR m28, vI wtc, vI wcl, vI ir, vI ip, vR m33, vI shu, vR m35, vI sfa, vI swr], zI m1 (cy 0) 4 (u4.2.2 0), zI m10 (cy 0) 68 f10] := hD
      refine iz_ne (tgt := 43) hx hb dX12_car_38 (by decide) (by first | exact rgw hq4_2 (by decide) (by decide) | omega) (fun c_3 => ?_) (fun c_3 => ?_)
      · refine lv_aload_n hx hb dX12_car_43 rfl (lv_at hlv 0 rfl) ?_
        refine lv_iload_n hx hb dX12_car_44 rfl (lv_at hlv 1 rfl) ?_
        refine lv_iload_n hx hb dX12_car_45 rfl (lv_at hlv 2 rfl) ?_
        refine lv_iload_n hx hb dX12_car_46 rfl (lv_at hlv 3 rfl) ?_
        refine lv_iload hx hb dX12_car_47 (lv_at hlv 4 rfl) ?_
        refine lv_iload hx hb dX12_car_49 (lv_at hlv 5 rfl) ?_
        refine cj_i (wr := [zI m1 (cy 0) 4 (u4.2.2 0)]) (va_runV (As := [vI n, vI p1, vI p2, vI p3, vI p4]) (rest := []) ⟨hx, hb, hml, hown, hts⟩ (m_passes l hl D cy sa mm m1 m9 m10 m11 m12 m13 m14 m15 m19 m20 m21 m23 m24 m25 m26 m27 m28 m33 m35 (u4.2.1 1) tp sz_ ap bad bk opn fp im nr nl sp_ wtc wcl ir ip shu sfa swr f10 f12 f23 f24 f25 f26 f27 f28 n p1 p2 p3 p4 qs 8 H.size (by first | exact hq4_1 | omega) (by first | exact hr_tp | omega) (by first | exact hr_sz_ | omega) (by first | exact hr_ap | omega) (by first | exact hr_bad | omega) (by first | exact hr_bk | omega) (by first | exact hr_opn | omega) (by first | exact hr_fp | omega) (by first | exact hr_im | omega) (by first | exact hr_nr | omega) (by first | exact hr_nl | omega) (by first | exact hr_sp_ | omega) (by first | exact hr_wtc | omega) (by first | exact hr_wcl | omega) (by first | exact hr_ir | omega) (by first | exact hr_ip | omega) (by first | exact hr_shu | omega) (by first | exact hr_sfa | omega) (by first | exact hr_swr | omega) (by omega) (by omega) (by first | exact hr_p2 | omega) (by first | exact hr_p3 | omega) (by first | exact hr_p4 | omega) (by show (8 : Int) ≤ 8 ∧ (8 : Int) ≤ 9; decide) (by omega) (by omega) hn_li hq4_4 hf12) (cwV 5 hts gg_5 rfl rfl rfl (by decide +kernel) ⟨Nat.le_of_ble_eq_true rfl, Nat.le_of_ble_eq_true rfl⟩) ⟨pcW.blind, (va_recv hG.1 hP (ci := 12) (q0 := 7) rfl rfl), (pcW.mk hP hD hS hA hG hT [7, 9, 0, 1, 2, 3, 4, 5, 6] rfl (by decide))⟩ rfl rfl hlv.1 rfl (lv_room (Nat.le_of_ble_eq_true rfl)) dX12_car_51 ⟨Nat.le_of_ble_eq_true rfl, Nat.le_of_ble_eq_true rfl⟩) hP hD hS hA [7, 9, 0, 1, 2, 3, 4, 5, 6] [8] rfl rfl (by decide) (by decide) (fun r5 u5 H locs hw5 hP hD hS => ?_)
        obtain ⟨rfl, hq5_1, hq5_2, hq5_3, hq5_4, hq5_5⟩ := hw5
        have hP : va_P D vwCl [zI m1 (cy 0) 4 (u4.2.2 0), zO mm 12 [vI (u4.2.1 1), vR m1, vI tp, vI sz_, vI ap, vI bad, vI bk, vI opn, vI fp, vR m9, vR m10, vR m11, vR m12, vR m13, vR m14, vR m15, vI im, vI nr, vI nl, vR m19, vR m20, vR m21, vI sp_, vR m23, vR m24, vR m25, vR m26, vR m27, vR m28, vI wtc, vI wcl, vI (u5.2.1 1), vI (u5.2.1 2), vR m33, vI shu, vR m35, vI sfa, vI swr], zI m10 (cy 0) 68 f10, zI m12 (cy 0) 389 (u5.2.2 0), zI m23 (cy 0) 2480 f23, zI m24 (cy 0) 2480 f24, zI m25 (cy 0) 20 f25, zI m26 (cy 0) 20 f26, zI m27 (cy 0) 620 (u5.2.2 1), zI m28 (cy 0) 7 (u5.2.2 2)] H := hP
        have hD : va_D A [zI m1 (cy 0) 4 (u4.2.2 0), zO mm 12 [vI (u4.2.1 1), vR m1, vI tp, vI sz_, vI ap, vI bad, vI bk, vI opn, vI fp, vR m9, vR m10, vR m11, vR m12, vR m13, vR m14, vR m15, vI im, vI nr, vI nl, vR m19, vR m20, vR m21, vI sp_, vR m23, vR m24, vR m25, vR m26, vR m27, vR m28, vI wtc, vI wcl, vI (u5.2.1 1), vI (u5.2.1 2), vR m33, vI shu, vR m35, vI sfa, vI swr], zI m10 (cy 0) 68 f10, zI m12 (cy 0) 389 (u5.2.2 0), zI m23 (cy 0) 2480 f23, zI m24 (cy 0) 2480 f24, zI m25 (cy 0) 20 f25, zI m26 (cy 0) 20 f26, zI m27 (cy 0) 620 (u5.2.2 1), zI m28 (cy 0) 7 (u5.2.2 2)] := hD
        refine W.widen (k := 0) (n := 0) (Nat.le_of_ble_eq_true rfl) (Nat.le_of_ble_eq_true rfl) ?_
        exact W.iret (v := iI (u5.2.1 0)) hx hb hr (fun t ht hW => ⟨⟨iI (u5.2.1 0), ((fun k => ([] : List Nat).getD k 0), (fun k => ([(u5.2.1 0), (u4.2.1 1), (u5.2.1 1), (u5.2.1 2)] : List Int).getD k 0), (fun k => ([(u4.2.2 0), (u5.2.2 0), (u5.2.2 1), (u5.2.2 2)] : List (Nat → Int32)).getD k (fun _ => 0))), rfl, ⟨rfl, (by show ((-2147483648) ≤ (u4.2.1 1) ∧ (u4.2.1 1) ≤ 2147483647); first | exact hq4_1 | omega), (by show (0 ≤ (u5.2.1 1) ∧ (u5.2.1 1) ≤ 5); first | exact hq5_1 | omega), (by show ((-2147483648) ≤ (u5.2.1 2) ∧ (u5.2.1 2) ≤ 2147483647); first | exact hq5_2 | omega), (by show ((-2147483648) ≤ (u5.2.1 0) ∧ (u5.2.1 0) ≤ 2147483647); first | exact hq5_3 | omega), hq5_4, hq5_5⟩, by rw [ht]; exact hP.sub [1, 0, 2, 3, 4, 5, 6, 7, 8, 9] rfl, hD.sub [1, 0, 2, 3, 4, 5, 6, 7, 8, 9] (by decide) rfl⟩, hS.F ht⟩) hS.2.2 dX12_car_54
      · refine lv_iconst (v := iI 0) hx hb dX12_car_41 (by decide) ?_
        refine W.widen (k := 0) (n := 0) (Nat.le_of_ble_eq_true rfl) (Nat.le_of_ble_eq_true rfl) ?_
        exact W.iret (v := iI 0) hx hb hr (fun t ht hW => ⟨⟨iI 0, ((fun k => ([] : List Nat).getD k 0), (fun k => ([0, (u4.2.1 1), ir, ip] : List Int).getD k 0), (fun k => ([(u4.2.2 0), f12, f27, f28] : List (Nat → Int32)).getD k (fun _ => 0))), rfl, ⟨rfl, (by show ((-2147483648) ≤ (u4.2.1 1) ∧ (u4.2.1 1) ≤ 2147483647); first | exact hq4_1 | omega), (by show (0 ≤ ir ∧ ir ≤ 5); first | exact hr_ir | omega), (by show ((-2147483648) ≤ ip ∧ ip ≤ 2147483647); first | exact hr_ip | omega), (by show ((-2147483648) ≤ 0 ∧ 0 ≤ 2147483647); show ((-2147483648) : Int) ≤ 0 ∧ (0 : Int) ≤ 2147483647; decide), hq4_4, hf12⟩, by rw [ht]; exact hP.sub [7, 8, 9, 0, 1, 2, 3, 4, 5, 6] rfl, hD.sub [7, 8, 9, 0, 1, 2, 3, 4, 5, 6] (by decide) rfl⟩, hS.F ht⟩) hS.2.2 dX12_car_42
def vs_m_allPass : List Cond := .code yX12_allPass cX12_allPass 6 (some .int) :: (([.fieldLink RX12 29 "KerbSplashModel" "s" "[I"] : List Cond) ++ ((wsX120) ++ ((wsV RX12 374 RX12 yX12_passes vs_m_passes) ++ ((wsV RX12 309 RX12 yX12_round vs_m_round) ++ ([])))))
theorem gd_m_allPass : vs_m_allPass.all goodWord = true := gd_C (by decide +kernel) (gd_A (by decide +kernel) (gd_A (by decide +kernel) (gd_A (gd_V gd_m_passes (by decide +kernel)) (gd_A (gd_V gd_m_round (by decide +kernel)) rfl))))
set_option maxHeartbeats 4000000 in
set_option maxRecDepth 100000 in
theorem m_allPass (l : Launch) (hl : l.stackTraces = false) (D : va_G) (cy : Nat → ClassId) (sa : Nat → Nat) (mm m1 m9 m10 m11 m12 m13 m14 m15 m19 m20 m21 m23 m24 m25 m26 m27 m28 m33 m35 : Nat) (th tp sz_ ap bad bk opn fp im nr nl sp_ wtc wcl ir ip shu sfa swr : Int) (f10 f12 f23 f24 f25 f26 f27 f28 : Nat → Int32) (n : Int) (qs : Nat → Int) (pm : Int) (sz : Nat) (hr_th : (-2147483648) ≤ th ∧ th ≤ 2147483647) (hr_tp : 0 ≤ tp ∧ tp ≤ 600) (hr_sz_ : 0 ≤ sz_ ∧ sz_ ≤ 600) (hr_ap : 0 ≤ ap ∧ ap ≤ 602) (hr_bad : (-1) ≤ bad ∧ bad ≤ 602) (hr_bk : 0 ≤ bk ∧ bk ≤ 4) (hr_opn : 0 ≤ opn ∧ opn ≤ 7) (hr_fp : (-2147483648) ≤ fp ∧ fp ≤ 2147483647) (hr_im : 0 ≤ im ∧ im ≤ 3) (hr_nr : 0 ≤ nr ∧ nr ≤ 4) (hr_nl : 0 ≤ nl ∧ nl ≤ 4) (hr_sp_ : 0 ≤ sp_ ∧ sp_ ≤ 602) (hr_wtc : (-2147483648) ≤ wtc ∧ wtc ≤ 2147483647) (hr_wcl : 0 ≤ wcl ∧ wcl ≤ 95) (hr_ir : 0 ≤ ir ∧ ir ≤ 5) (hr_ip : (-2147483648) ≤ ip ∧ ip ≤ 2147483647) (hr_shu : (-2147483648) ≤ shu ∧ shu ≤ 2147483647) (hr_sfa : (-2147483648) ≤ sfa ∧ sfa ≤ 2147483647) (hr_swr : (-2147483648) ≤ swr ∧ swr ≤ 2147483647) (hr_n : 0 ≤ n ∧ n ≤ 3) (hr_pm : 8 ≤ pm ∧ pm ≤ 9) (hp0 : 1 ≤ nz f10 1) (hp1 : n < nl) (hn_li : LI nl f23 f24 f25 f26) (hf10 : BI f10) (hf12 : SQ qs pm f12) : Met l yX12_allPass vs_m_allPass ({ frames := 3, cells := 0, slots := 0, locals := 85 }) (va_Pc [vR mm, vI n] (pcW D cy sa sz [zO mm 12 [vI th, vR m1, vI tp, vI sz_, vI ap, vI bad, vI bk, vI opn, vI fp, vR m9, vR m10, vR m11, vR m12, vR m13, vR m14, vR m15, vI im, vI nr, vI nl, vR m19, vR m20, vR m21, vI sp_, vR m23, vR m24, vR m25, vR m26, vR m27, vR m28, vI wtc, vI wcl, vI ir, vI ip, vR m33, vI shu, vR m35, vI sfa, vI swr], zI m10 (cy 0) 68 f10, zI m12 (cy 0) 389 f12, zI m23 (cy 0) 2480 f23, zI m24 (cy 0) 2480 f24, zI m25 (cy 0) 20 f25, zI m26 (cy 0) 20 f26, zI m27 (cy 0) 620 f27, zI m28 (cy 0) 7 f28])) (va_Qi (fun (r : Int32) (u : SV) => r = iI (u.2.1 0) ∧ (0 ≤ u.2.1 1 ∧ u.2.1 1 ≤ 5) ∧ ((-2147483648) ≤ u.2.1 2 ∧ u.2.1 2 ≤ 2147483647) ∧ ((-2147483648) ≤ u.2.1 0 ∧ u.2.1 0 ≤ 2147483647) ∧ BI f10 ∧ SQ qs pm (u.2.2 0)) (fun u t => atW D (va_A [zO mm 12 [vI th, vR m1, vI tp, vI sz_, vI ap, vI bad, vI bk, vI opn, vI fp, vR m9, vR m10, vR m11, vR m12, vR m13, vR m14, vR m15, vI im, vI nr, vI nl, vR m19, vR m20, vR m21, vI sp_, vR m23, vR m24, vR m25, vR m26, vR m27, vR m28, vI wtc, vI wcl, vI ir, vI ip, vR m33, vI shu, vR m35, vI sfa, vI swr], zI m10 (cy 0) 68 f10, zI m12 (cy 0) 389 f12, zI m23 (cy 0) 2480 f23, zI m24 (cy 0) 2480 f24, zI m25 (cy 0) 20 f25, zI m26 (cy 0) 20 f26, zI m27 (cy 0) 620 f27, zI m28 (cy 0) 7 f28] sz) [zO mm 12 [vI th, vR m1, vI tp, vI sz_, vI ap, vI bad, vI bk, vI opn, vI fp, vR m9, vR m10, vR m11, vR m12, vR m13, vR m14, vR m15, vI im, vI nr, vI nl, vR m19, vR m20, vR m21, vI sp_, vR m23, vR m24, vR m25, vR m26, vR m27, vR m28, vI wtc, vI wcl, vI (u.2.1 1), vI (u.2.1 2), vR m33, vI shu, vR m35, vI sfa, vI swr], zI m10 (cy 0) 68 f10, zI m12 (cy 0) 389 (u.2.2 0), zI m23 (cy 0) 2480 f23, zI m24 (cy 0) 2480 f24, zI m25 (cy 0) 20 f25, zI m26 (cy 0) 20 f26, zI m27 (cy 0) 620 (u.2.2 1), zI m28 (cy 0) 7 (u.2.2 2)] t) (va_A [zO mm 12 [vI th, vR m1, vI tp, vI sz_, vI ap, vI bad, vI bk, vI opn, vI fp, vR m9, vR m10, vR m11, vR m12, vR m13, vR m14, vR m15, vI im, vI nr, vI nl, vR m19, vR m20, vR m21, vI sp_, vR m23, vR m24, vR m25, vR m26, vR m27, vR m28, vI wtc, vI wcl, vI ir, vI ip, vR m33, vI shu, vR m35, vI sfa, vI swr], zI m10 (cy 0) 68 f10, zI m12 (cy 0) 389 f12, zI m23 (cy 0) 2480 f23, zI m24 (cy 0) 2480 f24, zI m25 (cy 0) 20 f25, zI m26 (cy 0) 20 f26, zI m27 (cy 0) 620 f27, zI m28 (cy 0) 7 f28] sz)) 0 0 (va_A [zO mm 12 [vI th, vR m1, vI tp, vI sz_, vI ap, vI bad, vI bk, vI opn, vI fp, vR m9, vR m10, vR m11, vR m12, vR m13, vR m14, vR m15, vI im, vI nr, vI nl, vR m19, vR m20, vR m21, vI sp_, vR m23, vR m24, vR m25, vR m26, vR m27, vR m28, vI wtc, vI wcl, vI ir, vI ip, vR m33, vI shu, vR m35, vI sfa, vI swr], zI m10 (cy 0) 68 f10, zI m12 (cy 0) 389 f12, zI m23 (cy 0) 2480 f23, zI m24 (cy 0) 2480 f24, zI m25 (cy 0) 20 f25, zI m26 (cy 0) 20 f26, zI m27 (cy 0) 620 f27, zI m28 (cy 0) 7 f28] sz) := by
  refine Met.ofW (cc := cX12_allPass) (maxL := 6) (ret := (some .int)) (by decide) rfl ?_
  intro p e s m args below meth c s₁ B hml hv
  obtain ⟨rfl, hsz, hP, hG, hD0, hT⟩ := hv
  have hx := B.exec
  have hb := B.bytes
  have hr := B.returns
  have hts := atoms_spec (ws := vs_m_allPass) B.pre
  have hown : s.vm.findClass RX12 = some m.cls := findClass_of_methodNamed B.named
  have hlocks := B.notSynchronized
  subst hsz
  have hD := hD0.self (sz := s.heap.size)
  generalize hAe : va_A [zO mm 12 [vI th, vR m1, vI tp, vI sz_, vI ap, vI bad, vI bk, vI opn, vI fp, vR m9, vR m10, vR m11, vR m12, vR m13, vR m14, vR m15, vI im, vI nr, vI nl, vR m19, vR m20, vR m21, vI sp_, vR m23, vR m24, vR m25, vR m26, vR m27, vR m28, vI wtc, vI wcl, vI ir, vI ip, vR m33, vI shu, vR m35, vI sfa, vI swr], zI m10 (cy 0) 68 f10, zI m12 (cy 0) 389 f12, zI m23 (cy 0) 2480 f23, zI m24 (cy 0) 2480 f24, zI m25 (cy 0) 20 f25, zI m26 (cy 0) 20 f26, zI m27 (cy 0) 620 f27, zI m28 (cy 0) 7 f28] s.heap.size = A at hD hT ⊢
  have hA : ∀ q : Nat, s.heap.size ≤ q → A q := fun q h => by rw [← hAe]; exact Or.inr h
  have hS : va_S A s.heap s.heap [] := va_S.rf
  have hl0 := lv_entry ([vR mm, vI n]) (n := 6) (Nat.le_of_ble_eq_true rfl)
  rw [lg_entry_eq]
  generalize (lg_sl ([vR mm, vI n]) ++ List.replicate (6 - (lg_sl ([vR mm, vI n])).length) Slot.unset).toArray = ls at hl0 ⊢
  have hlv : lv_has ls 6 [(0, vR mm), (1, vI n)] := hl0
  have lf29 := hts (.fieldLink RX12 29 "KerbSplashModel" "s" "[I") (List.mem_of_getElem? (i := 1) rfl)
  have hi12 : ∀ w ∈ wsX120, w ∈ vs_m_allPass := fun w h => List.mem_cons_of_mem _ (List.mem_append_right _ (List.mem_append_left _ h))
  have gg_1 : GoodIn vs_m_allPass (wsV RX12 374 RX12 yX12_passes vs_m_passes) := goodIn_sub (fun w h => List.mem_cons_of_mem _ (List.mem_append_right _ (List.mem_append_right _ (List.mem_append_left _ h)))) (gd_V gd_m_passes (by decide +kernel))
  have gg_2 : GoodIn vs_m_allPass (wsV RX12 309 RX12 yX12_round vs_m_round) := goodIn_sub (fun w h => List.mem_cons_of_mem _ (List.mem_append_right _ (List.mem_append_right _ (List.mem_append_right _ (List.mem_append_left _ h))))) (gd_V gd_m_round (by decide +kernel))
  refine lv_iconst (v := iI 0) hx hb dX12_allPass_0 (by decide) ?_
  refine lv_istore_n (lv' := [(2, vI 0), (0, vR mm), (1, vI n)]) hx hb dX12_allPass_1 rfl hlv (by decide) rfl (fun ls hlv => ?_)
  refine lv_iconst (v := iI 0) hx hb dX12_allPass_2 (by decide) ?_
  refine lv_istore_n (lv' := [(3, vI 0), (2, vI 0), (0, vR mm), (1, vI n)]) hx hb dX12_allPass_3 rfl hlv (by decide) rfl (fun ls hlv => ?_)
  refine (?_ : ∀ (fu : Nat) (q2 : Int) (q3 : Int) (qi : Int) (qp : Int) (wg : Nat → Int32) (kg : Nat → Int32) (ng : Nat → Int32) (H : Heap) (locs : List Loc) (ls : Array Slot), 20 - q3 < (fu : Int) → ((-2147483648) ≤ q2 ∧ q2 ≤ 2147483647) → (0 ≤ q3 ∧ q3 ≤ 20) → (0 ≤ qi ∧ qi ≤ 5) → ((-2147483648) ≤ qp ∧ qp ≤ 2147483647) → SQ qs pm wg → va_P D vwCl [zO mm 12 [vI th, vR m1, vI tp, vI sz_, vI ap, vI bad, vI bk, vI opn, vI fp, vR m9, vR m10, vR m11, vR m12, vR m13, vR m14, vR m15, vI im, vI nr, vI nl, vR m19, vR m20, vR m21, vI sp_, vR m23, vR m24, vR m25, vR m26, vR m27, vR m28, vI wtc, vI wcl, vI qi, vI qp, vR m33, vI shu, vR m35, vI sfa, vI swr], zI m10 (cy 0) 68 f10, zI m12 (cy 0) 389 wg, zI m23 (cy 0) 2480 f23, zI m24 (cy 0) 2480 f24, zI m25 (cy 0) 20 f25, zI m26 (cy 0) 20 f26, zI m27 (cy 0) 620 kg, zI m28 (cy 0) 7 ng] H → va_D A [zO mm 12 [vI th, vR m1, vI tp, vI sz_, vI ap, vI bad, vI bk, vI opn, vI fp, vR m9, vR m10, vR m11, vR m12, vR m13, vR m14, vR m15, vI im, vI nr, vI nl, vR m19, vR m20, vR m21, vI sp_, vR m23, vR m24, vR m25, vR m26, vR m27, vR m28, vI wtc, vI wcl, vI qi, vI qp, vR m33, vI shu, vR m35, vI sfa, vI swr], zI m10 (cy 0) 68 f10, zI m12 (cy 0) 389 wg, zI m23 (cy 0) 2480 f23, zI m24 (cy 0) 2480 f24, zI m25 (cy 0) 20 f25, zI m26 (cy 0) 20 f26, zI m27 (cy 0) 620 kg, zI m28 (cy 0) 7 ng] → va_S A s.heap H locs → lv_has ls 6 [(3, vI q3), (2, vI q2), (0, vR mm), (1, vI n)] → W p l e _ s m _ below meth c H locs _ _ _ (F0 m 4 ls [])) (((20 - 0) + 1 : Int)).toNat 0 0 ir ip f12 f27 f28 _ _ _ (by omega) (by show ((-2147483648) : Int) ≤ 0 ∧ (0 : Int) ≤ 2147483647; decide) (by show (0 : Int) ≤ 0 ∧ (0 : Int) ≤ 20; decide) (by first | exact hr_ir | omega) (by first | exact hr_ip | omega) hf12 hP hD hS hlv
  clear hP hD hS hlv
  intro fu
  induction fu with
  | zero => intro q2 q3 qi qp wg kg ng H locs ls hm4 hl4_0 hl4_1 hl4_2 hl4_3 hiwg hP hD hS hlv; omega
  | succ fu ih4 =>
    intro q2 q3 qi qp wg kg ng H locs ls hm4 hl4_0 hl4_1 hl4_2 hl4_3 hiwg hP hD hS hlv
    refine lv_iload_n hx hb dX12_allPass_4 rfl (lv_at hlv 0 rfl) ?_
    refine lv_aload_n hx hb dX12_allPass_5 rfl (lv_at hlv 2 rfl) ?_
    refine va_get (D := D) (ci := 12) (v := vR m12) (C := RX12) (T := TX12) (N := 38) hx hb hts hi12 hown hG.1 hP 0 rfl rfl 12 (by decide) lf29 (fun _ h9 => h9) rfl dX12_allPass_6 ?_
    refine lv_sipush (v := iI 252) hx hb dX12_allPass_9 (by decide) ?_
    refine va_iald hx hb hG.1 hP 2 0 rfl rfl (iI_in (by omega) (by decide)) dX12_allPass_12 ?_
    refine lt_nz (i := 252) (by omega) (fun z_1 hz_1 lz_1 uz_1 => ?_)
    have hz_1 : z_1 = nz wg 252 := hz_1
    have hbz_1_7 := (hiwg.1).2.2.2.1
    refine ir_ge (tgt := 100) hx hb dX12_allPass_13 (by decide) (by first | exact rgw hl4_1 (by decide) (by decide) | omega) (by omega) (fun c_2 => ?_) (fun c_2 => ?_)
    · refine lv_iload_n hx hb dX12_allPass_100 rfl (lv_at hlv 1 rfl) ?_
      refine W.widen (k := 0) (n := 0) (Nat.le_of_ble_eq_true rfl) (Nat.le_of_ble_eq_true rfl) ?_
      exact W.iret (v := iI q2) hx hb hr (fun t ht hW => ⟨⟨iI q2, ((fun k => ([] : List Nat).getD k 0), (fun k => ([q2, qi, qp] : List Int).getD k 0), (fun k => ([wg, kg, ng] : List (Nat → Int32)).getD k (fun _ => 0))), rfl, ⟨rfl, (by show (0 ≤ qi ∧ qi ≤ 5); first | exact hl4_2 | omega), (by show ((-2147483648) ≤ qp ∧ qp ≤ 2147483647); first | exact hl4_3 | omega), (by show ((-2147483648) ≤ q2 ∧ q2 ≤ 2147483647); first | exact hl4_0 | omega), hf10, hiwg⟩, by rw [ht]; exact hP.sub [0, 1, 2, 3, 4, 5, 6, 7, 8] rfl, hD.sub [0, 1, 2, 3, 4, 5, 6, 7, 8] (by decide) rfl⟩, hS.F ht⟩) hS.2.2 dX12_allPass_101
    · refine lv_sipush (v := iI 253) hx hb dX12_allPass_16 (by decide) ?_
      refine lv_iconst (v := iI 5) hx hb dX12_allPass_19 (by decide) ?_
      refine lv_iload_n hx hb dX12_allPass_20 rfl (lv_at hlv 0 rfl) ?_
      refine lv_imul hx hb dX12_allPass_21 ?_
      refine lt_e (e0 := 5 * q3) (Int32.ofInt_mul _ _).symm (fun z_3 hz_3 => ?_)
      refine lv_iadd hx hb dX12_allPass_22 ?_
      refine lt_e (e0 := 253 + z_3) (Int32.ofInt_add _ _).symm (fun z_4 hz_4 => ?_)
      refine lv_istore (lv' := [(4, vI z_4), (3, vI q3), (2, vI q2), (0, vR mm), (1, vI n)]) hx hb dX12_allPass_23 hlv (by decide) rfl (fun ls hlv => ?_)
      refine lv_iconst (v := iI 0) hx hb dX12_allPass_25 (by decide) ?_
      refine lv_istore (lv' := [(5, vI 0), (4, vI z_4), (3, vI q3), (2, vI q2), (0, vR mm), (1, vI n)]) hx hb dX12_allPass_26 hlv (by decide) rfl (fun ls hlv => ?_)
      refine (?_ : ∀ (fu : Nat) (q5 : Int) (wh : Nat → Int32) (H : Heap) (locs : List Loc) (ls : Array Slot), 2147483647 - q5 < (fu : Int) → (0 ≤ q5 ∧ q5 ≤ 2147483647) → SQ qs pm wh → va_P D vwCl [zO mm 12 [vI th, vR m1, vI tp, vI sz_, vI ap, vI bad, vI bk, vI opn, vI fp, vR m9, vR m10, vR m11, vR m12, vR m13, vR m14, vR m15, vI im, vI nr, vI nl, vR m19, vR m20, vR m21, vI sp_, vR m23, vR m24, vR m25, vR m26, vR m27, vR m28, vI wtc, vI wcl, vI qi, vI qp, vR m33, vI shu, vR m35, vI sfa, vI swr], zI m10 (cy 0) 68 f10, zI m12 (cy 0) 389 wh, zI m23 (cy 0) 2480 f23, zI m24 (cy 0) 2480 f24, zI m25 (cy 0) 20 f25, zI m26 (cy 0) 20 f26, zI m27 (cy 0) 620 kg, zI m28 (cy 0) 7 ng] H → va_D A [zO mm 12 [vI th, vR m1, vI tp, vI sz_, vI ap, vI bad, vI bk, vI opn, vI fp, vR m9, vR m10, vR m11, vR m12, vR m13, vR m14, vR m15, vI im, vI nr, vI nl, vR m19, vR m20, vR m21, vI sp_, vR m23, vR m24, vR m25, vR m26, vR m27, vR m28, vI wtc, vI wcl, vI qi, vI qp, vR m33, vI shu, vR m35, vI sfa, vI swr], zI m10 (cy 0) 68 f10, zI m12 (cy 0) 389 wh, zI m23 (cy 0) 2480 f23, zI m24 (cy 0) 2480 f24, zI m25 (cy 0) 20 f25, zI m26 (cy 0) 20 f26, zI m27 (cy 0) 620 kg, zI m28 (cy 0) 7 ng] → va_S A s.heap H locs → lv_has ls 6 [(5, vI q5), (4, vI z_4), (3, vI q3), (2, vI q2), (0, vR mm), (1, vI n)] → W p l e _ s m _ below meth c H locs _ _ _ (F0 m 28 ls [])) (((2147483647 - 0) + 1 : Int)).toNat 0 wg _ _ _ (by omega) (by show (0 : Int) ≤ 0 ∧ (0 : Int) ≤ 2147483647; decide) hiwg hP hD hS hlv
      clear hP hD hS hlv
      intro fu
      induction fu with
      | zero => intro q5 wh H locs ls hm28 hl28_0 hiwh hP hD hS hlv; omega
      | succ fu ih28 =>
        intro q5 wh H locs ls hm28 hl28_0 hiwh hP hD hS hlv
        refine lv_iload hx hb dX12_allPass_28 (lv_at hlv 0 rfl) ?_
        refine lv_aload_n hx hb dX12_allPass_30 rfl (lv_at hlv 4 rfl) ?_
        refine va_get (D := D) (ci := 12) (v := vR m12) (C := RX12) (T := TX12) (N := 38) hx hb hts hi12 hown hG.1 hP 0 rfl rfl 12 (by decide) lf29 (fun _ h9 => h9) rfl dX12_allPass_31 ?_
        refine lv_iload hx hb dX12_allPass_34 (lv_at hlv 1 rfl) ?_
        refine va_iald hx hb hG.1 hP 2 0 rfl rfl (iI_in (by omega) (by decide)) dX12_allPass_36 ?_
        refine lt_nz (i := z_4) (by omega) (fun z_5 hz_5 lz_5 uz_5 => ?_)
        refine ir_ge (tgt := 50) hx hb dX12_allPass_37 (by decide) (by first | exact rgw hl28_0 (by decide) (by decide) | omega) (by omega) (fun c_6 => ?_) (fun c_6 => ?_)
        · refine lv_iload_n hx hb dX12_allPass_50 rfl (lv_at hlv 3 rfl) ?_
          refine lv_aload_n hx hb dX12_allPass_51 rfl (lv_at hlv 4 rfl) ?_
          refine lv_iload_n hx hb dX12_allPass_52 rfl (lv_at hlv 5 rfl) ?_
          refine lv_aload_n hx hb dX12_allPass_53 rfl (lv_at hlv 4 rfl) ?_
          refine va_get (D := D) (ci := 12) (v := vR m12) (C := RX12) (T := TX12) (N := 38) hx hb hts hi12 hown hG.1 hP 0 rfl rfl 12 (by decide) lf29 (fun _ h9 => h9) rfl dX12_allPass_54 ?_
          refine lv_iload hx hb dX12_allPass_57 (lv_at hlv 1 rfl) ?_
          refine lv_iconst (v := iI 1) hx hb dX12_allPass_59 (by decide) ?_
          refine lv_iadd hx hb dX12_allPass_60 ?_
          refine lt_e (e0 := z_4 + 1) (Int32.ofInt_add _ _).symm (fun z_7 hz_7 => ?_)
          refine va_iald hx hb hG.1 hP 2 0 rfl rfl (iI_in (by omega) (by decide)) dX12_allPass_61 ?_
          refine lt_nz (i := z_7) (by omega) (fun z_8 hz_8 lz_8 uz_8 => ?_)
          have hbz_8_11 := (hiwh.1).2.2.2.2.1 q3.toNat (by omega)
          rw [show 254 + 5 * q3.toNat = z_7.toNat by omega] at hbz_8_11
          refine lv_aload_n hx hb dX12_allPass_62 rfl (lv_at hlv 4 rfl) ?_
          refine va_get (D := D) (ci := 12) (v := vR m12) (C := RX12) (T := TX12) (N := 38) hx hb hts hi12 hown hG.1 hP 0 rfl rfl 12 (by decide) lf29 (fun _ h9 => h9) rfl dX12_allPass_63 ?_
          refine lv_iload hx hb dX12_allPass_66 (lv_at hlv 1 rfl) ?_
          refine lv_iconst (v := iI 2) hx hb dX12_allPass_68 (by decide) ?_
          refine lv_iadd hx hb dX12_allPass_69 ?_
          refine lt_e (e0 := z_4 + 2) (Int32.ofInt_add _ _).symm (fun z_9 hz_9 => ?_)
          refine va_iald hx hb hG.1 hP 2 0 rfl rfl (iI_in (by omega) (by decide)) dX12_allPass_70 ?_
          refine lt_nz (i := z_9) (by omega) (fun z_10 hz_10 lz_10 uz_10 => ?_)
          refine lv_aload_n hx hb dX12_allPass_71 rfl (lv_at hlv 4 rfl) ?_
          refine va_get (D := D) (ci := 12) (v := vR m12) (C := RX12) (T := TX12) (N := 38) hx hb hts hi12 hown hG.1 hP 0 rfl rfl 12 (by decide) lf29 (fun _ h9 => h9) rfl dX12_allPass_72 ?_
          refine lv_iload hx hb dX12_allPass_75 (lv_at hlv 1 rfl) ?_
          refine lv_iconst (v := iI 3) hx hb dX12_allPass_77 (by decide) ?_
          refine lv_iadd hx hb dX12_allPass_78 ?_
          refine lt_e (e0 := z_4 + 3) (Int32.ofInt_add _ _).symm (fun z_11 hz_11 => ?_)
          refine va_iald hx hb hG.1 hP 2 0 rfl rfl (iI_in (by omega) (by decide)) dX12_allPass_79 ?_
          refine lt_nz (i := z_11) (by omega) (fun z_12 hz_12 lz_12 uz_12 => ?_)
          refine lv_aload_n hx hb dX12_allPass_80 rfl (lv_at hlv 4 rfl) ?_
          refine va_get (D := D) (ci := 12) (v := vR m12) (C := RX12) (T := TX12) (N := 38) hx hb hts hi12 hown hG.1 hP 0 rfl rfl 12 (by decide) lf29 (fun _ h9 => h9) rfl dX12_allPass_81 ?_
          refine lv_iload hx hb dX12_allPass_84 (lv_at hlv 1 rfl) ?_
          refine lv_iconst (v := iI 4) hx hb dX12_allPass_86 (by decide) ?_
          refine lv_iadd hx hb dX12_allPass_87 ?_
          refine lt_e (e0 := z_4 + 4) (Int32.ofInt_add _ _).symm (fun z_13 hz_13 => ?_)
          refine va_iald hx hb hG.1 hP 2 0 rfl rfl (iI_in (by omega) (by decide)) dX12_allPass_88 ?_
          refine lt_nz (i := z_13) (by omega) (fun z_14 hz_14 lz_14 uz_14 => ?_)
          refine cj_i (wr := []) (va_runV (As := [vI n, vI z_8, vI z_10, vI z_12, vI z_14]) (rest := [vI q2]) ⟨hx, hb, hml, hown, hts⟩ (m_passes l hl D cy sa mm m1 m9 m10 m11 m12 m13 m14 m15 m19 m20 m21 m23 m24 m25 m26 m27 m28 m33 m35 th tp sz_ ap bad bk opn fp im nr nl sp_ wtc wcl qi qp shu sfa swr f10 wh f23 f24 f25 f26 kg ng n z_8 z_10 z_12 z_14 qs pm H.size (by first | exact hr_th | omega) (by first | exact hr_tp | omega) (by first | exact hr_sz_ | omega) (by first | exact hr_ap | omega) (by first | exact hr_bad | omega) (by first | exact hr_bk | omega) (by first | exact hr_opn | omega) (by first | exact hr_fp | omega) (by first | exact hr_im | omega) (by first | exact hr_nr | omega) (by first | exact hr_nl | omega) (by first | exact hr_sp_ | omega) (by first | exact hr_wtc | omega) (by first | exact hr_wcl | omega) (by first | exact hl4_2 | omega) (by first | exact hl4_3 | omega) (by first | exact hr_shu | omega) (by first | exact hr_sfa | omega) (by first | exact hr_swr | omega) (by first | exact hr_n | omega) (by omega) (by omega) (by omega) (by omega) (by first | exact hr_pm | omega) hp0 hp1 hn_li hf10 hiwh) (cwV 5 hts gg_1 rfl rfl rfl (by decide +kernel) ⟨Nat.le_of_ble_eq_true rfl, Nat.le_of_ble_eq_true rfl⟩) ⟨pcW.blind, (va_recv hG.1 hP (ci := 12) (q0 := 0) rfl rfl), (pcW.mk hP hD hS hA hG hT [0, 1, 2, 3, 4, 5, 6, 7, 8] rfl (by decide))⟩ rfl rfl hlv.1 rfl (lv_room (Nat.le_of_ble_eq_true rfl)) dX12_allPass_89 ⟨Nat.le_of_ble_eq_true rfl, Nat.le_of_ble_eq_true rfl⟩) hP hD hS hA [0, 1, 2, 3, 4, 5, 6, 7, 8] [] rfl rfl (by decide) (by decide) (fun r1 u1 H locs hw1 hP hD hS => ?_)
          obtain ⟨rfl, hq1_1, hq1_2, hq1_3, hq1_4, hq1_5⟩ := hw1
          have hP : va_P D vwCl [zO mm 12 [vI th, vR m1, vI tp, vI sz_, vI ap, vI bad, vI bk, vI opn, vI fp, vR m9, vR m10, vR m11, vR m12, vR m13, vR m14, vR m15, vI im, vI nr, vI nl, vR m19, vR m20, vR m21, vI sp_, vR m23, vR m24, vR m25, vR m26, vR m27, vR m28, vI wtc, vI wcl, vI (u1.2.1 1), vI (u1.2.1 2), vR m33, vI shu, vR m35, vI sfa, vI swr], zI m10 (cy 0) 68 f10, zI m12 (cy 0) 389 (u1.2.2 0), zI m23 (cy 0) 2480 f23, zI m24 (cy 0) 2480 f24, zI m25 (cy 0) 20 f25, zI m26 (cy 0) 20 f26, zI m27 (cy 0) 620 (u1.2.2 1), zI m28 (cy 0) 7 (u1.2.2 2)] H := hP
          have hD : va_D A [zO mm 12 [vI th, vR m1, vI tp, vI sz_, vI ap, vI bad, vI bk, vI opn, vI fp, vR m9, vR m10, vR m11, vR m12, vR m13, vR m14, vR m15, vI im, vI nr, vI nl, vR m19, vR m20, vR m21, vI sp_, vR m23, vR m24, vR m25, vR m26, vR m27, vR m28, vI wtc, vI wcl, vI (u1.2.1 1), vI (u1.2.1 2), vR m33, vI shu, vR m35, vI sfa, vI swr], zI m10 (cy 0) 68 f10, zI m12 (cy 0) 389 (u1.2.2 0), zI m23 (cy 0) 2480 f23, zI m24 (cy 0) 2480 f24, zI m25 (cy 0) 20 f25, zI m26 (cy 0) 20 f26, zI m27 (cy 0) 620 (u1.2.2 1), zI m28 (cy 0) 7 (u1.2.2 2)] := hD
          refine lv_iadd hx hb dX12_allPass_92 ?_
          refine lt_z (fun z_15 ez_15 lz_15 hz_15 => ?_)
          refine lv_istore_n (lv' := [(2, vI z_15), (5, vI q5), (4, vI z_4), (3, vI q3), (0, vR mm), (1, vI n)]) hx hb dX12_allPass_93 rfl hlv (by decide) rfl (fun ls hlv => ?_)
          obtain ⟨z_16, hz_16⟩ : ∃ z : Int, z = q3 + 1 := ⟨_, rfl⟩
          refine lv_iinc (v := iI z_16) (lv' := [(3, vI z_16), (2, vI z_15), (5, vI q5), (4, vI z_4), (0, vR mm), (1, vI n)]) hx hb dX12_allPass_94 hlv (k := 3) rfl (by rw [hz_16]; exact (Int32.ofInt_add _ _).symm) (by decide) rfl (fun ls hlv => ?_)
          refine lv_goto (tgt := 4) hx hb dX12_allPass_97 (by decide) ?_
          exact ih4 z_15 z_16 (u1.2.1 1) (u1.2.1 2) (u1.2.2 0) (u1.2.2 1) (u1.2.2 2) H locs ls (by omega) (by omega) (by omega) (by first | exact hq1_1 | omega) (by first | exact hq1_2 | omega) hq1_5 (hP.sub [0, 1, 2, 3, 4, 5, 6, 7, 8] rfl) (hD.sub [0, 1, 2, 3, 4, 5, 6, 7, 8] (by decide) rfl) hS (lv_sub hlv [0, 1, 4, 5] rfl)
        · refine lv_aload_n hx hb dX12_allPass_40 rfl (lv_at hlv 4 rfl) ?_
          refine cj_v (wr := [zI m23 (cy 0) 2480 f23, zI m24 (cy 0) 2480 f24, zI m25 (cy 0) 20 f25, zI m26 (cy 0) 20 f26, zI m27 (cy 0) 620 kg, zI m28 (cy 0) 7 ng]) (va_runV (As := []) (rest := []) ⟨hx, hb, hml, hown, hts⟩ (m_round l hl D cy sa mm m1 m9 m10 m11 m12 m13 m14 m15 m19 m20 m21 m23 m24 m25 m26 m27 m28 m33 m35 th tp sz_ ap bad bk opn fp im nr nl sp_ wtc wcl qi qp shu sfa swr f10 wh qs pm H.size (by first | exact hr_th | omega) (by first | exact hr_tp | omega) (by first | exact hr_sz_ | omega) (by first | exact hr_ap | omega) (by first | exact hr_bad | omega) (by first | exact hr_bk | omega) (by first | exact hr_opn | omega) (by first | exact hr_fp | omega) (by first | exact hr_im | omega) (by first | exact hr_nr | omega) (by first | exact hr_nl | omega) (by first | exact hr_sp_ | omega) (by first | exact hr_wtc | omega) (by first | exact hr_wcl | omega) (by first | exact hl4_2 | omega) (by first | exact hl4_3 | omega) (by first | exact hr_shu | omega) (by first | exact hr_sfa | omega) (by first | exact hr_swr | omega) (by first | exact hr_pm | omega) hf10 hiwh) (cwV 0 hts gg_2 rfl rfl rfl (by decide +kernel) ⟨Nat.le_of_ble_eq_true rfl, Nat.le_of_ble_eq_true rfl⟩) ⟨pcW.blind, (va_recv hG.1 hP (ci := 12) (q0 := 0) rfl rfl), (pcW.mk hP hD hS hA hG hT [0, 1, 2] rfl (by decide))⟩ rfl rfl hlv.1 rfl (lv_room (Nat.le_of_ble_eq_true rfl)) dX12_allPass_41 ⟨Nat.le_of_ble_eq_true rfl, Nat.le_of_ble_eq_true rfl⟩) hP hD hS hA [0, 1, 2] [3, 4, 5, 6, 7, 8] rfl rfl (by decide) (by decide) (fun u2 H locs hw2 hP hD hS => ?_)
          obtain ⟨hq2_0, hq2_1, hq2_2⟩ := hw2
          have hP : va_P D vwCl [zI m23 (cy 0) 2480 f23, zI m24 (cy 0) 2480 f24, zI m25 (cy 0) 20 f25, zI m26 (cy 0) 20 f26, zI m27 (cy 0) 620 kg, zI m28 (cy 0) 7 ng, zO mm 12 [vI th, vR m1, vI tp, vI sz_, vI ap, vI bad, vI bk, vI opn, vI fp, vR m9, vR m10, vR m11, vR m12, vR m13, vR m14, vR m15, vI im, vI nr, vI nl, vR m19, vR m20, vR m21, vI sp_, vR m23, vR m24, vR m25, vR m26, vR m27, vR m28, vI wtc, vI wcl, vI qi, vI qp, vR m33, vI shu, vR m35, vI sfa, vI swr], zI m10 (cy 0) 68 f10, zI m12 (cy 0) 389 (u2.2.2 0)] H := hP
          have hD : va_D A [zI m23 (cy 0) 2480 f23, zI m24 (cy 0) 2480 f24, zI m25 (cy 0) 20 f25, zI m26 (cy 0) 20 f26, zI m27 (cy 0) 620 kg, zI m28 (cy 0) 7 ng, zO mm 12 [vI th, vR m1, vI tp, vI sz_, vI ap, vI bad, vI bk, vI opn, vI fp, vR m9, vR m10, vR m11, vR m12, vR m13, vR m14, vR m15, vI im, vI nr, vI nl, vR m19, vR m20, vR m21, vI sp_, vR m23, vR m24, vR m25, vR m26, vR m27, vR m28, vI wtc, vI wcl, vI qi, vI qp, vR m33, vI shu, vR m35, vI sfa, vI swr], zI m10 (cy 0) 68 f10, zI m12 (cy 0) 389 (u2.2.2 0)] := hD
          obtain ⟨z_17, hz_17⟩ : ∃ z : Int, z = q5 + 1 := ⟨_, rfl⟩
          refine lv_iinc (v := iI z_17) (lv' := [(5, vI z_17), (4, vI z_4), (3, vI q3), (2, vI q2), (0, vR mm), (1, vI n)]) hx hb dX12_allPass_44 hlv (k := 0) rfl (by rw [hz_17]; exact (Int32.ofInt_add _ _).symm) (by decide) rfl (fun ls hlv => ?_)
          refine lv_goto (tgt := 28) hx hb dX12_allPass_47 (by decide) ?_
          exact ih28 z_17 (u2.2.2 0) H locs ls (by omega) (by omega) hq2_2 (hP.sub [6, 7, 8, 0, 1, 2, 3, 4, 5] rfl) (hD.sub [6, 7, 8, 0, 1, 2, 3, 4, 5] (by decide) rfl) hS (lv_sub hlv [0, 1, 2, 3, 4, 5] rfl)
def vs_m_passT : List Cond := .code yX12_pass_ cX12_pass_ 2 (some .int) :: (([.fieldLink RX12 1 "KerbSplashModel" "thrown" "I"] : List Cond) ++ ((wsX120) ++ ((wsV RX12 334 RX12 yX12_isLaw vs_m_isLaw) ++ ((wsV RX12 371 RX12 yX12_isStreet vs_m_isStreet) ++ ((wsV RX12 378 RX12 yX12_allPass vs_m_allPass) ++ ([]))))))
set_option maxHeartbeats 4000000 in
set_option maxRecDepth 100000 in
theorem m_passT (l : Launch) (hl : l.stackTraces = false) (D : va_G) (cy : Nat → ClassId) (sa : Nat → Nat) (mm m1 m9 m10 m11 m12 m13 m14 m15 m19 m20 m21 m23 m24 m25 m26 m27 m28 m33 m35 : Nat) (th tp sz_ ap bad bk opn fp im nr nl sp_ wtc wcl ir ip shu sfa swr : Int) (f1 f10 f12 f23 f24 f25 f26 f27 f28 : Nat → Int32) (n : Int) (qs : Nat → Int) (sz : Nat) (hr_th : (-2147483648) ≤ th ∧ th ≤ 2147483647) (hr_tp : 0 ≤ tp ∧ tp ≤ 600) (hr_sz_ : 0 ≤ sz_ ∧ sz_ ≤ 600) (hr_ap : 0 ≤ ap ∧ ap ≤ 602) (hr_bad : (-1) ≤ bad ∧ bad ≤ 602) (hr_bk : 0 ≤ bk ∧ bk ≤ 4) (hr_opn : 0 ≤ opn ∧ opn ≤ 7) (hr_fp : (-2147483648) ≤ fp ∧ fp ≤ 2147483647) (hr_im : 0 ≤ im ∧ im ≤ 3) (hr_nr : 0 ≤ nr ∧ nr ≤ 4) (hr_nl : 0 ≤ nl ∧ nl ≤ 4) (hr_sp_ : 0 ≤ sp_ ∧ sp_ ≤ 602) (hr_wtc : (-2147483648) ≤ wtc ∧ wtc ≤ 2147483647) (hr_wcl : 0 ≤ wcl ∧ wcl ≤ 95) (hr_ir : 0 ≤ ir ∧ ir ≤ 5) (hr_ip : (-2147483648) ≤ ip ∧ ip ≤ 2147483647) (hr_shu : (-2147483648) ≤ shu ∧ shu ≤ 2147483647) (hr_sfa : (-2147483648) ≤ sfa ∧ sfa ≤ 2147483647) (hr_swr : (-2147483648) ≤ swr ∧ swr ≤ 2147483647) (hr_n : (-2147483648) ≤ n ∧ n ≤ 2147483647) (hn_li : LI nl f23 f24 f25 f26) (hf10 : BI f10) (hf12 : SQ qs 8 f12) : Met l yX12_pass_ vs_m_passT ({ frames := 4, cells := 0, slots := 0, locals := 110 }) (va_Pc [vR mm, vI n] (pcW D cy sa sz [zO mm 12 [vI th, vR m1, vI tp, vI sz_, vI ap, vI bad, vI bk, vI opn, vI fp, vR m9, vR m10, vR m11, vR m12, vR m13, vR m14, vR m15, vI im, vI nr, vI nl, vR m19, vR m20, vR m21, vI sp_, vR m23, vR m24, vR m25, vR m26, vR m27, vR m28, vI wtc, vI wcl, vI ir, vI ip, vR m33, vI shu, vR m35, vI sfa, vI swr], zI m1 (cy 0) 4 f1, zI m10 (cy 0) 68 f10, zI m12 (cy 0) 389 f12, zI m23 (cy 0) 2480 f23, zI m24 (cy 0) 2480 f24, zI m25 (cy 0) 20 f25, zI m26 (cy 0) 20 f26, zI m27 (cy 0) 620 f27, zI m28 (cy 0) 7 f28])) (va_Qi (fun (r : Int32) (u : SV) => r = iI (u.2.1 0) ∧ ((-2147483648) ≤ u.2.1 1 ∧ u.2.1 1 ≤ 2147483647) ∧ (0 ≤ u.2.1 2 ∧ u.2.1 2 ≤ 5) ∧ ((-2147483648) ≤ u.2.1 3 ∧ u.2.1 3 ≤ 2147483647) ∧ ((-2147483648) ≤ u.2.1 0 ∧ u.2.1 0 ≤ 2147483647) ∧ BI f10 ∧ SQ qs 8 (u.2.2 1)) (fun u t => atW D (va_A [zO mm 12 [vI th, vR m1, vI tp, vI sz_, vI ap, vI bad, vI bk, vI opn, vI fp, vR m9, vR m10, vR m11, vR m12, vR m13, vR m14, vR m15, vI im, vI nr, vI nl, vR m19, vR m20, vR m21, vI sp_, vR m23, vR m24, vR m25, vR m26, vR m27, vR m28, vI wtc, vI wcl, vI ir, vI ip, vR m33, vI shu, vR m35, vI sfa, vI swr], zI m1 (cy 0) 4 f1, zI m10 (cy 0) 68 f10, zI m12 (cy 0) 389 f12, zI m23 (cy 0) 2480 f23, zI m24 (cy 0) 2480 f24, zI m25 (cy 0) 20 f25, zI m26 (cy 0) 20 f26, zI m27 (cy 0) 620 f27, zI m28 (cy 0) 7 f28] sz) [zO mm 12 [vI (u.2.1 1), vR m1, vI tp, vI sz_, vI ap, vI bad, vI bk, vI opn, vI fp, vR m9, vR m10, vR m11, vR m12, vR m13, vR m14, vR m15, vI im, vI nr, vI nl, vR m19, vR m20, vR m21, vI sp_, vR m23, vR m24, vR m25, vR m26, vR m27, vR m28, vI wtc, vI wcl, vI (u.2.1 2), vI (u.2.1 3), vR m33, vI shu, vR m35, vI sfa, vI swr], zI m1 (cy 0) 4 (u.2.2 0), zI m10 (cy 0) 68 f10, zI m12 (cy 0) 389 (u.2.2 1), zI m23 (cy 0) 2480 f23, zI m24 (cy 0) 2480 f24, zI m25 (cy 0) 20 f25, zI m26 (cy 0) 20 f26, zI m27 (cy 0) 620 (u.2.2 2), zI m28 (cy 0) 7 (u.2.2 3)] t) (va_A [zO mm 12 [vI th, vR m1, vI tp, vI sz_, vI ap, vI bad, vI bk, vI opn, vI fp, vR m9, vR m10, vR m11, vR m12, vR m13, vR m14, vR m15, vI im, vI nr, vI nl, vR m19, vR m20, vR m21, vI sp_, vR m23, vR m24, vR m25, vR m26, vR m27, vR m28, vI wtc, vI wcl, vI ir, vI ip, vR m33, vI shu, vR m35, vI sfa, vI swr], zI m1 (cy 0) 4 f1, zI m10 (cy 0) 68 f10, zI m12 (cy 0) 389 f12, zI m23 (cy 0) 2480 f23, zI m24 (cy 0) 2480 f24, zI m25 (cy 0) 20 f25, zI m26 (cy 0) 20 f26, zI m27 (cy 0) 620 f27, zI m28 (cy 0) 7 f28] sz)) 0 0 (va_A [zO mm 12 [vI th, vR m1, vI tp, vI sz_, vI ap, vI bad, vI bk, vI opn, vI fp, vR m9, vR m10, vR m11, vR m12, vR m13, vR m14, vR m15, vI im, vI nr, vI nl, vR m19, vR m20, vR m21, vI sp_, vR m23, vR m24, vR m25, vR m26, vR m27, vR m28, vI wtc, vI wcl, vI ir, vI ip, vR m33, vI shu, vR m35, vI sfa, vI swr], zI m1 (cy 0) 4 f1, zI m10 (cy 0) 68 f10, zI m12 (cy 0) 389 f12, zI m23 (cy 0) 2480 f23, zI m24 (cy 0) 2480 f24, zI m25 (cy 0) 20 f25, zI m26 (cy 0) 20 f26, zI m27 (cy 0) 620 f27, zI m28 (cy 0) 7 f28] sz) := by
  refine Met.ofW (cc := cX12_pass_) (maxL := 2) (ret := (some .int)) (by decide) rfl ?_
  intro p e s m args below meth c s₁ B hml hv
  obtain ⟨rfl, hsz, hP, hG, hD0, hT⟩ := hv
  have hx := B.exec
  have hb := B.bytes
  have hr := B.returns
  have hts := atoms_spec (ws := vs_m_passT) B.pre
  have hown : s.vm.findClass RX12 = some m.cls := findClass_of_methodNamed B.named
  have hlocks := B.notSynchronized
  subst hsz
  have hD := hD0.self (sz := s.heap.size)
  generalize hAe : va_A [zO mm 12 [vI th, vR m1, vI tp, vI sz_, vI ap, vI bad, vI bk, vI opn, vI fp, vR m9, vR m10, vR m11, vR m12, vR m13, vR m14, vR m15, vI im, vI nr, vI nl, vR m19, vR m20, vR m21, vI sp_, vR m23, vR m24, vR m25, vR m26, vR m27, vR m28, vI wtc, vI wcl, vI ir, vI ip, vR m33, vI shu, vR m35, vI sfa, vI swr], zI m1 (cy 0) 4 f1, zI m10 (cy 0) 68 f10, zI m12 (cy 0) 389 f12, zI m23 (cy 0) 2480 f23, zI m24 (cy 0) 2480 f24, zI m25 (cy 0) 20 f25, zI m26 (cy 0) 20 f26, zI m27 (cy 0) 620 f27, zI m28 (cy 0) 7 f28] s.heap.size = A at hD hT ⊢
  have hA : ∀ q : Nat, s.heap.size ≤ q → A q := fun q h => by rw [← hAe]; exact Or.inr h
  have hS : va_S A s.heap s.heap [] := va_S.rf
  have hl0 := lv_entry ([vR mm, vI n]) (n := 2) (Nat.le_of_ble_eq_true rfl)
  rw [lg_entry_eq]
  generalize (lg_sl ([vR mm, vI n]) ++ List.replicate (2 - (lg_sl ([vR mm, vI n])).length) Slot.unset).toArray = ls at hl0 ⊢
  have hlv : lv_has ls 2 [(0, vR mm), (1, vI n)] := hl0
  have lf1 := hts (.fieldLink RX12 1 "KerbSplashModel" "thrown" "I") (List.mem_of_getElem? (i := 1) rfl)
  have hi12 : ∀ w ∈ wsX120, w ∈ vs_m_passT := fun w h => List.mem_cons_of_mem _ (List.mem_append_right _ (List.mem_append_left _ h))
  have gg_1 : GoodIn vs_m_passT (wsV RX12 334 RX12 yX12_isLaw vs_m_isLaw) := goodIn_sub (fun w h => List.mem_cons_of_mem _ (List.mem_append_right _ (List.mem_append_right _ (List.mem_append_left _ h)))) (gd_V gd_m_isLaw (by decide +kernel))
  have gg_2 : GoodIn vs_m_passT (wsV RX12 371 RX12 yX12_isStreet vs_m_isStreet) := goodIn_sub (fun w h => List.mem_cons_of_mem _ (List.mem_append_right _ (List.mem_append_right _ (List.mem_append_right _ (List.mem_append_left _ h))))) (gd_V gd_m_isStreet (by decide +kernel))
  have gg_3 : GoodIn vs_m_passT (wsV RX12 378 RX12 yX12_allPass vs_m_allPass) := goodIn_sub (fun w h => List.mem_cons_of_mem _ (List.mem_append_right _ (List.mem_append_right _ (List.mem_append_right _ (List.mem_append_right _ (List.mem_append_left _ h)))))) (gd_V gd_m_allPass (by decide +kernel))
  refine lv_aload_n hx hb dX12_pass__0 rfl (lv_at hlv 0 rfl) ?_
  refine lv_iconst (v := iI 0) hx hb dX12_pass__1 (by decide) ?_
  refine va_put (D := D) (ci := 12) (v := vI 0) (ty := .int) (C := RX12) (T := TX12) (N := 38) hx hb hts hi12 tyX12 tyX12_ok nmX12 hown hG.1 hP hD hS 0 rfl rfl 0 (by decide) lf1 (fun _ h9 => h9) rfl (by decide +kernel) rfl rfl (Nat.le_of_ble_eq_true rfl) dX12_pass__2 (fun H locs hP hD hS => ?_)
  have hP : va_P D vwCl [zO mm 12 [vI 0, vR m1, vI tp, vI sz_, vI ap, vI bad, vI bk, vI opn, vI fp, vR m9, vR m10, vR m11, vR m12, vR m13, vR m14, vR m15, vI im, vI nr, vI nl, vR m19, vR m20, vR m21, vI sp_, vR m23, vR m24, vR m25, vR m26, vR m27, vR m28, vI wtc, vI wcl, vI ir, vI ip, vR m33, vI shu, vR m35, vI sfa, vI swr], zI m1 (cy 0) 4 f1, zI m10 (cy 0) 68 f10, zI m12 (cy 0) 389 f12, zI m23 (cy 0) 2480 f23, zI m24 (cy 0) 2480 f24, zI m25 (cy 0) 20 f25, zI m26 (cy 0) 20 f26, zI m27 (cy 0) 620 f27, zI m28 (cy 0) 7 f28] H := hP
  have hD : va_D A [zO mm 12 [vI 0, vR m1, vI tp, vI sz_, vI ap, vI bad, vI bk, vI opn, vI fp, vR m9, vR m10, vR m11, vR m12, vR m13, vR m14, vR m15, vI im, vI nr, vI nl, vR m19, vR m20, vR m21, vI sp_, vR m23, vR m24, vR m25, vR m26, vR m27, vR m28, vI wtc, vI wcl, vI ir, vI ip, vR m33, vI shu, vR m35, vI sfa, vI swr], zI m1 (cy 0) 4 f1, zI m10 (cy 0) 68 f10, zI m12 (cy 0) 389 f12, zI m23 (cy 0) 2480 f23, zI m24 (cy 0) 2480 f24, zI m25 (cy 0) 20 f25, zI m26 (cy 0) 20 f26, zI m27 (cy 0) 620 f27, zI m28 (cy 0) 7 f28] := hD
  refine lv_aload_n hx hb dX12_pass__5 rfl (lv_at hlv 0 rfl) ?_
  refine lv_iload_n hx hb dX12_pass__6 rfl (lv_at hlv 1 rfl) ?_
  refine lv_iconst (v := iI 1) hx hb dX12_pass__7 (by decide) ?_
  refine cj_i (wr := [zI m10 (cy 0) 68 f10, zI m12 (cy 0) 389 f12, zI m23 (cy 0) 2480 f23, zI m24 (cy 0) 2480 f24, zI m25 (cy 0) 20 f25, zI m26 (cy 0) 20 f26, zI m27 (cy 0) 620 f27, zI m28 (cy 0) 7 f28]) (va_runV (As := [vI n, vI 1]) (rest := []) ⟨hx, hb, hml, hown, hts⟩ (m_isLaw l hl D cy sa mm m1 m9 m10 m11 m12 m13 m14 m15 m19 m20 m21 m23 m24 m25 m26 m27 m28 m33 m35 0 tp sz_ ap bad bk opn fp im nr nl sp_ wtc wcl ir ip shu sfa swr f1 n 1 H.size (by show ((-2147483648) : Int) ≤ 0 ∧ (0 : Int) ≤ 2147483647; decide) (by first | exact hr_tp | omega) (by first | exact hr_sz_ | omega) (by first | exact hr_ap | omega) (by first | exact hr_bad | omega) (by first | exact hr_bk | omega) (by first | exact hr_opn | omega) (by first | exact hr_fp | omega) (by first | exact hr_im | omega) (by first | exact hr_nr | omega) (by first | exact hr_nl | omega) (by first | exact hr_sp_ | omega) (by first | exact hr_wtc | omega) (by first | exact hr_wcl | omega) (by first | exact hr_ir | omega) (by first | exact hr_ip | omega) (by first | exact hr_shu | omega) (by first | exact hr_sfa | omega) (by first | exact hr_swr | omega) (by first | exact hr_n | omega) (by show (1 : Int) ≤ 1 ∧ (1 : Int) ≤ 4; decide)) (cwV 2 hts gg_1 rfl rfl rfl (by decide +kernel) ⟨Nat.le_of_ble_eq_true rfl, Nat.le_of_ble_eq_true rfl⟩) ⟨pcW.blind, (va_recv hG.1 hP (ci := 12) (q0 := 0) rfl rfl), (pcW.mk hP hD hS hA hG hT [0, 1] rfl (by decide))⟩ rfl rfl hlv.1 rfl (lv_room (Nat.le_of_ble_eq_true rfl)) dX12_pass__8 ⟨Nat.le_of_ble_eq_true rfl, Nat.le_of_ble_eq_true rfl⟩) hP hD hS hA [0, 1] [2, 3, 4, 5, 6, 7, 8, 9] rfl rfl (by decide) (by decide) (fun r1 u1 H locs hw1 hP hD hS => ?_)
  obtain ⟨rfl, hq1_1, hq1_2, hq1_3⟩ := hw1
  have hP : va_P D vwCl [zI m10 (cy 0) 68 f10, zI m12 (cy 0) 389 f12, zI m23 (cy 0) 2480 f23, zI m24 (cy 0) 2480 f24, zI m25 (cy 0) 20 f25, zI m26 (cy 0) 20 f26, zI m27 (cy 0) 620 f27, zI m28 (cy 0) 7 f28, zO mm 12 [vI (u1.2.1 1), vR m1, vI tp, vI sz_, vI ap, vI bad, vI bk, vI opn, vI fp, vR m9, vR m10, vR m11, vR m12, vR m13, vR m14, vR m15, vI im, vI nr, vI nl, vR m19, vR m20, vR m21, vI sp_, vR m23, vR m24, vR m25, vR m26, vR m27, vR m28, vI wtc, vI wcl, vI ir, vI ip, vR m33, vI shu, vR m35, vI sfa, vI swr], zI m1 (cy 0) 4 (u1.2.2 0)] H := hP
  have hD : va_D A [zI m10 (cy 0) 68 f10, zI m12 (cy 0) 389 f12, zI m23 (cy 0) 2480 f23, zI m24 (cy 0) 2480 f24, zI m25 (cy 0) 20 f25, zI m26 (cy 0) 20 f26, zI m27 (cy 0) 620 f27, zI m28 (cy 0) 7 f28, zO mm 12 [vI (u1.2.1 1), vR m1, vI tp, vI sz_, vI ap, vI bad, vI bk, vI opn, vI fp, vR m9, vR m10, vR m11, vR m12, vR m13, vR m14, vR m15, vI im, vI nr, vI nl, vR m19, vR m20, vR m21, vI sp_, vR m23, vR m24, vR m25, vR m26, vR m27, vR m28, vI wtc, vI wcl, vI ir, vI ip, vR m33, vI shu, vR m35, vI sfa, vI swr], zI m1 (cy 0) 4 (u1.2.2 0)] := hD
  refine iz_eq (tgt := 22) hx hb dX12_pass__11 (by decide) (by first | exact rgw hq1_2 (by decide) (by decide) | omega) (fun c_1 => ?_) (fun c_1 => ?_)
  · refine lv_iconst (v := iI 0) hx hb dX12_pass__22 (by decide) ?_
    refine W.widen (k := 0) (n := 0) (Nat.le_of_ble_eq_true rfl) (Nat.le_of_ble_eq_true rfl) ?_
    exact W.iret (v := iI 0) hx hb hr (fun t ht hW => ⟨⟨iI 0, ((fun k => ([] : List Nat).getD k 0), (fun k => ([0, (u1.2.1 1), ir, ip] : List Int).getD k 0), (fun k => ([(u1.2.2 0), f12, f27, f28] : List (Nat → Int32)).getD k (fun _ => 0))), rfl, ⟨rfl, (by show ((-2147483648) ≤ (u1.2.1 1) ∧ (u1.2.1 1) ≤ 2147483647); first | exact hq1_1 | omega), (by show (0 ≤ ir ∧ ir ≤ 5); first | exact hr_ir | omega), (by show ((-2147483648) ≤ ip ∧ ip ≤ 2147483647); first | exact hr_ip | omega), (by show ((-2147483648) ≤ 0 ∧ 0 ≤ 2147483647); show ((-2147483648) : Int) ≤ 0 ∧ (0 : Int) ≤ 2147483647; decide), hf10, hf12⟩, by rw [ht]; exact hP.sub [8, 9, 0, 1, 2, 3, 4, 5, 6, 7] rfl, hD.sub [8, 9, 0, 1, 2, 3, 4, 5, 6, 7] (by decide) rfl⟩, hS.F ht⟩) hS.2.2 dX12_pass__23
  · refine lv_aload_n hx hb dX12_pass__14 rfl (lv_at hlv 0 rfl) ?_
    refine lv_iconst (v := iI 2) hx hb dX12_pass__15 (by decide) ?_
    refine cj_i (wr := [zI m12 (cy 0) 389 f12, zI m23 (cy 0) 2480 f23, zI m24 (cy 0) 2480 f24, zI m25 (cy 0) 20 f25, zI m26 (cy 0) 20 f26, zI m27 (cy 0) 620 f27, zI m28 (cy 0) 7 f28]) (va_runV (As := [vI 2]) (rest := []) ⟨hx, hb, hml, hown, hts⟩ (m_isStreet l hl D cy sa mm m1 m9 m10 m11 m12 m13 m14 m15 m19 m20 m21 m23 m24 m25 m26 m27 m28 m33 m35 (u1.2.1 1) tp sz_ ap bad bk opn fp im nr nl sp_ wtc wcl ir ip shu sfa swr (u1.2.2 0) f10 2 H.size (by first | exact hq1_1 | omega) (by first | exact hr_tp | omega) (by first | exact hr_sz_ | omega) (by first | exact hr_ap | omega) (by first | exact hr_bad | omega) (by first | exact hr_bk | omega) (by first | exact hr_opn | omega) (by first | exact hr_fp | omega) (by first | exact hr_im | omega) (by first | exact hr_nr | omega) (by first | exact hr_nl | omega) (by first | exact hr_sp_ | omega) (by first | exact hr_wtc | omega) (by first | exact hr_wcl | omega) (by first | exact hr_ir | omega) (by first | exact hr_ip | omega) (by first | exact hr_shu | omega) (by first | exact hr_sfa | omega) (by first | exact hr_swr | omega) (by show (1 : Int) ≤ 2 ∧ (2 : Int) ≤ 4; decide) hf10) (cwV 1 hts gg_2 rfl rfl rfl (by decide +kernel) ⟨Nat.le_of_ble_eq_true rfl, Nat.le_of_ble_eq_true rfl⟩) ⟨pcW.blind, (va_recv hG.1 hP (ci := 12) (q0 := 8) rfl rfl), (pcW.mk hP hD hS hA hG hT [8, 9, 0] rfl (by decide))⟩ rfl rfl hlv.1 rfl (lv_room (Nat.le_of_ble_eq_true rfl)) dX12_pass__16 ⟨Nat.le_of_ble_eq_true rfl, Nat.le_of_ble_eq_true rfl⟩) hP hD hS hA [8, 9, 0] [1, 2, 3, 4, 5, 6, 7] rfl rfl (by decide) (by decide) (fun r2 u2 H locs hw2 hP hD hS => ?_)
    obtain ⟨rfl, hq2_1, hq2_2, hq2_3, hq2_4⟩ := hw2
    have hP : va_P D vwCl [zI m12 (cy 0) 389 f12, zI m23 (cy 0) 2480 f23, zI m24 (cy 0) 2480 f24, zI m25 (cy 0) 20 f25, zI m26 (cy 0) 20 f26, zI m27 (cy 0) 620 f27, zI m28 (cy 0) 7 f28, zO mm 12 [vI (u2.2.1 1), vR m1, vI tp, vI sz_, vI ap, vI bad, vI bk, vI opn, vI fp, vR m9, vR m10, vR m11, vR m12, vR m13, vR m14, vR m15, vI im, vI nr, vI nl, vR m19, vR m20, vR m21, vI sp_, vR m23, vR m24, vR m25, vR m26, vR m27, vR m28, vI wtc, vI wcl, vI ir, vI ip, vR m33, vI shu, vR m35, vI sfa, vI swr], zI m1 (cy 0) 4 (u2.2.2 0), zI m10 (cy 0) 68 f10] H := hP
    have hD : va_D A [zI m12 (cy 0) 389 f12, zI m23 (cy 0) 2480 f23, zI m24 (cy 0) 2480 f24, zI m25 (cy 0) 20 f25, zI m26 (cy 0) 20 f26, zI m27 (cy 0) 620 f27, zI m28 (cy 0) 7 f28, zO mm 12 [vI (u2.2.1 1), vR m1, vI tp, vI sz_, vI ap, vI bad, vI bk, vI opn, vI fp, vR m9, vR m10, vR m11, vR m12, vR m13, vR m14, vR m15, vI im, vI nr, vI nl, vR m19, vR m20, vR m21, vI sp_, vR m23, vR m24, vR m25, vR m26, vR m27, vR m28, vI wtc, vI wcl, vI ir, vI ip, vR m33, vI shu, vR m35, vI sfa, vI swr], zI m1 (cy 0) 4 (u2.2.2 0), zI m10 (cy 0) 68 f10] := hD
    refine iz_ne (tgt := 24) hx hb dX12_pass__19 (by decide) (by first | exact rgw hq2_2 (by decide) (by decide) | omega) (fun c_2 => ?_) (fun c_2 => ?_)
    · refine lv_aload_n hx hb dX12_pass__24 rfl (lv_at hlv 0 rfl) ?_
      refine lv_iload_n hx hb dX12_pass__25 rfl (lv_at hlv 1 rfl) ?_
      refine cj_i (wr := [zI m1 (cy 0) 4 (u2.2.2 0)]) (va_runV (As := [vI n]) (rest := []) ⟨hx, hb, hml, hown, hts⟩ (m_allPass l hl D cy sa mm m1 m9 m10 m11 m12 m13 m14 m15 m19 m20 m21 m23 m24 m25 m26 m27 m28 m33 m35 (u2.2.1 1) tp sz_ ap bad bk opn fp im nr nl sp_ wtc wcl ir ip shu sfa swr f10 f12 f23 f24 f25 f26 f27 f28 n qs 8 H.size (by first | exact hq2_1 | omega) (by first | exact hr_tp | omega) (by first | exact hr_sz_ | omega) (by first | exact hr_ap | omega) (by first | exact hr_bad | omega) (by first | exact hr_bk | omega) (by first | exact hr_opn | omega) (by first | exact hr_fp | omega) (by first | exact hr_im | omega) (by first | exact hr_nr | omega) (by first | exact hr_nl | omega) (by first | exact hr_sp_ | omega) (by first | exact hr_wtc | omega) (by first | exact hr_wcl | omega) (by first | exact hr_ir | omega) (by first | exact hr_ip | omega) (by first | exact hr_shu | omega) (by first | exact hr_sfa | omega) (by first | exact hr_swr | omega) (by omega) (by show (8 : Int) ≤ 8 ∧ (8 : Int) ≤ 9; decide) (by omega) (by omega) hn_li hq2_4 hf12) (cwV 1 hts gg_3 rfl rfl rfl (by decide +kernel) ⟨Nat.le_of_ble_eq_true rfl, Nat.le_of_ble_eq_true rfl⟩) ⟨pcW.blind, (va_recv hG.1 hP (ci := 12) (q0 := 7) rfl rfl), (pcW.mk hP hD hS hA hG hT [7, 9, 0, 1, 2, 3, 4, 5, 6] rfl (by decide))⟩ rfl rfl hlv.1 rfl (lv_room (Nat.le_of_ble_eq_true rfl)) dX12_pass__26 ⟨Nat.le_of_ble_eq_true rfl, Nat.le_of_ble_eq_true rfl⟩) hP hD hS hA [7, 9, 0, 1, 2, 3, 4, 5, 6] [8] rfl rfl (by decide) (by decide) (fun r3 u3 H locs hw3 hP hD hS => ?_)
      obtain ⟨rfl, hq3_1, hq3_2, hq3_3, hq3_4, hq3_5⟩ := hw3
      have hP : va_P D vwCl [zI m1 (cy 0) 4 (u2.2.2 0), zO mm 12 [vI (u2.2.1 1), vR m1, vI tp, vI sz_, vI ap, vI bad, vI bk, vI opn, vI fp, vR m9, vR m10, vR m11, vR m12, vR m13, vR m14, vR m15, vI im, vI nr, vI nl, vR m19, vR m20, vR m21, vI sp_, vR m23, vR m24, vR m25, vR m26, vR m27, vR m28, vI wtc, vI wcl, vI (u3.2.1 1), vI (u3.2.1 2), vR m33, vI shu, vR m35, vI sfa, vI swr], zI m10 (cy 0) 68 f10, zI m12 (cy 0) 389 (u3.2.2 0), zI m23 (cy 0) 2480 f23, zI m24 (cy 0) 2480 f24, zI m25 (cy 0) 20 f25, zI m26 (cy 0) 20 f26, zI m27 (cy 0) 620 (u3.2.2 1), zI m28 (cy 0) 7 (u3.2.2 2)] H := hP
      have hD : va_D A [zI m1 (cy 0) 4 (u2.2.2 0), zO mm 12 [vI (u2.2.1 1), vR m1, vI tp, vI sz_, vI ap, vI bad, vI bk, vI opn, vI fp, vR m9, vR m10, vR m11, vR m12, vR m13, vR m14, vR m15, vI im, vI nr, vI nl, vR m19, vR m20, vR m21, vI sp_, vR m23, vR m24, vR m25, vR m26, vR m27, vR m28, vI wtc, vI wcl, vI (u3.2.1 1), vI (u3.2.1 2), vR m33, vI shu, vR m35, vI sfa, vI swr], zI m10 (cy 0) 68 f10, zI m12 (cy 0) 389 (u3.2.2 0), zI m23 (cy 0) 2480 f23, zI m24 (cy 0) 2480 f24, zI m25 (cy 0) 20 f25, zI m26 (cy 0) 20 f26, zI m27 (cy 0) 620 (u3.2.2 1), zI m28 (cy 0) 7 (u3.2.2 2)] := hD
      refine W.widen (k := 0) (n := 0) (Nat.le_of_ble_eq_true rfl) (Nat.le_of_ble_eq_true rfl) ?_
      exact W.iret (v := iI (u3.2.1 0)) hx hb hr (fun t ht hW => ⟨⟨iI (u3.2.1 0), ((fun k => ([] : List Nat).getD k 0), (fun k => ([(u3.2.1 0), (u2.2.1 1), (u3.2.1 1), (u3.2.1 2)] : List Int).getD k 0), (fun k => ([(u2.2.2 0), (u3.2.2 0), (u3.2.2 1), (u3.2.2 2)] : List (Nat → Int32)).getD k (fun _ => 0))), rfl, ⟨rfl, (by show ((-2147483648) ≤ (u2.2.1 1) ∧ (u2.2.1 1) ≤ 2147483647); first | exact hq2_1 | omega), (by show (0 ≤ (u3.2.1 1) ∧ (u3.2.1 1) ≤ 5); first | exact hq3_1 | omega), (by show ((-2147483648) ≤ (u3.2.1 2) ∧ (u3.2.1 2) ≤ 2147483647); first | exact hq3_2 | omega), (by show ((-2147483648) ≤ (u3.2.1 0) ∧ (u3.2.1 0) ≤ 2147483647); first | exact hq3_3 | omega), hq3_4, hq3_5⟩, by rw [ht]; exact hP.sub [1, 0, 2, 3, 4, 5, 6, 7, 8, 9] rfl, hD.sub [1, 0, 2, 3, 4, 5, 6, 7, 8, 9] (by decide) rfl⟩, hS.F ht⟩) hS.2.2 dX12_pass__29
    · refine lv_iconst (v := iI 0) hx hb dX12_pass__22 (by decide) ?_
      refine W.widen (k := 0) (n := 0) (Nat.le_of_ble_eq_true rfl) (Nat.le_of_ble_eq_true rfl) ?_
      exact W.iret (v := iI 0) hx hb hr (fun t ht hW => ⟨⟨iI 0, ((fun k => ([] : List Nat).getD k 0), (fun k => ([0, (u2.2.1 1), ir, ip] : List Int).getD k 0), (fun k => ([(u2.2.2 0), f12, f27, f28] : List (Nat → Int32)).getD k (fun _ => 0))), rfl, ⟨rfl, (by show ((-2147483648) ≤ (u2.2.1 1) ∧ (u2.2.1 1) ≤ 2147483647); first | exact hq2_1 | omega), (by show (0 ≤ ir ∧ ir ≤ 5); first | exact hr_ir | omega), (by show ((-2147483648) ≤ ip ∧ ip ≤ 2147483647); first | exact hr_ip | omega), (by show ((-2147483648) ≤ 0 ∧ 0 ≤ 2147483647); show ((-2147483648) : Int) ≤ 0 ∧ (0 : Int) ≤ 2147483647; decide), hq2_4, hf12⟩, by rw [ht]; exact hP.sub [7, 8, 9, 0, 1, 2, 3, 4, 5, 6] rfl, hD.sub [7, 8, 9, 0, 1, 2, 3, 4, 5, 6] (by decide) rfl⟩, hS.F ht⟩) hS.2.2 dX12_pass__23